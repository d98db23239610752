def term0 : Nat → Int32 := upd (upd (upd (fun _ => 0) 0 0) 1 2) 2 0
theorem tc_in {a b : Int32} (h : ¬ sp_X10_termCanBe a b = 0) : vp_in a 3 := by
  have h0 : ∀ k : Int32, 0 ≤ k.toInt → k.toInt < 3 → a = k → vp_in a 3 := fun k h1 h2 e => by rw [vp_in_iff, e]; omega
  unfold sp_X10_termCanBe at h
  by_cases e0 : a = 0
  · exact h0 0 (by decide) (by decide) e0
  · by_cases e1 : a = 1
    · exact h0 1 (by decide) (by decide) e1
    · by_cases e2 : a = 2
      · exact h0 2 (by decide) (by decide) e2
      · simp [e0, e1, e2] at h
theorem tc_ge (n : Nat) : (-1000) ≤ term0 n := by
  have h : term0 n = 0 ∨ term0 n = 2 := by
    unfold term0 upd
    by_cases h2 : n = 2
    · simp [h2]
    · by_cases h1 : n = 1
      · simp [h1]
      · by_cases h0 : n = 0 <;> simp [h0, h1, h2]
  rcases h with h | h <;> rw [h] <;> decide
def sp_X11_put (a : Int32) (b : Int32) (d : Int32) : Int32 := if (sp_X11_isWithin a 40) = 0 then (-1) else (if (sp_X6_canBe b d) = 0 then (-1) else (if b = 0 then 0 else (if b = 1 then 3 else 0)))
set_option maxHeartbeats 1000000 in
set_option maxRecDepth 100000 in
theorem c_X11_put (l : Launch) (G : va_G) (cs : Nat → ClassId) (h0 : Nat) (a : Int32) (b : Int32) (d : Int32) (f_h0_0 : Value) (aS : Nat) (f_h0_2 : Value) (f_h0_3 : Value) (f_h0_4 : Value) (f_h0_5 : Value) (f_h0_6 : Value) (f_h0_7 : Value) (f_h0_8 : Value) (f_h0_9 : Value) (f_h0_10 : Value) (f_h0_11 : Value) (h1 : Nat) (lr : Int32) (rfs : Nat → Int32) (aW : Nat) (aD : Nat) (f_aS_2 : Value) (f_aS_3 : Value) (f_aS_4 : Value) (aR : Nat) (f_aW_1 : Value) (f_aW_2 : Value) (f_aW_3 : Value) (f_aW_4 : Value) (f_aW_5 : Value) (f_aW_6 : Value) (aK : Nat) (aH : Nat) (aU : Nat) (f_aD_0 : Value) (f_aD_1 : Value) (f_aD_2 : Value) (f_aD_3 : Value) (f_aD_4 : Value) (f_aD_5 : Value) (f_aD_6 : Value) (sz : Nat) : Met l yX11_put (Cond.code yX11_put cX11_put 7 (some .int) :: gW) ({ frames := 1, cells := 0, slots := 0, locals := 21 }) (va_Pc [.ref h0, .int a, .int b, .int d] (Pre G cs [(h0, .inr (11, [f_h0_0, .ref aS, f_h0_2, f_h0_3, f_h0_4, f_h0_5, f_h0_6, f_h0_7, f_h0_8, f_h0_9, f_h0_10, f_h0_11, .ref h1, .int lr])), (h1, .inl (cs 0, 7, .inl rfs)), (aS, .inr (7, [.ref aW, .ref aD, f_aS_2, f_aS_3, f_aS_4])), (aW, .inr (10, [.ref aR, f_aW_1, f_aW_2, f_aW_3, f_aW_4, f_aW_5, f_aW_6])), (aR, .inr (6, [.ref aK, .ref aH, .ref aU, .long 0])), (aK, .inl (cs 0, 40, .inl (fun _ => 0))), (aH, .inl (cs 0, 40, .inl (fl (fun _ => 0) 40 3))), (aU, .inl (cs 0, 40, .inl (fun _ => 0))), (aD, .inr (2, [f_aD_0, f_aD_1, f_aD_2, f_aD_3, f_aD_4, f_aD_5, f_aD_6]))] sz)) (va_Qi (fun r (u : Unit) => r = sp_X11_put a b d) (fun (u : Unit) t => Aft G cs (va_A [(h0, .inr (11, [f_h0_0, .ref aS, f_h0_2, f_h0_3, f_h0_4, f_h0_5, f_h0_6, f_h0_7, f_h0_8, f_h0_9, f_h0_10, f_h0_11, .ref h1, .int lr])), (h1, .inl (cs 0, 7, .inl rfs)), (aS, .inr (7, [.ref aW, .ref aD, f_aS_2, f_aS_3, f_aS_4])), (aW, .inr (10, [.ref aR, f_aW_1, f_aW_2, f_aW_3, f_aW_4, f_aW_5, f_aW_6])), (aR, .inr (6, [.ref aK, .ref aH, .ref aU, .long 0])), (aK, .inl (cs 0, 40, .inl (fun _ => 0))), (aH, .inl (cs 0, 40, .inl (fl (fun _ => 0) 40 3))), (aU, .inl (cs 0, 40, .inl (fun _ => 0))), (aD, .inr (2, [f_aD_0, f_aD_1, f_aD_2, f_aD_3, f_aD_4, f_aD_5, f_aD_6]))] sz) [] t) (va_A [(h0, .inr (11, [f_h0_0, .ref aS, f_h0_2, f_h0_3, f_h0_4, f_h0_5, f_h0_6, f_h0_7, f_h0_8, f_h0_9, f_h0_10, f_h0_11, .ref h1, .int lr])), (h1, .inl (cs 0, 7, .inl rfs)), (aS, .inr (7, [.ref aW, .ref aD, f_aS_2, f_aS_3, f_aS_4])), (aW, .inr (10, [.ref aR, f_aW_1, f_aW_2, f_aW_3, f_aW_4, f_aW_5, f_aW_6])), (aR, .inr (6, [.ref aK, .ref aH, .ref aU, .long 0])), (aK, .inl (cs 0, 40, .inl (fun _ => 0))), (aH, .inl (cs 0, 40, .inl (fl (fun _ => 0) 40 3))), (aU, .inl (cs 0, 40, .inl (fun _ => 0))), (aD, .inr (2, [f_aD_0, f_aD_1, f_aD_2, f_aD_3, f_aD_4, f_aD_5, f_aD_6]))] sz)) 0 0 (va_A [(h0, .inr (11, [f_h0_0, .ref aS, f_h0_2, f_h0_3, f_h0_4, f_h0_5, f_h0_6, f_h0_7, f_h0_8, f_h0_9, f_h0_10, f_h0_11, .ref h1, .int lr])), (h1, .inl (cs 0, 7, .inl rfs)), (aS, .inr (7, [.ref aW, .ref aD, f_aS_2, f_aS_3, f_aS_4])), (aW, .inr (10, [.ref aR, f_aW_1, f_aW_2, f_aW_3, f_aW_4, f_aW_5, f_aW_6])), (aR, .inr (6, [.ref aK, .ref aH, .ref aU, .long 0])), (aK, .inl (cs 0, 40, .inl (fun _ => 0))), (aH, .inl (cs 0, 40, .inl (fl (fun _ => 0) 40 3))), (aU, .inl (cs 0, 40, .inl (fun _ => 0))), (aD, .inr (2, [f_aD_0, f_aD_1, f_aD_2, f_aD_3, f_aD_4, f_aD_5, f_aD_6]))] sz) := by
  refine Met.ofW (cc := cX11_put) (maxL := 7) (ret := (some .int)) (by decide) rfl ?_
  intro p e s m args below meth c s₁ B hml hv
  obtain ⟨rfl, hsz, hP, hK, hD0, hN⟩ := hv
  have hx := B.exec
  have hb := B.bytes
  have hr := B.returns
  have hts := atoms_spec (ws := Cond.code yX11_put cX11_put 7 (some .int) :: gW) B.pre
  have htl : ∀ w ∈ gW, w.before _ s = true := fun w h => hts w (List.mem_cons_of_mem _ h)
  have hown : s.vm.findClass RX11 = some m.cls := findClass_of_methodNamed B.named
  have hlocks := B.notSynchronized
  subst hsz
  have hD := hD0.self (sz := s.heap.size)
  generalize hAe : va_A [(h0, .inr (11, [f_h0_0, .ref aS, f_h0_2, f_h0_3, f_h0_4, f_h0_5, f_h0_6, f_h0_7, f_h0_8, f_h0_9, f_h0_10, f_h0_11, .ref h1, .int lr])), (h1, .inl (cs 0, 7, .inl rfs)), (aS, .inr (7, [.ref aW, .ref aD, f_aS_2, f_aS_3, f_aS_4])), (aW, .inr (10, [.ref aR, f_aW_1, f_aW_2, f_aW_3, f_aW_4, f_aW_5, f_aW_6])), (aR, .inr (6, [.ref aK, .ref aH, .ref aU, .long 0])), (aK, .inl (cs 0, 40, .inl (fun _ => 0))), (aH, .inl (cs 0, 40, .inl (fl (fun _ => 0) 40 3))), (aU, .inl (cs 0, 40, .inl (fun _ => 0))), (aD, .inr (2, [f_aD_0, f_aD_1, f_aD_2, f_aD_3, f_aD_4, f_aD_5, f_aD_6]))] s.heap.size = A at hD ⊢
  have hA : ∀ q : Nat, s.heap.size ≤ q → A q := fun q h => by rw [← hAe]; exact Or.inr h
  have hS : va_S A s.heap s.heap [] := va_S.rf
  have hl := lv_entry ([.ref h0, .int a, .int b, .int d]) (n := 7) (Nat.le_of_ble_eq_true rfl)
  rw [lg_entry_eq]
  generalize (lg_sl ([.ref h0, .int a, .int b, .int d]) ++ List.replicate (7 - (lg_sl ([.ref h0, .int a, .int b, .int d])).length) Slot.unset).toArray = ls at hl ⊢
  have hl : lv_has ls 7 [(0, .ref h0), (1, .int a), (2, .int b), (3, .int d)] := hl
  refine lv_aload_n hx hb dX11_put_0 rfl (lv_at hl 0 rfl) ?_
  refine va_get (ci := 11) (v := .ref aS) (C := RX11) (T := TX11) (N := 14) hx hb htl inX11 hown hK hP 0 rfl rfl 1 (by decide) (htl _ fl_RX11_21) (fun _ h9 => h9) rfl dX11_put_1 ?_
  refine va_get (ci := 7) (v := .ref aW) (C := RX7) (T := TX7) (N := 5) hx hb htl inX7 hown hK hP 2 rfl rfl 0 (by decide) (htl _ fl_RX11_78) (fun _ h9 => h9) rfl dX11_put_4 ?_
  refine lv_astore (lv' := [(4, .ref aW), (0, .ref h0), (1, .int a), (2, .int b), (3, .int d)]) hx hb dX11_put_7 hl (by decide) rfl (fun ls hl => ?_)
  refine lv_iload_n hx hb dX11_put_9 rfl (lv_at hl 2 rfl) ?_
  refine lv_bipush (v := 40) hx hb dX11_put_10 (by decide) ?_
  refine vp_callSi (mkSr (rest := []) ⟨hx, hb, hml, hown, htl⟩ hN hK (c_X11_isWithin l G cs a 40) (cS 2 htl lk_RX11_82 mT_X11_isWithin mN_RX11 mC_X11_isWithin ok_X11_isWithin rfl rfl ⟨(Nat.le_of_ble_eq_true rfl), (Nat.le_of_ble_eq_true rfl)⟩) rfl hl.1 rfl (Nat.le_of_ble_eq_true rfl) dX11_put_12 ⟨(Nat.le_of_ble_eq_true rfl), (Nat.le_of_ble_eq_true rfl)⟩) (fun r hw => ?_)
  obtain ⟨rfl, hz_1⟩ := hw
  refine lv_if_eq (tgt := 26) hx hb dX11_put_15 (by decide) (fun c_15 => ?_) (fun c_15 => ?_)
  · refine lv_aload_n hx hb dX11_put_26 rfl (lv_at hl 1 rfl) ?_
    refine lv_iconst (v := (-1)) hx hb dX11_put_27 (by decide) ?_
    refine mi (wr := [(aS, .inr (7, [.ref aW, .ref aD, f_aS_2, f_aS_3, f_aS_4])), (aW, .inr (10, [.ref aR, f_aW_1, f_aW_2, f_aW_3, f_aW_4, f_aW_5, f_aW_6])), (aR, .inr (6, [.ref aK, .ref aH, .ref aU, .long 0])), (aK, .inl (cs 0, 40, .inl (fun _ => 0))), (aH, .inl (cs 0, 40, .inl (fl (fun _ => 0) 40 3))), (aU, .inl (cs 0, 40, .inl (fun _ => 0))), (aD, .inr (2, [f_aD_0, f_aD_1, f_aD_2, f_aD_3, f_aD_4, f_aD_5, f_aD_6]))]) (mkV (rest := []) ⟨hx, hb, hml, hown, htl⟩ hN hK hP hD (c_X11_settle l G cs h0 (-1) f_h0_0 (.ref aS) f_h0_2 f_h0_3 f_h0_4 f_h0_5 f_h0_6 f_h0_7 f_h0_8 f_h0_9 f_h0_10 f_h0_11 h1 lr (rfs) _ (by decide)) [0, 1] rfl rfl 0 11 rfl rfl (cV 1 htl lk_RX11_91 mI_X11_settle mS_X11_settle mN_RX11 mC_X11_settle ok_X11_settle rfl rfl ⟨(Nat.le_of_ble_eq_true rfl), (Nat.le_of_ble_eq_true rfl)⟩) rfl hl.1 rfl (Nat.le_of_ble_eq_true rfl) dX11_put_28 ⟨(Nat.le_of_ble_eq_true rfl), (Nat.le_of_ble_eq_true rfl)⟩) hP hD hS hA [0, 1] [2, 3, 4, 5, 6, 7, 8] rfl rfl rfl (by decide) (fun r u_28 H locs hw hP hD hS => ?_)
    have hP : va_P G vwCl [(aS, .inr (7, [.ref aW, .ref aD, f_aS_2, f_aS_3, f_aS_4])), (aW, .inr (10, [.ref aR, f_aW_1, f_aW_2, f_aW_3, f_aW_4, f_aW_5, f_aW_6])), (aR, .inr (6, [.ref aK, .ref aH, .ref aU, .long 0])), (aK, .inl (cs 0, 40, .inl (fun _ => 0))), (aH, .inl (cs 0, 40, .inl (fl (fun _ => 0) 40 3))), (aU, .inl (cs 0, 40, .inl (fun _ => 0))), (aD, .inr (2, [f_aD_0, f_aD_1, f_aD_2, f_aD_3, f_aD_4, f_aD_5, f_aD_6]))] H := hP
    have hD : va_D A [(aS, .inr (7, [.ref aW, .ref aD, f_aS_2, f_aS_3, f_aS_4])), (aW, .inr (10, [.ref aR, f_aW_1, f_aW_2, f_aW_3, f_aW_4, f_aW_5, f_aW_6])), (aR, .inr (6, [.ref aK, .ref aH, .ref aU, .long 0])), (aK, .inl (cs 0, 40, .inl (fun _ => 0))), (aH, .inl (cs 0, 40, .inl (fl (fun _ => 0) 40 3))), (aU, .inl (cs 0, 40, .inl (fun _ => 0))), (aD, .inr (2, [f_aD_0, f_aD_1, f_aD_2, f_aD_3, f_aD_4, f_aD_5, f_aD_6]))] := hD
    obtain rfl : r = (-1) := hw.trans (by unfold sp_X11_settle; (try rw [if_neg (by decide), if_neg (by decide)]) <;> first | rfl | decide)
    exact W.iret (v := (-1)) hx hb hr (fun t ht hW => ⟨⟨(-1), (), rfl, (by unfold sp_X11_put; rw [if_pos c_15]), ⟨fun k q h => by simp at h, va_K.moved hW.alike hK, ⟨fun i j p q h => by simp at h, fun k q h => by simp at h⟩⟩⟩, hS.F ht⟩) hS.2.2 dX11_put_31
  · refine lv_iload_n hx hb dX11_put_18 rfl (lv_at hl 3 rfl) ?_
    refine lv_iload_n hx hb dX11_put_19 rfl (lv_at hl 4 rfl) ?_
    refine vp_callSi (mkSr (rest := []) ⟨hx, hb, hml, hown, htl⟩ hN hK (c_X6_canBe l G cs b d) (cS 2 htl lk_RX11_86 mT_X6_canBe mN_RX6 mC_X6_canBe ok_X6_canBe rfl rfl ⟨(Nat.le_of_ble_eq_true rfl), (Nat.le_of_ble_eq_true rfl)⟩) rfl hl.1 rfl (Nat.le_of_ble_eq_true rfl) dX11_put_20 ⟨(Nat.le_of_ble_eq_true rfl), (Nat.le_of_ble_eq_true rfl)⟩) (fun r hw => ?_)
    obtain ⟨rfl, hz_2⟩ := hw
    refine lv_if_ne (tgt := 32) hx hb dX11_put_23 (by decide) (fun c_23 => ?_) (fun c_23 => ?_)
    · refine lv_iload_n hx hb dX11_put_32 rfl (lv_at hl 3 rfl) ?_
      refine lv_if_ne (tgt := 55) hx hb dX11_put_33 (by decide) (fun c_33 => ?_) (fun c_33 => ?_)
      · refine lv_aload hx hb dX11_put_55 (lv_at hl 0 rfl) ?_
        refine va_get (ci := 10) (v := .ref aR) (C := RX10) (T := TX10) (N := 7) hx hb htl inX10 hown hK hP 3 rfl rfl 0 (by decide) (htl _ fl_RX11_95) (fun _ h9 => h9) rfl dX11_put_57 ?_
        refine lv_iload_n hx hb dX11_put_60 rfl (lv_at hl 3 rfl) ?_
        refine va_csr (mkVr (rest := []) ⟨hx, hb, hml, hown, htl⟩ hN hK hP (c_X6_rowOf l G cs aR b aK aH aU (.long 0)) [4] rfl 0 6 rfl rfl (cV 1 htl lk_RX11_103 mI_X6_rowOf mS_X6_rowOf mN_RX6 mC_X6_rowOf ok_X6_rowOf rfl rfl ⟨(Nat.le_of_ble_eq_true rfl), (Nat.le_of_ble_eq_true rfl)⟩) rfl hl.1 rfl (Nat.le_of_ble_eq_true rfl) dX11_put_61 ⟨(Nat.le_of_ble_eq_true rfl), (Nat.le_of_ble_eq_true rfl)⟩) (fun r hw => ?_)
        by_cases k_3 : b = 1
        · obtain rfl : aH = r := (hw.trans (by unfold sp_X6_rowOf; rw [if_neg c_33, if_pos k_3])).symm
          refine lv_astore (lv' := [(5, .ref aH), (4, .ref aW), (0, .ref h0), (1, .int a), (2, .int b), (3, .int d)]) hx hb dX11_put_64 hl (by decide) rfl (fun ls hl => ?_)
          refine lv_aload hx hb dX11_put_66 (lv_at hl 0 rfl) ?_
          refine lv_iload_n hx hb dX11_put_68 rfl (lv_at hl 3 rfl) ?_
          refine va_iald hx hb hK hP 6 0 rfl rfl (iw_in c_15) dX11_put_69 ?_
          refine lv_topi (fun xv ex => ?_)
          obtain rfl : xv = 3 := ex.trans (fl_in (iw_in c_15))
          refine lv_istore (lv' := [(6, .int 3), (5, .ref aH), (4, .ref aW), (0, .ref h0), (1, .int a), (2, .int b), (3, .int d)]) hx hb dX11_put_70 hl (by decide) rfl (fun ls hl => ?_)
          refine lv_aload hx hb dX11_put_72 (lv_at hl 1 rfl) ?_
          refine lv_iload_n hx hb dX11_put_74 rfl (lv_at hl 4 rfl) ?_
          refine lv_iload_n hx hb dX11_put_75 rfl (lv_at hl 6 rfl) ?_
          refine va_iast hx hb hK hP hD hS 6 0 rfl rfl (iw_in c_15) dX11_put_76 (fun H locs hP hD hS => ?_)
          have hP : va_P G vwCl [(h0, .inr (11, [f_h0_0, .ref aS, f_h0_2, f_h0_3, f_h0_4, f_h0_5, f_h0_6, f_h0_7, f_h0_8, f_h0_9, f_h0_10, f_h0_11, .ref h1, .int lr])), (h1, .inl (cs 0, 7, .inl rfs)), (aS, .inr (7, [.ref aW, .ref aD, f_aS_2, f_aS_3, f_aS_4])), (aW, .inr (10, [.ref aR, f_aW_1, f_aW_2, f_aW_3, f_aW_4, f_aW_5, f_aW_6])), (aR, .inr (6, [.ref aK, .ref aH, .ref aU, .long 0])), (aK, .inl (cs 0, 40, .inl (fun _ => 0))), (aH, .inl (cs 0, 40, .inl (upd (fl (fun _ => 0) 40 3) a.toNatClampNeg d))), (aU, .inl (cs 0, 40, .inl (fun _ => 0))), (aD, .inr (2, [f_aD_0, f_aD_1, f_aD_2, f_aD_3, f_aD_4, f_aD_5, f_aD_6]))] H := hP
          have hD : va_D A [(h0, .inr (11, [f_h0_0, .ref aS, f_h0_2, f_h0_3, f_h0_4, f_h0_5, f_h0_6, f_h0_7, f_h0_8, f_h0_9, f_h0_10, f_h0_11, .ref h1, .int lr])), (h1, .inl (cs 0, 7, .inl rfs)), (aS, .inr (7, [.ref aW, .ref aD, f_aS_2, f_aS_3, f_aS_4])), (aW, .inr (10, [.ref aR, f_aW_1, f_aW_2, f_aW_3, f_aW_4, f_aW_5, f_aW_6])), (aR, .inr (6, [.ref aK, .ref aH, .ref aU, .long 0])), (aK, .inl (cs 0, 40, .inl (fun _ => 0))), (aH, .inl (cs 0, 40, .inl (upd (fl (fun _ => 0) 40 3) a.toNatClampNeg d))), (aU, .inl (cs 0, 40, .inl (fun _ => 0))), (aD, .inr (2, [f_aD_0, f_aD_1, f_aD_2, f_aD_3, f_aD_4, f_aD_5, f_aD_6]))] := hD
          refine lv_aload_n hx hb dX11_put_77 rfl (lv_at hl 3 rfl) ?_
          refine va_get (ci := 11) (v := .ref aS) (C := RX11) (T := TX11) (N := 14) hx hb htl inX11 hown hK hP 0 rfl rfl 1 (by decide) (htl _ fl_RX11_21) (fun _ h9 => h9) rfl dX11_put_78 ?_
          refine va_get (ci := 7) (v := .ref aD) (C := RX7) (T := TX7) (N := 5) hx hb htl inX7 hown hK hP 2 rfl rfl 1 (by decide) (htl _ fl_RX11_107) (fun _ h9 => h9) rfl dX11_put_81 ?_
          refine mv (wr := [(h0, .inr (11, [f_h0_0, .ref aS, f_h0_2, f_h0_3, f_h0_4, f_h0_5, f_h0_6, f_h0_7, f_h0_8, f_h0_9, f_h0_10, f_h0_11, .ref h1, .int lr])), (h1, .inl (cs 0, 7, .inl rfs)), (aS, .inr (7, [.ref aW, .ref aD, f_aS_2, f_aS_3, f_aS_4])), (aW, .inr (10, [.ref aR, f_aW_1, f_aW_2, f_aW_3, f_aW_4, f_aW_5, f_aW_6])), (aR, .inr (6, [.ref aK, .ref aH, .ref aU, .long 0])), (aK, .inl (cs 0, 40, .inl (fun _ => 0))), (aH, .inl (cs 0, 40, .inl (upd (fl (fun _ => 0) 40 3) a.toNatClampNeg d))), (aU, .inl (cs 0, 40, .inl (fun _ => 0)))]) (mkV (rest := []) ⟨hx, hb, hml, hown, htl⟩ hN hK hP hD (c_X2_clear l G cs aD f_aD_0 f_aD_1 f_aD_2 f_aD_3 f_aD_4 f_aD_5 f_aD_6 _) [8] rfl rfl 0 2 rfl rfl (cV 0 htl lk_RX11_111 mI_X2_clear mS_X2_clear mN_RX2 mC_X2_clear ok_X2_clear rfl rfl ⟨(Nat.le_of_ble_eq_true rfl), (Nat.le_of_ble_eq_true rfl)⟩) rfl hl.1 rfl (Nat.le_of_ble_eq_true rfl) dX11_put_84 ⟨(Nat.le_of_ble_eq_true rfl), (Nat.le_of_ble_eq_true rfl)⟩) hP hD hS hA [8] [0, 1, 2, 3, 4, 5, 6, 7] rfl rfl rfl (by decide) (fun u_84 H locs hw hP hD hS => ?_)
          have hP : va_P G vwCl [(h0, .inr (11, [f_h0_0, .ref aS, f_h0_2, f_h0_3, f_h0_4, f_h0_5, f_h0_6, f_h0_7, f_h0_8, f_h0_9, f_h0_10, f_h0_11, .ref h1, .int lr])), (h1, .inl (cs 0, 7, .inl rfs)), (aS, .inr (7, [.ref aW, .ref aD, f_aS_2, f_aS_3, f_aS_4])), (aW, .inr (10, [.ref aR, f_aW_1, f_aW_2, f_aW_3, f_aW_4, f_aW_5, f_aW_6])), (aR, .inr (6, [.ref aK, .ref aH, .ref aU, .long 0])), (aK, .inl (cs 0, 40, .inl (fun _ => 0))), (aH, .inl (cs 0, 40, .inl (upd (fl (fun _ => 0) 40 3) a.toNatClampNeg d))), (aU, .inl (cs 0, 40, .inl (fun _ => 0))), (aD, .inr (2, [f_aD_0, f_aD_1, f_aD_2, f_aD_3, f_aD_4, .int 0, f_aD_6]))] H := hP
          have hD : va_D A [(h0, .inr (11, [f_h0_0, .ref aS, f_h0_2, f_h0_3, f_h0_4, f_h0_5, f_h0_6, f_h0_7, f_h0_8, f_h0_9, f_h0_10, f_h0_11, .ref h1, .int lr])), (h1, .inl (cs 0, 7, .inl rfs)), (aS, .inr (7, [.ref aW, .ref aD, f_aS_2, f_aS_3, f_aS_4])), (aW, .inr (10, [.ref aR, f_aW_1, f_aW_2, f_aW_3, f_aW_4, f_aW_5, f_aW_6])), (aR, .inr (6, [.ref aK, .ref aH, .ref aU, .long 0])), (aK, .inl (cs 0, 40, .inl (fun _ => 0))), (aH, .inl (cs 0, 40, .inl (upd (fl (fun _ => 0) 40 3) a.toNatClampNeg d))), (aU, .inl (cs 0, 40, .inl (fun _ => 0))), (aD, .inr (2, [f_aD_0, f_aD_1, f_aD_2, f_aD_3, f_aD_4, .int 0, f_aD_6]))] := hD
          refine lv_aload_n hx hb dX11_put_87 rfl (lv_at hl 3 rfl) ?_
          refine lv_iload hx hb dX11_put_88 (lv_at hl 0 rfl) ?_
          refine mi (wr := [(aS, .inr (7, [.ref aW, .ref aD, f_aS_2, f_aS_3, f_aS_4])), (aW, .inr (10, [.ref aR, f_aW_1, f_aW_2, f_aW_3, f_aW_4, f_aW_5, f_aW_6])), (aR, .inr (6, [.ref aK, .ref aH, .ref aU, .long 0])), (aK, .inl (cs 0, 40, .inl (fun _ => 0))), (aH, .inl (cs 0, 40, .inl (upd (fl (fun _ => 0) 40 3) a.toNatClampNeg d))), (aU, .inl (cs 0, 40, .inl (fun _ => 0))), (aD, .inr (2, [f_aD_0, f_aD_1, f_aD_2, f_aD_3, f_aD_4, .int 0, f_aD_6]))]) (mkV (rest := []) ⟨hx, hb, hml, hown, htl⟩ hN hK hP hD (c_X11_settle l G cs h0 3 f_h0_0 (.ref aS) f_h0_2 f_h0_3 f_h0_4 f_h0_5 f_h0_6 f_h0_7 f_h0_8 f_h0_9 f_h0_10 f_h0_11 h1 lr (rfs) _ (by decide)) [0, 1] rfl rfl 0 11 rfl rfl (cV 1 htl lk_RX11_91 mI_X11_settle mS_X11_settle mN_RX11 mC_X11_settle ok_X11_settle rfl rfl ⟨(Nat.le_of_ble_eq_true rfl), (Nat.le_of_ble_eq_true rfl)⟩) rfl hl.1 rfl (Nat.le_of_ble_eq_true rfl) dX11_put_90 ⟨(Nat.le_of_ble_eq_true rfl), (Nat.le_of_ble_eq_true rfl)⟩) hP hD hS hA [0, 1] [2, 3, 4, 5, 6, 7, 8] rfl rfl rfl (by decide) (fun r u_90 H locs hw hP hD hS => ?_)
          have hP : va_P G vwCl [(aS, .inr (7, [.ref aW, .ref aD, f_aS_2, f_aS_3, f_aS_4])), (aW, .inr (10, [.ref aR, f_aW_1, f_aW_2, f_aW_3, f_aW_4, f_aW_5, f_aW_6])), (aR, .inr (6, [.ref aK, .ref aH, .ref aU, .long 0])), (aK, .inl (cs 0, 40, .inl (fun _ => 0))), (aH, .inl (cs 0, 40, .inl (upd (fl (fun _ => 0) 40 3) a.toNatClampNeg d))), (aU, .inl (cs 0, 40, .inl (fun _ => 0))), (aD, .inr (2, [f_aD_0, f_aD_1, f_aD_2, f_aD_3, f_aD_4, .int 0, f_aD_6]))] H := hP
          have hD : va_D A [(aS, .inr (7, [.ref aW, .ref aD, f_aS_2, f_aS_3, f_aS_4])), (aW, .inr (10, [.ref aR, f_aW_1, f_aW_2, f_aW_3, f_aW_4, f_aW_5, f_aW_6])), (aR, .inr (6, [.ref aK, .ref aH, .ref aU, .long 0])), (aK, .inl (cs 0, 40, .inl (fun _ => 0))), (aH, .inl (cs 0, 40, .inl (upd (fl (fun _ => 0) 40 3) a.toNatClampNeg d))), (aU, .inl (cs 0, 40, .inl (fun _ => 0))), (aD, .inr (2, [f_aD_0, f_aD_1, f_aD_2, f_aD_3, f_aD_4, .int 0, f_aD_6]))] := hD
          obtain rfl : r = 3 := hw.trans (by unfold sp_X11_settle; (try rw [if_pos (by decide)]) <;> first | rfl | decide)
          exact W.iret (v := 3) hx hb hr (fun t ht hW => ⟨⟨3, (), rfl, (by unfold sp_X11_put; rw [if_neg c_15, if_neg c_23, if_neg c_33, if_pos k_3]), ⟨fun k q h => by simp at h, va_K.moved hW.alike hK, ⟨fun i j p q h => by simp at h, fun k q h => by simp at h⟩⟩⟩, hS.F ht⟩) hS.2.2 dX11_put_93
        · obtain rfl : aU = r := (hw.trans (by unfold sp_X6_rowOf; rw [if_neg c_33, if_neg k_3])).symm
          refine lv_astore (lv' := [(5, .ref aU), (4, .ref aW), (0, .ref h0), (1, .int a), (2, .int b), (3, .int d)]) hx hb dX11_put_64 hl (by decide) rfl (fun ls hl => ?_)
          refine lv_aload hx hb dX11_put_66 (lv_at hl 0 rfl) ?_
          refine lv_iload_n hx hb dX11_put_68 rfl (lv_at hl 3 rfl) ?_
          refine va_iald hx hb hK hP 7 0 rfl rfl (iw_in c_15) dX11_put_69 ?_
          refine lv_topi (fun xv ex => ?_)
          obtain rfl : xv = 0 := ex.trans (by first | exact pk_us | rfl | decide)
          refine lv_istore (lv' := [(6, .int 0), (5, .ref aU), (4, .ref aW), (0, .ref h0), (1, .int a), (2, .int b), (3, .int d)]) hx hb dX11_put_70 hl (by decide) rfl (fun ls hl => ?_)
          refine lv_aload hx hb dX11_put_72 (lv_at hl 1 rfl) ?_
          refine lv_iload_n hx hb dX11_put_74 rfl (lv_at hl 4 rfl) ?_
          refine lv_iload_n hx hb dX11_put_75 rfl (lv_at hl 6 rfl) ?_
          refine va_iast hx hb hK hP hD hS 7 0 rfl rfl (iw_in c_15) dX11_put_76 (fun H locs hP hD hS => ?_)
          have hP : va_P G vwCl [(h0, .inr (11, [f_h0_0, .ref aS, f_h0_2, f_h0_3, f_h0_4, f_h0_5, f_h0_6, f_h0_7, f_h0_8, f_h0_9, f_h0_10, f_h0_11, .ref h1, .int lr])), (h1, .inl (cs 0, 7, .inl rfs)), (aS, .inr (7, [.ref aW, .ref aD, f_aS_2, f_aS_3, f_aS_4])), (aW, .inr (10, [.ref aR, f_aW_1, f_aW_2, f_aW_3, f_aW_4, f_aW_5, f_aW_6])), (aR, .inr (6, [.ref aK, .ref aH, .ref aU, .long 0])), (aK, .inl (cs 0, 40, .inl (fun _ => 0))), (aH, .inl (cs 0, 40, .inl (fl (fun _ => 0) 40 3))), (aU, .inl (cs 0, 40, .inl (upd (fun _ => 0) a.toNatClampNeg d))), (aD, .inr (2, [f_aD_0, f_aD_1, f_aD_2, f_aD_3, f_aD_4, f_aD_5, f_aD_6]))] H := hP
          have hD : va_D A [(h0, .inr (11, [f_h0_0, .ref aS, f_h0_2, f_h0_3, f_h0_4, f_h0_5, f_h0_6, f_h0_7, f_h0_8, f_h0_9, f_h0_10, f_h0_11, .ref h1, .int lr])), (h1, .inl (cs 0, 7, .inl rfs)), (aS, .inr (7, [.ref aW, .ref aD, f_aS_2, f_aS_3, f_aS_4])), (aW, .inr (10, [.ref aR, f_aW_1, f_aW_2, f_aW_3, f_aW_4, f_aW_5, f_aW_6])), (aR, .inr (6, [.ref aK, .ref aH, .ref aU, .long 0])), (aK, .inl (cs 0, 40, .inl (fun _ => 0))), (aH, .inl (cs 0, 40, .inl (fl (fun _ => 0) 40 3))), (aU, .inl (cs 0, 40, .inl (upd (fun _ => 0) a.toNatClampNeg d))), (aD, .inr (2, [f_aD_0, f_aD_1, f_aD_2, f_aD_3, f_aD_4, f_aD_5, f_aD_6]))] := hD
          refine lv_aload_n hx hb dX11_put_77 rfl (lv_at hl 3 rfl) ?_
          refine va_get (ci := 11) (v := .ref aS) (C := RX11) (T := TX11) (N := 14) hx hb htl inX11 hown hK hP 0 rfl rfl 1 (by decide) (htl _ fl_RX11_21) (fun _ h9 => h9) rfl dX11_put_78 ?_
          refine va_get (ci := 7) (v := .ref aD) (C := RX7) (T := TX7) (N := 5) hx hb htl inX7 hown hK hP 2 rfl rfl 1 (by decide) (htl _ fl_RX11_107) (fun _ h9 => h9) rfl dX11_put_81 ?_
          refine mv (wr := [(h0, .inr (11, [f_h0_0, .ref aS, f_h0_2, f_h0_3, f_h0_4, f_h0_5, f_h0_6, f_h0_7, f_h0_8, f_h0_9, f_h0_10, f_h0_11, .ref h1, .int lr])), (h1, .inl (cs 0, 7, .inl rfs)), (aS, .inr (7, [.ref aW, .ref aD, f_aS_2, f_aS_3, f_aS_4])), (aW, .inr (10, [.ref aR, f_aW_1, f_aW_2, f_aW_3, f_aW_4, f_aW_5, f_aW_6])), (aR, .inr (6, [.ref aK, .ref aH, .ref aU, .long 0])), (aK, .inl (cs 0, 40, .inl (fun _ => 0))), (aH, .inl (cs 0, 40, .inl (fl (fun _ => 0) 40 3))), (aU, .inl (cs 0, 40, .inl (upd (fun _ => 0) a.toNatClampNeg d)))]) (mkV (rest := []) ⟨hx, hb, hml, hown, htl⟩ hN hK hP hD (c_X2_clear l G cs aD f_aD_0 f_aD_1 f_aD_2 f_aD_3 f_aD_4 f_aD_5 f_aD_6 _) [8] rfl rfl 0 2 rfl rfl (cV 0 htl lk_RX11_111 mI_X2_clear mS_X2_clear mN_RX2 mC_X2_clear ok_X2_clear rfl rfl ⟨(Nat.le_of_ble_eq_true rfl), (Nat.le_of_ble_eq_true rfl)⟩) rfl hl.1 rfl (Nat.le_of_ble_eq_true rfl) dX11_put_84 ⟨(Nat.le_of_ble_eq_true rfl), (Nat.le_of_ble_eq_true rfl)⟩) hP hD hS hA [8] [0, 1, 2, 3, 4, 5, 6, 7] rfl rfl rfl (by decide) (fun u_84 H locs hw hP hD hS => ?_)
          have hP : va_P G vwCl [(h0, .inr (11, [f_h0_0, .ref aS, f_h0_2, f_h0_3, f_h0_4, f_h0_5, f_h0_6, f_h0_7, f_h0_8, f_h0_9, f_h0_10, f_h0_11, .ref h1, .int lr])), (h1, .inl (cs 0, 7, .inl rfs)), (aS, .inr (7, [.ref aW, .ref aD, f_aS_2, f_aS_3, f_aS_4])), (aW, .inr (10, [.ref aR, f_aW_1, f_aW_2, f_aW_3, f_aW_4, f_aW_5, f_aW_6])), (aR, .inr (6, [.ref aK, .ref aH, .ref aU, .long 0])), (aK, .inl (cs 0, 40, .inl (fun _ => 0))), (aH, .inl (cs 0, 40, .inl (fl (fun _ => 0) 40 3))), (aU, .inl (cs 0, 40, .inl (upd (fun _ => 0) a.toNatClampNeg d))), (aD, .inr (2, [f_aD_0, f_aD_1, f_aD_2, f_aD_3, f_aD_4, .int 0, f_aD_6]))] H := hP
          have hD : va_D A [(h0, .inr (11, [f_h0_0, .ref aS, f_h0_2, f_h0_3, f_h0_4, f_h0_5, f_h0_6, f_h0_7, f_h0_8, f_h0_9, f_h0_10, f_h0_11, .ref h1, .int lr])), (h1, .inl (cs 0, 7, .inl rfs)), (aS, .inr (7, [.ref aW, .ref aD, f_aS_2, f_aS_3, f_aS_4])), (aW, .inr (10, [.ref aR, f_aW_1, f_aW_2, f_aW_3, f_aW_4, f_aW_5, f_aW_6])), (aR, .inr (6, [.ref aK, .ref aH, .ref aU, .long 0])), (aK, .inl (cs 0, 40, .inl (fun _ => 0))), (aH, .inl (cs 0, 40, .inl (fl (fun _ => 0) 40 3))), (aU, .inl (cs 0, 40, .inl (upd (fun _ => 0) a.toNatClampNeg d))), (aD, .inr (2, [f_aD_0, f_aD_1, f_aD_2, f_aD_3, f_aD_4, .int 0, f_aD_6]))] := hD
          refine lv_aload_n hx hb dX11_put_87 rfl (lv_at hl 3 rfl) ?_
          refine lv_iload hx hb dX11_put_88 (lv_at hl 0 rfl) ?_
          refine mi (wr := [(aS, .inr (7, [.ref aW, .ref aD, f_aS_2, f_aS_3, f_aS_4])), (aW, .inr (10, [.ref aR, f_aW_1, f_aW_2, f_aW_3, f_aW_4, f_aW_5, f_aW_6])), (aR, .inr (6, [.ref aK, .ref aH, .ref aU, .long 0])), (aK, .inl (cs 0, 40, .inl (fun _ => 0))), (aH, .inl (cs 0, 40, .inl (fl (fun _ => 0) 40 3))), (aU, .inl (cs 0, 40, .inl (upd (fun _ => 0) a.toNatClampNeg d))), (aD, .inr (2, [f_aD_0, f_aD_1, f_aD_2, f_aD_3, f_aD_4, .int 0, f_aD_6]))]) (mkV (rest := []) ⟨hx, hb, hml, hown, htl⟩ hN hK hP hD (c_X11_settle l G cs h0 0 f_h0_0 (.ref aS) f_h0_2 f_h0_3 f_h0_4 f_h0_5 f_h0_6 f_h0_7 f_h0_8 f_h0_9 f_h0_10 f_h0_11 h1 lr (rfs) _ (by decide)) [0, 1] rfl rfl 0 11 rfl rfl (cV 1 htl lk_RX11_91 mI_X11_settle mS_X11_settle mN_RX11 mC_X11_settle ok_X11_settle rfl rfl ⟨(Nat.le_of_ble_eq_true rfl), (Nat.le_of_ble_eq_true rfl)⟩) rfl hl.1 rfl (Nat.le_of_ble_eq_true rfl) dX11_put_90 ⟨(Nat.le_of_ble_eq_true rfl), (Nat.le_of_ble_eq_true rfl)⟩) hP hD hS hA [0, 1] [2, 3, 4, 5, 6, 7, 8] rfl rfl rfl (by decide) (fun r u_90 H locs hw hP hD hS => ?_)
          have hP : va_P G vwCl [(aS, .inr (7, [.ref aW, .ref aD, f_aS_2, f_aS_3, f_aS_4])), (aW, .inr (10, [.ref aR, f_aW_1, f_aW_2, f_aW_3, f_aW_4, f_aW_5, f_aW_6])), (aR, .inr (6, [.ref aK, .ref aH, .ref aU, .long 0])), (aK, .inl (cs 0, 40, .inl (fun _ => 0))), (aH, .inl (cs 0, 40, .inl (fl (fun _ => 0) 40 3))), (aU, .inl (cs 0, 40, .inl (upd (fun _ => 0) a.toNatClampNeg d))), (aD, .inr (2, [f_aD_0, f_aD_1, f_aD_2, f_aD_3, f_aD_4, .int 0, f_aD_6]))] H := hP
          have hD : va_D A [(aS, .inr (7, [.ref aW, .ref aD, f_aS_2, f_aS_3, f_aS_4])), (aW, .inr (10, [.ref aR, f_aW_1, f_aW_2, f_aW_3, f_aW_4, f_aW_5, f_aW_6])), (aR, .inr (6, [.ref aK, .ref aH, .ref aU, .long 0])), (aK, .inl (cs 0, 40, .inl (fun _ => 0))), (aH, .inl (cs 0, 40, .inl (fl (fun _ => 0) 40 3))), (aU, .inl (cs 0, 40, .inl (upd (fun _ => 0) a.toNatClampNeg d))), (aD, .inr (2, [f_aD_0, f_aD_1, f_aD_2, f_aD_3, f_aD_4, .int 0, f_aD_6]))] := hD
          obtain rfl : r = 0 := hw.trans (by unfold sp_X11_settle; (try rw [if_pos (by decide)]) <;> first | rfl | decide)
          exact W.iret (v := 0) hx hb hr (fun t ht hW => ⟨⟨0, (), rfl, (by unfold sp_X11_put; rw [if_neg c_15, if_neg c_23, if_neg c_33, if_neg k_3]), ⟨fun k q h => by simp at h, va_K.moved hW.alike hK, ⟨fun i j p q h => by simp at h, fun k q h => by simp at h⟩⟩⟩, hS.F ht⟩) hS.2.2 dX11_put_93
      · refine lv_aload hx hb dX11_put_36 (lv_at hl 0 rfl) ?_
        refine va_get (ci := 10) (v := .ref aR) (C := RX10) (T := TX10) (N := 7) hx hb htl inX10 hown hK hP 3 rfl rfl 0 (by decide) (htl _ fl_RX11_95) (fun _ h9 => h9) rfl dX11_put_38 ?_
        refine lv_iload_n hx hb dX11_put_41 rfl (lv_at hl 2 rfl) ?_
        refine vp_callSi (mkVr (rest := []) ⟨hx, hb, hml, hown, htl⟩ hN hK hP (c_X6_isDug l G cs aR a (.ref aK) (.ref aH) (.ref aU) 0) [4] rfl 0 6 rfl rfl (cV 1 htl lk_RX11_99 mI_X6_isDug mS_X6_isDug mN_RX6 mC_X6_isDug ok_X6_isDug rfl rfl ⟨(Nat.le_of_ble_eq_true rfl), (Nat.le_of_ble_eq_true rfl)⟩) rfl hl.1 rfl (Nat.le_of_ble_eq_true rfl) dX11_put_42 ⟨(Nat.le_of_ble_eq_true rfl), (Nat.le_of_ble_eq_true rfl)⟩) (fun r hw => ?_)
        obtain rfl : r = 0 := hw.1.trans (isDug_0 _)
        refine lv_if_eq (tgt := 55) hx hb dX11_put_45 (by decide) (fun _ => ?_) (fun h => absurd (by decide) h)
        refine lv_aload hx hb dX11_put_55 (lv_at hl 0 rfl) ?_
        refine va_get (ci := 10) (v := .ref aR) (C := RX10) (T := TX10) (N := 7) hx hb htl inX10 hown hK hP 3 rfl rfl 0 (by decide) (htl _ fl_RX11_95) (fun _ h9 => h9) rfl dX11_put_57 ?_
        refine lv_iload_n hx hb dX11_put_60 rfl (lv_at hl 3 rfl) ?_
        refine va_csr (mkVr (rest := []) ⟨hx, hb, hml, hown, htl⟩ hN hK hP (c_X6_rowOf l G cs aR b aK aH aU (.long 0)) [4] rfl 0 6 rfl rfl (cV 1 htl lk_RX11_103 mI_X6_rowOf mS_X6_rowOf mN_RX6 mC_X6_rowOf ok_X6_rowOf rfl rfl ⟨(Nat.le_of_ble_eq_true rfl), (Nat.le_of_ble_eq_true rfl)⟩) rfl hl.1 rfl (Nat.le_of_ble_eq_true rfl) dX11_put_61 ⟨(Nat.le_of_ble_eq_true rfl), (Nat.le_of_ble_eq_true rfl)⟩) (fun r hw => ?_)
        obtain rfl : aK = r := (hw.trans (by unfold sp_X6_rowOf; rw [if_pos c_33])).symm
        refine lv_astore (lv' := [(5, .ref aK), (4, .ref aW), (0, .ref h0), (1, .int a), (2, .int b), (3, .int d)]) hx hb dX11_put_64 hl (by decide) rfl (fun ls hl => ?_)
        refine lv_aload hx hb dX11_put_66 (lv_at hl 0 rfl) ?_
        refine lv_iload_n hx hb dX11_put_68 rfl (lv_at hl 3 rfl) ?_
        refine va_iald hx hb hK hP 5 0 rfl rfl (iw_in c_15) dX11_put_69 ?_
        refine lv_topi (fun xv ex => ?_)
        obtain rfl : xv = 0 := ex.trans (by first | exact pk_us | rfl | decide)
        refine lv_istore (lv' := [(6, .int 0), (5, .ref aK), (4, .ref aW), (0, .ref h0), (1, .int a), (2, .int b), (3, .int d)]) hx hb dX11_put_70 hl (by decide) rfl (fun ls hl => ?_)
        refine lv_aload hx hb dX11_put_72 (lv_at hl 1 rfl) ?_
        refine lv_iload_n hx hb dX11_put_74 rfl (lv_at hl 4 rfl) ?_
        refine lv_iload_n hx hb dX11_put_75 rfl (lv_at hl 6 rfl) ?_
        refine va_iast hx hb hK hP hD hS 5 0 rfl rfl (iw_in c_15) dX11_put_76 (fun H locs hP hD hS => ?_)
        have hP : va_P G vwCl [(h0, .inr (11, [f_h0_0, .ref aS, f_h0_2, f_h0_3, f_h0_4, f_h0_5, f_h0_6, f_h0_7, f_h0_8, f_h0_9, f_h0_10, f_h0_11, .ref h1, .int lr])), (h1, .inl (cs 0, 7, .inl rfs)), (aS, .inr (7, [.ref aW, .ref aD, f_aS_2, f_aS_3, f_aS_4])), (aW, .inr (10, [.ref aR, f_aW_1, f_aW_2, f_aW_3, f_aW_4, f_aW_5, f_aW_6])), (aR, .inr (6, [.ref aK, .ref aH, .ref aU, .long 0])), (aK, .inl (cs 0, 40, .inl (upd (fun _ => 0) a.toNatClampNeg d))), (aH, .inl (cs 0, 40, .inl (fl (fun _ => 0) 40 3))), (aU, .inl (cs 0, 40, .inl (fun _ => 0))), (aD, .inr (2, [f_aD_0, f_aD_1, f_aD_2, f_aD_3, f_aD_4, f_aD_5, f_aD_6]))] H := hP
        have hD : va_D A [(h0, .inr (11, [f_h0_0, .ref aS, f_h0_2, f_h0_3, f_h0_4, f_h0_5, f_h0_6, f_h0_7, f_h0_8, f_h0_9, f_h0_10, f_h0_11, .ref h1, .int lr])), (h1, .inl (cs 0, 7, .inl rfs)), (aS, .inr (7, [.ref aW, .ref aD, f_aS_2, f_aS_3, f_aS_4])), (aW, .inr (10, [.ref aR, f_aW_1, f_aW_2, f_aW_3, f_aW_4, f_aW_5, f_aW_6])), (aR, .inr (6, [.ref aK, .ref aH, .ref aU, .long 0])), (aK, .inl (cs 0, 40, .inl (upd (fun _ => 0) a.toNatClampNeg d))), (aH, .inl (cs 0, 40, .inl (fl (fun _ => 0) 40 3))), (aU, .inl (cs 0, 40, .inl (fun _ => 0))), (aD, .inr (2, [f_aD_0, f_aD_1, f_aD_2, f_aD_3, f_aD_4, f_aD_5, f_aD_6]))] := hD
        refine lv_aload_n hx hb dX11_put_77 rfl (lv_at hl 3 rfl) ?_
        refine va_get (ci := 11) (v := .ref aS) (C := RX11) (T := TX11) (N := 14) hx hb htl inX11 hown hK hP 0 rfl rfl 1 (by decide) (htl _ fl_RX11_21) (fun _ h9 => h9) rfl dX11_put_78 ?_
        refine va_get (ci := 7) (v := .ref aD) (C := RX7) (T := TX7) (N := 5) hx hb htl inX7 hown hK hP 2 rfl rfl 1 (by decide) (htl _ fl_RX11_107) (fun _ h9 => h9) rfl dX11_put_81 ?_
        refine mv (wr := [(h0, .inr (11, [f_h0_0, .ref aS, f_h0_2, f_h0_3, f_h0_4, f_h0_5, f_h0_6, f_h0_7, f_h0_8, f_h0_9, f_h0_10, f_h0_11, .ref h1, .int lr])), (h1, .inl (cs 0, 7, .inl rfs)), (aS, .inr (7, [.ref aW, .ref aD, f_aS_2, f_aS_3, f_aS_4])), (aW, .inr (10, [.ref aR, f_aW_1, f_aW_2, f_aW_3, f_aW_4, f_aW_5, f_aW_6])), (aR, .inr (6, [.ref aK, .ref aH, .ref aU, .long 0])), (aK, .inl (cs 0, 40, .inl (upd (fun _ => 0) a.toNatClampNeg d))), (aH, .inl (cs 0, 40, .inl (fl (fun _ => 0) 40 3))), (aU, .inl (cs 0, 40, .inl (fun _ => 0)))]) (mkV (rest := []) ⟨hx, hb, hml, hown, htl⟩ hN hK hP hD (c_X2_clear l G cs aD f_aD_0 f_aD_1 f_aD_2 f_aD_3 f_aD_4 f_aD_5 f_aD_6 _) [8] rfl rfl 0 2 rfl rfl (cV 0 htl lk_RX11_111 mI_X2_clear mS_X2_clear mN_RX2 mC_X2_clear ok_X2_clear rfl rfl ⟨(Nat.le_of_ble_eq_true rfl), (Nat.le_of_ble_eq_true rfl)⟩) rfl hl.1 rfl (Nat.le_of_ble_eq_true rfl) dX11_put_84 ⟨(Nat.le_of_ble_eq_true rfl), (Nat.le_of_ble_eq_true rfl)⟩) hP hD hS hA [8] [0, 1, 2, 3, 4, 5, 6, 7] rfl rfl rfl (by decide) (fun u_84 H locs hw hP hD hS => ?_)
        have hP : va_P G vwCl [(h0, .inr (11, [f_h0_0, .ref aS, f_h0_2, f_h0_3, f_h0_4, f_h0_5, f_h0_6, f_h0_7, f_h0_8, f_h0_9, f_h0_10, f_h0_11, .ref h1, .int lr])), (h1, .inl (cs 0, 7, .inl rfs)), (aS, .inr (7, [.ref aW, .ref aD, f_aS_2, f_aS_3, f_aS_4])), (aW, .inr (10, [.ref aR, f_aW_1, f_aW_2, f_aW_3, f_aW_4, f_aW_5, f_aW_6])), (aR, .inr (6, [.ref aK, .ref aH, .ref aU, .long 0])), (aK, .inl (cs 0, 40, .inl (upd (fun _ => 0) a.toNatClampNeg d))), (aH, .inl (cs 0, 40, .inl (fl (fun _ => 0) 40 3))), (aU, .inl (cs 0, 40, .inl (fun _ => 0))), (aD, .inr (2, [f_aD_0, f_aD_1, f_aD_2, f_aD_3, f_aD_4, .int 0, f_aD_6]))] H := hP
        have hD : va_D A [(h0, .inr (11, [f_h0_0, .ref aS, f_h0_2, f_h0_3, f_h0_4, f_h0_5, f_h0_6, f_h0_7, f_h0_8, f_h0_9, f_h0_10, f_h0_11, .ref h1, .int lr])), (h1, .inl (cs 0, 7, .inl rfs)), (aS, .inr (7, [.ref aW, .ref aD, f_aS_2, f_aS_3, f_aS_4])), (aW, .inr (10, [.ref aR, f_aW_1, f_aW_2, f_aW_3, f_aW_4, f_aW_5, f_aW_6])), (aR, .inr (6, [.ref aK, .ref aH, .ref aU, .long 0])), (aK, .inl (cs 0, 40, .inl (upd (fun _ => 0) a.toNatClampNeg d))), (aH, .inl (cs 0, 40, .inl (fl (fun _ => 0) 40 3))), (aU, .inl (cs 0, 40, .inl (fun _ => 0))), (aD, .inr (2, [f_aD_0, f_aD_1, f_aD_2, f_aD_3, f_aD_4, .int 0, f_aD_6]))] := hD
        refine lv_aload_n hx hb dX11_put_87 rfl (lv_at hl 3 rfl) ?_
        refine lv_iload hx hb dX11_put_88 (lv_at hl 0 rfl) ?_
        refine mi (wr := [(aS, .inr (7, [.ref aW, .ref aD, f_aS_2, f_aS_3, f_aS_4])), (aW, .inr (10, [.ref aR, f_aW_1, f_aW_2, f_aW_3, f_aW_4, f_aW_5, f_aW_6])), (aR, .inr (6, [.ref aK, .ref aH, .ref aU, .long 0])), (aK, .inl (cs 0, 40, .inl (upd (fun _ => 0) a.toNatClampNeg d))), (aH, .inl (cs 0, 40, .inl (fl (fun _ => 0) 40 3))), (aU, .inl (cs 0, 40, .inl (fun _ => 0))), (aD, .inr (2, [f_aD_0, f_aD_1, f_aD_2, f_aD_3, f_aD_4, .int 0, f_aD_6]))]) (mkV (rest := []) ⟨hx, hb, hml, hown, htl⟩ hN hK hP hD (c_X11_settle l G cs h0 0 f_h0_0 (.ref aS) f_h0_2 f_h0_3 f_h0_4 f_h0_5 f_h0_6 f_h0_7 f_h0_8 f_h0_9 f_h0_10 f_h0_11 h1 lr (rfs) _ (by decide)) [0, 1] rfl rfl 0 11 rfl rfl (cV 1 htl lk_RX11_91 mI_X11_settle mS_X11_settle mN_RX11 mC_X11_settle ok_X11_settle rfl rfl ⟨(Nat.le_of_ble_eq_true rfl), (Nat.le_of_ble_eq_true rfl)⟩) rfl hl.1 rfl (Nat.le_of_ble_eq_true rfl) dX11_put_90 ⟨(Nat.le_of_ble_eq_true rfl), (Nat.le_of_ble_eq_true rfl)⟩) hP hD hS hA [0, 1] [2, 3, 4, 5, 6, 7, 8] rfl rfl rfl (by decide) (fun r u_90 H locs hw hP hD hS => ?_)
        have hP : va_P G vwCl [(aS, .inr (7, [.ref aW, .ref aD, f_aS_2, f_aS_3, f_aS_4])), (aW, .inr (10, [.ref aR, f_aW_1, f_aW_2, f_aW_3, f_aW_4, f_aW_5, f_aW_6])), (aR, .inr (6, [.ref aK, .ref aH, .ref aU, .long 0])), (aK, .inl (cs 0, 40, .inl (upd (fun _ => 0) a.toNatClampNeg d))), (aH, .inl (cs 0, 40, .inl (fl (fun _ => 0) 40 3))), (aU, .inl (cs 0, 40, .inl (fun _ => 0))), (aD, .inr (2, [f_aD_0, f_aD_1, f_aD_2, f_aD_3, f_aD_4, .int 0, f_aD_6]))] H := hP
        have hD : va_D A [(aS, .inr (7, [.ref aW, .ref aD, f_aS_2, f_aS_3, f_aS_4])), (aW, .inr (10, [.ref aR, f_aW_1, f_aW_2, f_aW_3, f_aW_4, f_aW_5, f_aW_6])), (aR, .inr (6, [.ref aK, .ref aH, .ref aU, .long 0])), (aK, .inl (cs 0, 40, .inl (upd (fun _ => 0) a.toNatClampNeg d))), (aH, .inl (cs 0, 40, .inl (fl (fun _ => 0) 40 3))), (aU, .inl (cs 0, 40, .inl (fun _ => 0))), (aD, .inr (2, [f_aD_0, f_aD_1, f_aD_2, f_aD_3, f_aD_4, .int 0, f_aD_6]))] := hD
        obtain rfl : r = 0 := hw.trans (by unfold sp_X11_settle; (try rw [if_pos (by decide)]) <;> first | rfl | decide)
        exact W.iret (v := 0) hx hb hr (fun t ht hW => ⟨⟨0, (), rfl, (by unfold sp_X11_put; rw [if_neg c_15, if_neg c_23, if_pos c_33]), ⟨fun k q h => by simp at h, va_K.moved hW.alike hK, ⟨fun i j p q h => by simp at h, fun k q h => by simp at h⟩⟩⟩, hS.F ht⟩) hS.2.2 dX11_put_93
    · refine lv_aload_n hx hb dX11_put_26 rfl (lv_at hl 1 rfl) ?_
      refine lv_iconst (v := (-1)) hx hb dX11_put_27 (by decide) ?_
      refine mi (wr := [(aS, .inr (7, [.ref aW, .ref aD, f_aS_2, f_aS_3, f_aS_4])), (aW, .inr (10, [.ref aR, f_aW_1, f_aW_2, f_aW_3, f_aW_4, f_aW_5, f_aW_6])), (aR, .inr (6, [.ref aK, .ref aH, .ref aU, .long 0])), (aK, .inl (cs 0, 40, .inl (fun _ => 0))), (aH, .inl (cs 0, 40, .inl (fl (fun _ => 0) 40 3))), (aU, .inl (cs 0, 40, .inl (fun _ => 0))), (aD, .inr (2, [f_aD_0, f_aD_1, f_aD_2, f_aD_3, f_aD_4, f_aD_5, f_aD_6]))]) (mkV (rest := []) ⟨hx, hb, hml, hown, htl⟩ hN hK hP hD (c_X11_settle l G cs h0 (-1) f_h0_0 (.ref aS) f_h0_2 f_h0_3 f_h0_4 f_h0_5 f_h0_6 f_h0_7 f_h0_8 f_h0_9 f_h0_10 f_h0_11 h1 lr (rfs) _ (by decide)) [0, 1] rfl rfl 0 11 rfl rfl (cV 1 htl lk_RX11_91 mI_X11_settle mS_X11_settle mN_RX11 mC_X11_settle ok_X11_settle rfl rfl ⟨(Nat.le_of_ble_eq_true rfl), (Nat.le_of_ble_eq_true rfl)⟩) rfl hl.1 rfl (Nat.le_of_ble_eq_true rfl) dX11_put_28 ⟨(Nat.le_of_ble_eq_true rfl), (Nat.le_of_ble_eq_true rfl)⟩) hP hD hS hA [0, 1] [2, 3, 4, 5, 6, 7, 8] rfl rfl rfl (by decide) (fun r u_28 H locs hw hP hD hS => ?_)
      have hP : va_P G vwCl [(aS, .inr (7, [.ref aW, .ref aD, f_aS_2, f_aS_3, f_aS_4])), (aW, .inr (10, [.ref aR, f_aW_1, f_aW_2, f_aW_3, f_aW_4, f_aW_5, f_aW_6])), (aR, .inr (6, [.ref aK, .ref aH, .ref aU, .long 0])), (aK, .inl (cs 0, 40, .inl (fun _ => 0))), (aH, .inl (cs 0, 40, .inl (fl (fun _ => 0) 40 3))), (aU, .inl (cs 0, 40, .inl (fun _ => 0))), (aD, .inr (2, [f_aD_0, f_aD_1, f_aD_2, f_aD_3, f_aD_4, f_aD_5, f_aD_6]))] H := hP
      have hD : va_D A [(aS, .inr (7, [.ref aW, .ref aD, f_aS_2, f_aS_3, f_aS_4])), (aW, .inr (10, [.ref aR, f_aW_1, f_aW_2, f_aW_3, f_aW_4, f_aW_5, f_aW_6])), (aR, .inr (6, [.ref aK, .ref aH, .ref aU, .long 0])), (aK, .inl (cs 0, 40, .inl (fun _ => 0))), (aH, .inl (cs 0, 40, .inl (fl (fun _ => 0) 40 3))), (aU, .inl (cs 0, 40, .inl (fun _ => 0))), (aD, .inr (2, [f_aD_0, f_aD_1, f_aD_2, f_aD_3, f_aD_4, f_aD_5, f_aD_6]))] := hD
      obtain rfl : r = (-1) := hw.trans (by unfold sp_X11_settle; (try rw [if_neg (by decide), if_neg (by decide)]) <;> first | rfl | decide)
      exact W.iret (v := (-1)) hx hb hr (fun t ht hW => ⟨⟨(-1), (), rfl, (by unfold sp_X11_put; rw [if_neg c_15, if_pos c_23]), ⟨fun k q h => by simp at h, va_K.moved hW.alike hK, ⟨fun i j p q h => by simp at h, fun k q h => by simp at h⟩⟩⟩, hS.F ht⟩) hS.2.2 dX11_put_31

def sp_X11_at (a : Int32) (b : Int32) : Int32 := if (sp_X11_isWithin a 40) = 0 then (-1) else (if b = 0 then 0 else (if b = 1 then 3 else (if b = 2 then 0 else (if b = 3 then 0 else (if b = 4 then 20 else (if b = 5 then 2 else (-1)))))))
set_option maxHeartbeats 1000000 in
set_option maxRecDepth 100000 in
theorem c_X11_at (l : Launch) (G : va_G) (cs : Nat → ClassId) (h0 : Nat) (a : Int32) (b : Int32) (aA : Nat) (aS : Nat) (f_h0_2 : Value) (f_h0_3 : Value) (f_h0_4 : Value) (f_h0_5 : Value) (f_h0_6 : Value) (f_h0_7 : Value) (f_h0_8 : Value) (f_h0_9 : Value) (f_h0_10 : Value) (f_h0_11 : Value) (h1 : Nat) (lr : Int32) (aW : Nat) (aD : Nat) (f_aS_2 : Value) (f_aS_3 : Value) (f_aS_4 : Value) (aR : Nat) (f_aW_1 : Value) (f_aW_2 : Value) (f_aW_3 : Value) (f_aW_4 : Value) (f_aW_5 : Value) (aK : Nat) (aH : Nat) (aU : Nat) (f_aA_0 : Value) (f_aA_1 : Value) (f_aA_2 : Value) (f_aA_3 : Value) (f_aA_4 : Value) (f_aA_5 : Value) (f_aA_6 : Value) (f_aA_7 : Value) (f_aA_8 : Value) (sz : Nat) : Met l yX11_at (Cond.code yX11_at cX11_at 4 (some .int) :: gW) ({ frames := 3, cells := 0, slots := 0, locals := 68 }) (va_Pc [.ref h0, .int a, .int b] (Pre G cs [(h0, .inr (11, [.ref aA, .ref aS, f_h0_2, f_h0_3, f_h0_4, f_h0_5, f_h0_6, f_h0_7, f_h0_8, f_h0_9, f_h0_10, f_h0_11, .ref h1, .int lr])), (aS, .inr (7, [.ref aW, .ref aD, f_aS_2, f_aS_3, f_aS_4])), (aW, .inr (10, [.ref aR, f_aW_1, f_aW_2, f_aW_3, f_aW_4, f_aW_5, .int (-1)])), (aR, .inr (6, [.ref aK, .ref aH, .ref aU, .long 0])), (aK, .inl (cs 0, 40, .inl (fun _ => 0))), (aH, .inl (cs 0, 40, .inl (fl (fun _ => 0) 40 3))), (aU, .inl (cs 0, 40, .inl (fun _ => 0))), (aA, .inr (0, [f_aA_0, f_aA_1, f_aA_2, f_aA_3, f_aA_4, f_aA_5, f_aA_6, f_aA_7, f_aA_8]))] sz)) (va_Qi (fun r (u : Unit) => r = sp_X11_at a b) (fun (u : Unit) t => Aft G cs (va_A [(h0, .inr (11, [.ref aA, .ref aS, f_h0_2, f_h0_3, f_h0_4, f_h0_5, f_h0_6, f_h0_7, f_h0_8, f_h0_9, f_h0_10, f_h0_11, .ref h1, .int lr])), (aS, .inr (7, [.ref aW, .ref aD, f_aS_2, f_aS_3, f_aS_4])), (aW, .inr (10, [.ref aR, f_aW_1, f_aW_2, f_aW_3, f_aW_4, f_aW_5, .int (-1)])), (aR, .inr (6, [.ref aK, .ref aH, .ref aU, .long 0])), (aK, .inl (cs 0, 40, .inl (fun _ => 0))), (aH, .inl (cs 0, 40, .inl (fl (fun _ => 0) 40 3))), (aU, .inl (cs 0, 40, .inl (fun _ => 0))), (aA, .inr (0, [f_aA_0, f_aA_1, f_aA_2, f_aA_3, f_aA_4, f_aA_5, f_aA_6, f_aA_7, f_aA_8]))] sz) [] t) (va_A [(h0, .inr (11, [.ref aA, .ref aS, f_h0_2, f_h0_3, f_h0_4, f_h0_5, f_h0_6, f_h0_7, f_h0_8, f_h0_9, f_h0_10, f_h0_11, .ref h1, .int lr])), (aS, .inr (7, [.ref aW, .ref aD, f_aS_2, f_aS_3, f_aS_4])), (aW, .inr (10, [.ref aR, f_aW_1, f_aW_2, f_aW_3, f_aW_4, f_aW_5, .int (-1)])), (aR, .inr (6, [.ref aK, .ref aH, .ref aU, .long 0])), (aK, .inl (cs 0, 40, .inl (fun _ => 0))), (aH, .inl (cs 0, 40, .inl (fl (fun _ => 0) 40 3))), (aU, .inl (cs 0, 40, .inl (fun _ => 0))), (aA, .inr (0, [f_aA_0, f_aA_1, f_aA_2, f_aA_3, f_aA_4, f_aA_5, f_aA_6, f_aA_7, f_aA_8]))] sz)) 0 0 (va_A [(h0, .inr (11, [.ref aA, .ref aS, f_h0_2, f_h0_3, f_h0_4, f_h0_5, f_h0_6, f_h0_7, f_h0_8, f_h0_9, f_h0_10, f_h0_11, .ref h1, .int lr])), (aS, .inr (7, [.ref aW, .ref aD, f_aS_2, f_aS_3, f_aS_4])), (aW, .inr (10, [.ref aR, f_aW_1, f_aW_2, f_aW_3, f_aW_4, f_aW_5, .int (-1)])), (aR, .inr (6, [.ref aK, .ref aH, .ref aU, .long 0])), (aK, .inl (cs 0, 40, .inl (fun _ => 0))), (aH, .inl (cs 0, 40, .inl (fl (fun _ => 0) 40 3))), (aU, .inl (cs 0, 40, .inl (fun _ => 0))), (aA, .inr (0, [f_aA_0, f_aA_1, f_aA_2, f_aA_3, f_aA_4, f_aA_5, f_aA_6, f_aA_7, f_aA_8]))] sz) := by
  refine Met.ofW (cc := cX11_at) (maxL := 4) (ret := (some .int)) (by decide) rfl ?_
  intro p e s m args below meth c s₁ B hml hv
  obtain ⟨rfl, hsz, hP, hK, hD0, hN⟩ := hv
  have hx := B.exec
  have hb := B.bytes
  have hr := B.returns
  have hts := atoms_spec (ws := Cond.code yX11_at cX11_at 4 (some .int) :: gW) B.pre
  have htl : ∀ w ∈ gW, w.before _ s = true := fun w h => hts w (List.mem_cons_of_mem _ h)
  have hown : s.vm.findClass RX11 = some m.cls := findClass_of_methodNamed B.named
  have hlocks := B.notSynchronized
  subst hsz
  have hD := hD0.self (sz := s.heap.size)
  generalize hAe : va_A [(h0, .inr (11, [.ref aA, .ref aS, f_h0_2, f_h0_3, f_h0_4, f_h0_5, f_h0_6, f_h0_7, f_h0_8, f_h0_9, f_h0_10, f_h0_11, .ref h1, .int lr])), (aS, .inr (7, [.ref aW, .ref aD, f_aS_2, f_aS_3, f_aS_4])), (aW, .inr (10, [.ref aR, f_aW_1, f_aW_2, f_aW_3, f_aW_4, f_aW_5, .int (-1)])), (aR, .inr (6, [.ref aK, .ref aH, .ref aU, .long 0])), (aK, .inl (cs 0, 40, .inl (fun _ => 0))), (aH, .inl (cs 0, 40, .inl (fl (fun _ => 0) 40 3))), (aU, .inl (cs 0, 40, .inl (fun _ => 0))), (aA, .inr (0, [f_aA_0, f_aA_1, f_aA_2, f_aA_3, f_aA_4, f_aA_5, f_aA_6, f_aA_7, f_aA_8]))] s.heap.size = A at hD ⊢
  have hA : ∀ q : Nat, s.heap.size ≤ q → A q := fun q h => by rw [← hAe]; exact Or.inr h
  have hS : va_S A s.heap s.heap [] := va_S.rf
  have hl := lv_entry ([.ref h0, .int a, .int b]) (n := 4) (Nat.le_of_ble_eq_true rfl)
  rw [lg_entry_eq]
  generalize (lg_sl ([.ref h0, .int a, .int b]) ++ List.replicate (4 - (lg_sl ([.ref h0, .int a, .int b])).length) Slot.unset).toArray = ls at hl ⊢
  have hl : lv_has ls 4 [(0, .ref h0), (1, .int a), (2, .int b)] := hl
  refine lv_iload_n hx hb dX11_at_0 rfl (lv_at hl 1 rfl) ?_
  refine lv_bipush (v := 40) hx hb dX11_at_1 (by decide) ?_
  refine vp_callSi (mkSr (rest := []) ⟨hx, hb, hml, hown, htl⟩ hN hK (c_X11_isWithin l G cs a 40) (cS 2 htl lk_RX11_82 mT_X11_isWithin mN_RX11 mC_X11_isWithin ok_X11_isWithin rfl rfl ⟨(Nat.le_of_ble_eq_true rfl), (Nat.le_of_ble_eq_true rfl)⟩) rfl hl.1 rfl (Nat.le_of_ble_eq_true rfl) dX11_at_3 ⟨(Nat.le_of_ble_eq_true rfl), (Nat.le_of_ble_eq_true rfl)⟩) (fun r hw => ?_)
  obtain ⟨rfl, hz_1⟩ := hw
  refine lv_if_ne (tgt := 11) hx hb dX11_at_6 (by decide) (fun c_6 => ?_) (fun c_6 => ?_)
  · refine lv_aload_n hx hb dX11_at_11 rfl (lv_at hl 0 rfl) ?_
    refine va_get (ci := 11) (v := .ref aS) (C := RX11) (T := TX11) (N := 14) hx hb htl inX11 hown hK hP 0 rfl rfl 1 (by decide) (htl _ fl_RX11_21) (fun _ h9 => h9) rfl dX11_at_12 ?_
    refine va_get (ci := 7) (v := .ref aW) (C := RX7) (T := TX7) (N := 5) hx hb htl inX7 hown hK hP 1 rfl rfl 0 (by decide) (htl _ fl_RX11_78) (fun _ h9 => h9) rfl dX11_at_15 ?_
    refine lv_astore_n (lv' := [(3, .ref aW), (0, .ref h0), (1, .int a), (2, .int b)]) hx hb dX11_at_18 rfl hl (by decide) rfl (fun ls hl => ?_)
    refine lv_aload_n hx hb dX11_at_19 rfl (lv_at hl 1 rfl) ?_
    refine va_get (ci := 11) (v := .ref aA) (C := RX11) (T := TX11) (N := 14) hx hb htl inX11 hown hK hP 0 rfl rfl 0 (by decide) (htl _ fl_RX11_10) (fun _ h9 => h9) rfl dX11_at_20 ?_
    refine lv_aload_n hx hb dX11_at_23 rfl (lv_at hl 0 rfl) ?_
    refine lv_aload_n hx hb dX11_at_24 rfl (lv_at hl 0 rfl) ?_
    refine va_csr (mkVr (rest := [.ref aW, .ref aA]) ⟨hx, hb, hml, hown, htl⟩ hN hK hP (c_X10_lawInForce l G cs aW (.ref aR) f_aW_1 f_aW_2 f_aW_3 f_aW_4 f_aW_5) [2] rfl 0 10 rfl rfl (cV 0 htl lk_RX11_116 mI_X10_lawInForce mS_X10_lawInForce mN_RX10 mC_X10_lawInForce ok_X10_lawInForce rfl rfl ⟨(Nat.le_of_ble_eq_true rfl), (Nat.le_of_ble_eq_true rfl)⟩) rfl hl.1 rfl (Nat.le_of_ble_eq_true rfl) dX11_at_25 ⟨(Nat.le_of_ble_eq_true rfl), (Nat.le_of_ble_eq_true rfl)⟩) (fun r hw => ?_)
    clear hw
    refine W.eq (g2 := F0 m 28 ls [.null, .ref aW, .ref aA]) rfl ?_
    refine mv (wr := [(h0, .inr (11, [.ref aA, .ref aS, f_h0_2, f_h0_3, f_h0_4, f_h0_5, f_h0_6, f_h0_7, f_h0_8, f_h0_9, f_h0_10, f_h0_11, .ref h1, .int lr])), (aS, .inr (7, [.ref aW, .ref aD, f_aS_2, f_aS_3, f_aS_4])), (aW, .inr (10, [.ref aR, f_aW_1, f_aW_2, f_aW_3, f_aW_4, f_aW_5, .int (-1)])), (aR, .inr (6, [.ref aK, .ref aH, .ref aU, .long 0])), (aK, .inl (cs 0, 40, .inl (fun _ => 0))), (aH, .inl (cs 0, 40, .inl (fl (fun _ => 0) 40 3))), (aU, .inl (cs 0, 40, .inl (fun _ => 0)))]) (mkV (rest := []) ⟨hx, hb, hml, hown, htl⟩ hN hK hP hD (c_X0_turnTo l G cs aA aW f_aA_0 f_aA_1 f_aA_2 f_aA_3 f_aA_4 f_aA_5 f_aA_6 f_aA_7 f_aA_8 _) [7] rfl rfl 0 0 rfl rfl (cV 2 htl lk_RX11_120 mI_X0_turnTo mS_X0_turnTo mN_RX0 mC_X0_turnTo ok_X0_turnTo rfl rfl ⟨(Nat.le_of_ble_eq_true rfl), (Nat.le_of_ble_eq_true rfl)⟩) rfl hl.1 rfl (Nat.le_of_ble_eq_true rfl) dX11_at_28 ⟨(Nat.le_of_ble_eq_true rfl), (Nat.le_of_ble_eq_true rfl)⟩) hP hD hS hA [7] [0, 1, 2, 3, 4, 5, 6] rfl rfl rfl (by decide) (fun u_28 H locs hw hP hD hS => ?_)
    have hP : va_P G vwCl [(h0, .inr (11, [.ref aA, .ref aS, f_h0_2, f_h0_3, f_h0_4, f_h0_5, f_h0_6, f_h0_7, f_h0_8, f_h0_9, f_h0_10, f_h0_11, .ref h1, .int lr])), (aS, .inr (7, [.ref aW, .ref aD, f_aS_2, f_aS_3, f_aS_4])), (aW, .inr (10, [.ref aR, f_aW_1, f_aW_2, f_aW_3, f_aW_4, f_aW_5, .int (-1)])), (aR, .inr (6, [.ref aK, .ref aH, .ref aU, .long 0])), (aK, .inl (cs 0, 40, .inl (fun _ => 0))), (aH, .inl (cs 0, 40, .inl (fl (fun _ => 0) 40 3))), (aU, .inl (cs 0, 40, .inl (fun _ => 0))), (aA, .inr (0, [f_aA_0, .ref aW, .null, f_aA_3, f_aA_4, f_aA_5, f_aA_6, f_aA_7, f_aA_8]))] H := hP
    have hD : va_D A [(h0, .inr (11, [.ref aA, .ref aS, f_h0_2, f_h0_3, f_h0_4, f_h0_5, f_h0_6, f_h0_7, f_h0_8, f_h0_9, f_h0_10, f_h0_11, .ref h1, .int lr])), (aS, .inr (7, [.ref aW, .ref aD, f_aS_2, f_aS_3, f_aS_4])), (aW, .inr (10, [.ref aR, f_aW_1, f_aW_2, f_aW_3, f_aW_4, f_aW_5, .int (-1)])), (aR, .inr (6, [.ref aK, .ref aH, .ref aU, .long 0])), (aK, .inl (cs 0, 40, .inl (fun _ => 0))), (aH, .inl (cs 0, 40, .inl (fl (fun _ => 0) 40 3))), (aU, .inl (cs 0, 40, .inl (fun _ => 0))), (aA, .inr (0, [f_aA_0, .ref aW, .null, f_aA_3, f_aA_4, f_aA_5, f_aA_6, f_aA_7, f_aA_8]))] := hD
    refine lv_iload_n hx hb dX11_at_31 rfl (lv_at hl 3 rfl) ?_
    by_cases s_32_0 : b = 0
    · refine lv_tableIn (off := 40) (tgt := 72) hx hb dX11_at_32 (by rw [s_32_0]; decide) (by rw [s_32_0]; decide) (by rw [s_32_0]; decide) (by decide) ?_
      refine lv_aload_n hx hb dX11_at_72 rfl (lv_at hl 0 rfl) ?_
      refine va_get (ci := 10) (v := .ref aR) (C := RX10) (T := TX10) (N := 7) hx hb htl inX10 hown hK hP 2 rfl rfl 0 (by decide) (htl _ fl_RX11_95) (fun _ h9 => h9) rfl dX11_at_73 ?_
      refine lv_iload_n hx hb dX11_at_76 rfl (lv_at hl 3 rfl) ?_
      refine va_csr (mkVr (rest := []) ⟨hx, hb, hml, hown, htl⟩ hN hK hP (c_X6_rowOf l G cs aR b aK aH aU (.long 0)) [3] rfl 0 6 rfl rfl (cV 1 htl lk_RX11_103 mI_X6_rowOf mS_X6_rowOf mN_RX6 mC_X6_rowOf ok_X6_rowOf rfl rfl ⟨(Nat.le_of_ble_eq_true rfl), (Nat.le_of_ble_eq_true rfl)⟩) rfl hl.1 rfl (Nat.le_of_ble_eq_true rfl) dX11_at_77 ⟨(Nat.le_of_ble_eq_true rfl), (Nat.le_of_ble_eq_true rfl)⟩) (fun r hw => ?_)
      obtain rfl : aK = r := (hw.trans (by unfold sp_X6_rowOf; rw [if_pos s_32_0])).symm
      refine lv_iload_n hx hb dX11_at_80 rfl (lv_at hl 2 rfl) ?_
      refine va_iald hx hb hK hP 4 0 rfl rfl (iw_in c_6) dX11_at_81 ?_
      refine lv_topi (fun xv ex => ?_)
      obtain rfl : xv = 0 := ex.trans (by first | exact pk_us | rfl | decide)
      exact W.iret (v := 0) hx hb hr (fun t ht hW => ⟨⟨0, (), rfl, (by unfold sp_X11_at; rw [if_neg c_6, if_pos s_32_0]), ⟨fun k q h => by simp at h, va_K.moved hW.alike hK, ⟨fun i j p q h => by simp at h, fun k q h => by simp at h⟩⟩⟩, hS.F ht⟩) hS.2.2 dX11_at_82
    by_cases s_32_1 : b = 1
    · refine lv_tableIn (off := 40) (tgt := 72) hx hb dX11_at_32 (by rw [s_32_1]; decide) (by rw [s_32_1]; decide) (by rw [s_32_1]; decide) (by decide) ?_
      refine lv_aload_n hx hb dX11_at_72 rfl (lv_at hl 0 rfl) ?_
      refine va_get (ci := 10) (v := .ref aR) (C := RX10) (T := TX10) (N := 7) hx hb htl inX10 hown hK hP 2 rfl rfl 0 (by decide) (htl _ fl_RX11_95) (fun _ h9 => h9) rfl dX11_at_73 ?_
      refine lv_iload_n hx hb dX11_at_76 rfl (lv_at hl 3 rfl) ?_
      refine va_csr (mkVr (rest := []) ⟨hx, hb, hml, hown, htl⟩ hN hK hP (c_X6_rowOf l G cs aR b aK aH aU (.long 0)) [3] rfl 0 6 rfl rfl (cV 1 htl lk_RX11_103 mI_X6_rowOf mS_X6_rowOf mN_RX6 mC_X6_rowOf ok_X6_rowOf rfl rfl ⟨(Nat.le_of_ble_eq_true rfl), (Nat.le_of_ble_eq_true rfl)⟩) rfl hl.1 rfl (Nat.le_of_ble_eq_true rfl) dX11_at_77 ⟨(Nat.le_of_ble_eq_true rfl), (Nat.le_of_ble_eq_true rfl)⟩) (fun r hw => ?_)
      obtain rfl : aH = r := (hw.trans (by unfold sp_X6_rowOf; rw [if_neg s_32_0, if_pos s_32_1])).symm
      refine lv_iload_n hx hb dX11_at_80 rfl (lv_at hl 2 rfl) ?_
      refine va_iald hx hb hK hP 5 0 rfl rfl (iw_in c_6) dX11_at_81 ?_
      refine lv_topi (fun xv ex => ?_)
      obtain rfl : xv = 3 := ex.trans (fl_in (iw_in c_6))
      exact W.iret (v := 3) hx hb hr (fun t ht hW => ⟨⟨3, (), rfl, (by unfold sp_X11_at; rw [if_neg c_6, if_neg s_32_0, if_pos s_32_1]), ⟨fun k q h => by simp at h, va_K.moved hW.alike hK, ⟨fun i j p q h => by simp at h, fun k q h => by simp at h⟩⟩⟩, hS.F ht⟩) hS.2.2 dX11_at_82
    by_cases s_32_2 : b = 2
    · refine lv_tableIn (off := 40) (tgt := 72) hx hb dX11_at_32 (by rw [s_32_2]; decide) (by rw [s_32_2]; decide) (by rw [s_32_2]; decide) (by decide) ?_
      refine lv_aload_n hx hb dX11_at_72 rfl (lv_at hl 0 rfl) ?_
      refine va_get (ci := 10) (v := .ref aR) (C := RX10) (T := TX10) (N := 7) hx hb htl inX10 hown hK hP 2 rfl rfl 0 (by decide) (htl _ fl_RX11_95) (fun _ h9 => h9) rfl dX11_at_73 ?_
      refine lv_iload_n hx hb dX11_at_76 rfl (lv_at hl 3 rfl) ?_
      refine va_csr (mkVr (rest := []) ⟨hx, hb, hml, hown, htl⟩ hN hK hP (c_X6_rowOf l G cs aR b aK aH aU (.long 0)) [3] rfl 0 6 rfl rfl (cV 1 htl lk_RX11_103 mI_X6_rowOf mS_X6_rowOf mN_RX6 mC_X6_rowOf ok_X6_rowOf rfl rfl ⟨(Nat.le_of_ble_eq_true rfl), (Nat.le_of_ble_eq_true rfl)⟩) rfl hl.1 rfl (Nat.le_of_ble_eq_true rfl) dX11_at_77 ⟨(Nat.le_of_ble_eq_true rfl), (Nat.le_of_ble_eq_true rfl)⟩) (fun r hw => ?_)
      obtain rfl : aU = r := (hw.trans (by unfold sp_X6_rowOf; rw [if_neg s_32_0, if_neg s_32_1])).symm
      refine lv_iload_n hx hb dX11_at_80 rfl (lv_at hl 2 rfl) ?_
      refine va_iald hx hb hK hP 6 0 rfl rfl (iw_in c_6) dX11_at_81 ?_
      refine lv_topi (fun xv ex => ?_)
      obtain rfl : xv = 0 := ex.trans (by first | exact pk_us | rfl | decide)
      exact W.iret (v := 0) hx hb hr (fun t ht hW => ⟨⟨0, (), rfl, (by unfold sp_X11_at; rw [if_neg c_6, if_neg s_32_0, if_neg s_32_1, if_pos s_32_2]), ⟨fun k q h => by simp at h, va_K.moved hW.alike hK, ⟨fun i j p q h => by simp at h, fun k q h => by simp at h⟩⟩⟩, hS.F ht⟩) hS.2.2 dX11_at_82
    by_cases s_32_3 : b = 3
    · refine lv_tableIn (off := 51) (tgt := 83) hx hb dX11_at_32 (by rw [s_32_3]; decide) (by rw [s_32_3]; decide) (by rw [s_32_3]; decide) (by decide) ?_
      refine lv_aload_n hx hb dX11_at_83 rfl (lv_at hl 0 rfl) ?_
      refine va_get (ci := 10) (v := .ref aR) (C := RX10) (T := TX10) (N := 7) hx hb htl inX10 hown hK hP 2 rfl rfl 0 (by decide) (htl _ fl_RX11_95) (fun _ h9 => h9) rfl dX11_at_84 ?_
      refine lv_iload_n hx hb dX11_at_87 rfl (lv_at hl 2 rfl) ?_
      refine vp_callSi (mkVr (rest := []) ⟨hx, hb, hml, hown, htl⟩ hN hK hP (c_X6_isDug l G cs aR a (.ref aK) (.ref aH) (.ref aU) 0) [3] rfl 0 6 rfl rfl (cV 1 htl lk_RX11_99 mI_X6_isDug mS_X6_isDug mN_RX6 mC_X6_isDug ok_X6_isDug rfl rfl ⟨(Nat.le_of_ble_eq_true rfl), (Nat.le_of_ble_eq_true rfl)⟩) rfl hl.1 rfl (Nat.le_of_ble_eq_true rfl) dX11_at_88 ⟨(Nat.le_of_ble_eq_true rfl), (Nat.le_of_ble_eq_true rfl)⟩) (fun r hw => ?_)
      obtain rfl : r = 0 := hw.1.trans (isDug_0 _)
      refine lv_if_eq (tgt := 98) hx hb dX11_at_91 (by decide) (fun _ => ?_) (fun h => absurd (by decide) h)
      refine lv_iconst (v := 0) hx hb dX11_at_98 (by decide) ?_
      exact W.iret (v := 0) hx hb hr (fun t ht hW => ⟨⟨0, (), rfl, (by unfold sp_X11_at; rw [if_neg c_6, if_neg s_32_0, if_neg s_32_1, if_neg s_32_2, if_pos s_32_3]), ⟨fun k q h => by simp at h, va_K.moved hW.alike hK, ⟨fun i j p q h => by simp at h, fun k q h => by simp at h⟩⟩⟩, hS.F ht⟩) hS.2.2 dX11_at_99
    by_cases s_32_4 : b = 4
    · refine lv_tableIn (off := 68) (tgt := 100) hx hb dX11_at_32 (by rw [s_32_4]; decide) (by rw [s_32_4]; decide) (by rw [s_32_4]; decide) (by decide) ?_
      refine lv_aload_n hx hb dX11_at_100 rfl (lv_at hl 1 rfl) ?_
      refine va_get (ci := 11) (v := .ref aA) (C := RX11) (T := TX11) (N := 14) hx hb htl inX11 hown hK hP 0 rfl rfl 0 (by decide) (htl _ fl_RX11_10) (fun _ h9 => h9) rfl dX11_at_101 ?_
      refine lv_iload_n hx hb dX11_at_104 rfl (lv_at hl 2 rfl) ?_
      refine lv_aload_n hx hb dX11_at_105 rfl (lv_at hl 0 rfl) ?_
      refine va_get (ci := 10) (v := .ref aR) (C := RX10) (T := TX10) (N := 7) hx hb htl inX10 hown hK hP 2 rfl rfl 0 (by decide) (htl _ fl_RX11_95) (fun _ h9 => h9) rfl dX11_at_106 ?_
      refine va_get (ci := 6) (v := .ref aK) (C := RX6) (T := TX6) (N := 4) hx hb htl inX6 hown hK hP 3 rfl rfl 0 (by decide) (htl _ fl_RX11_124) (fun _ h9 => h9) rfl dX11_at_109 ?_
      refine lv_iload_n hx hb dX11_at_112 rfl (lv_at hl 2 rfl) ?_
      refine va_iald hx hb hK hP 4 0 rfl rfl (iw_in c_6) dX11_at_113 ?_
      refine lv_topi (fun xv ex => ?_)
      obtain rfl : xv = 0 := ex.trans (by first | exact pk_us | rfl | decide)
      refine mi (wr := [(h0, .inr (11, [.ref aA, .ref aS, f_h0_2, f_h0_3, f_h0_4, f_h0_5, f_h0_6, f_h0_7, f_h0_8, f_h0_9, f_h0_10, f_h0_11, .ref h1, .int lr])), (aS, .inr (7, [.ref aW, .ref aD, f_aS_2, f_aS_3, f_aS_4])), (aW, .inr (10, [.ref aR, f_aW_1, f_aW_2, f_aW_3, f_aW_4, f_aW_5, .int (-1)])), (aR, .inr (6, [.ref aK, .ref aH, .ref aU, .long 0])), (aK, .inl (cs 0, 40, .inl (fun _ => 0))), (aH, .inl (cs 0, 40, .inl (fl (fun _ => 0) 40 3))), (aU, .inl (cs 0, 40, .inl (fun _ => 0)))]) (mkV (rest := []) ⟨hx, hb, hml, hown, htl⟩ hN hK hP hD (c_X0_saysOf l G cs aA a 0 f_aA_0 (.ref aW) f_aA_3 f_aA_4 f_aA_5 f_aA_6 f_aA_7 f_aA_8 _) [7] rfl rfl 0 0 rfl rfl (cV 2 htl lk_RX11_127 mI_X0_saysOf mS_X0_saysOf mN_RX0 mC_X0_saysOf ok_X0_saysOf rfl rfl ⟨(Nat.le_of_ble_eq_true rfl), (Nat.le_of_ble_eq_true rfl)⟩) rfl hl.1 rfl (Nat.le_of_ble_eq_true rfl) dX11_at_114 ⟨(Nat.le_of_ble_eq_true rfl), (Nat.le_of_ble_eq_true rfl)⟩) hP hD hS hA [7] [0, 1, 2, 3, 4, 5, 6] rfl rfl rfl (by decide) (fun r u_114 H locs hw hP hD hS => ?_)
      have hP : va_P G vwCl [(h0, .inr (11, [.ref aA, .ref aS, f_h0_2, f_h0_3, f_h0_4, f_h0_5, f_h0_6, f_h0_7, f_h0_8, f_h0_9, f_h0_10, f_h0_11, .ref h1, .int lr])), (aS, .inr (7, [.ref aW, .ref aD, f_aS_2, f_aS_3, f_aS_4])), (aW, .inr (10, [.ref aR, f_aW_1, f_aW_2, f_aW_3, f_aW_4, f_aW_5, .int (-1)])), (aR, .inr (6, [.ref aK, .ref aH, .ref aU, .long 0])), (aK, .inl (cs 0, 40, .inl (fun _ => 0))), (aH, .inl (cs 0, 40, .inl (fl (fun _ => 0) 40 3))), (aU, .inl (cs 0, 40, .inl (fun _ => 0))), (aA, .inr (0, [f_aA_0, .ref aW, .null, .int a, .int (-1), .int 0, f_aA_6, f_aA_7, f_aA_8]))] H := hP
      have hD : va_D A [(h0, .inr (11, [.ref aA, .ref aS, f_h0_2, f_h0_3, f_h0_4, f_h0_5, f_h0_6, f_h0_7, f_h0_8, f_h0_9, f_h0_10, f_h0_11, .ref h1, .int lr])), (aS, .inr (7, [.ref aW, .ref aD, f_aS_2, f_aS_3, f_aS_4])), (aW, .inr (10, [.ref aR, f_aW_1, f_aW_2, f_aW_3, f_aW_4, f_aW_5, .int (-1)])), (aR, .inr (6, [.ref aK, .ref aH, .ref aU, .long 0])), (aK, .inl (cs 0, 40, .inl (fun _ => 0))), (aH, .inl (cs 0, 40, .inl (fl (fun _ => 0) 40 3))), (aU, .inl (cs 0, 40, .inl (fun _ => 0))), (aA, .inr (0, [f_aA_0, .ref aW, .null, .int a, .int (-1), .int 0, f_aA_6, f_aA_7, f_aA_8]))] := hD
      obtain rfl : r = 20 := hw.trans (by first | decide +kernel | rfl)
      exact W.iret (v := 20) hx hb hr (fun t ht hW => ⟨⟨20, (), rfl, (by unfold sp_X11_at; rw [if_neg c_6, if_neg s_32_0, if_neg s_32_1, if_neg s_32_2, if_neg s_32_3, if_pos s_32_4]), ⟨fun k q h => by simp at h, va_K.moved hW.alike hK, ⟨fun i j p q h => by simp at h, fun k q h => by simp at h⟩⟩⟩, hS.F ht⟩) hS.2.2 dX11_at_117
    by_cases s_32_5 : b = 5
    · refine lv_tableIn (off := 86) (tgt := 118) hx hb dX11_at_32 (by rw [s_32_5]; decide) (by rw [s_32_5]; decide) (by rw [s_32_5]; decide) (by decide) ?_
      refine lv_aload_n hx hb dX11_at_118 rfl (lv_at hl 1 rfl) ?_
      refine va_get (ci := 11) (v := .ref aA) (C := RX11) (T := TX11) (N := 14) hx hb htl inX11 hown hK hP 0 rfl rfl 0 (by decide) (htl _ fl_RX11_10) (fun _ h9 => h9) rfl dX11_at_119 ?_
      refine lv_iload_n hx hb dX11_at_122 rfl (lv_at hl 2 rfl) ?_
      refine lv_aload_n hx hb dX11_at_123 rfl (lv_at hl 0 rfl) ?_
      refine va_get (ci := 10) (v := .ref aR) (C := RX10) (T := TX10) (N := 7) hx hb htl inX10 hown hK hP 2 rfl rfl 0 (by decide) (htl _ fl_RX11_95) (fun _ h9 => h9) rfl dX11_at_124 ?_
      refine va_get (ci := 6) (v := .ref aK) (C := RX6) (T := TX6) (N := 4) hx hb htl inX6 hown hK hP 3 rfl rfl 0 (by decide) (htl _ fl_RX11_124) (fun _ h9 => h9) rfl dX11_at_127 ?_
      refine lv_iload_n hx hb dX11_at_130 rfl (lv_at hl 2 rfl) ?_
      refine va_iald hx hb hK hP 4 0 rfl rfl (iw_in c_6) dX11_at_131 ?_
      refine lv_topi (fun xv ex => ?_)
      obtain rfl : xv = 0 := ex.trans (by first | exact pk_us | rfl | decide)
      refine mi (wr := [(h0, .inr (11, [.ref aA, .ref aS, f_h0_2, f_h0_3, f_h0_4, f_h0_5, f_h0_6, f_h0_7, f_h0_8, f_h0_9, f_h0_10, f_h0_11, .ref h1, .int lr])), (aS, .inr (7, [.ref aW, .ref aD, f_aS_2, f_aS_3, f_aS_4])), (aW, .inr (10, [.ref aR, f_aW_1, f_aW_2, f_aW_3, f_aW_4, f_aW_5, .int (-1)])), (aR, .inr (6, [.ref aK, .ref aH, .ref aU, .long 0])), (aK, .inl (cs 0, 40, .inl (fun _ => 0))), (aH, .inl (cs 0, 40, .inl (fl (fun _ => 0) 40 3))), (aU, .inl (cs 0, 40, .inl (fun _ => 0)))]) (mkV (rest := []) ⟨hx, hb, hml, hown, htl⟩ hN hK hP hD (c_X0_losesOf l G cs aA a 0 f_aA_0 (.ref aW) f_aA_3 f_aA_4 f_aA_5 f_aA_6 f_aA_7 f_aA_8 _) [7] rfl rfl 0 0 rfl rfl (cV 2 htl lk_RX11_131 mI_X0_losesOf mS_X0_losesOf mN_RX0 mC_X0_losesOf ok_X0_losesOf rfl rfl ⟨(Nat.le_of_ble_eq_true rfl), (Nat.le_of_ble_eq_true rfl)⟩) rfl hl.1 rfl (Nat.le_of_ble_eq_true rfl) dX11_at_132 ⟨(Nat.le_of_ble_eq_true rfl), (Nat.le_of_ble_eq_true rfl)⟩) hP hD hS hA [7] [0, 1, 2, 3, 4, 5, 6] rfl rfl rfl (by decide) (fun r u_132 H locs hw hP hD hS => ?_)
      have hP : va_P G vwCl [(h0, .inr (11, [.ref aA, .ref aS, f_h0_2, f_h0_3, f_h0_4, f_h0_5, f_h0_6, f_h0_7, f_h0_8, f_h0_9, f_h0_10, f_h0_11, .ref h1, .int lr])), (aS, .inr (7, [.ref aW, .ref aD, f_aS_2, f_aS_3, f_aS_4])), (aW, .inr (10, [.ref aR, f_aW_1, f_aW_2, f_aW_3, f_aW_4, f_aW_5, .int (-1)])), (aR, .inr (6, [.ref aK, .ref aH, .ref aU, .long 0])), (aK, .inl (cs 0, 40, .inl (fun _ => 0))), (aH, .inl (cs 0, 40, .inl (fl (fun _ => 0) 40 3))), (aU, .inl (cs 0, 40, .inl (fun _ => 0))), (aA, .inr (0, [f_aA_0, .ref aW, .null, .int a, .int (-1), .int 0, f_aA_6, f_aA_7, f_aA_8]))] H := hP
      have hD : va_D A [(h0, .inr (11, [.ref aA, .ref aS, f_h0_2, f_h0_3, f_h0_4, f_h0_5, f_h0_6, f_h0_7, f_h0_8, f_h0_9, f_h0_10, f_h0_11, .ref h1, .int lr])), (aS, .inr (7, [.ref aW, .ref aD, f_aS_2, f_aS_3, f_aS_4])), (aW, .inr (10, [.ref aR, f_aW_1, f_aW_2, f_aW_3, f_aW_4, f_aW_5, .int (-1)])), (aR, .inr (6, [.ref aK, .ref aH, .ref aU, .long 0])), (aK, .inl (cs 0, 40, .inl (fun _ => 0))), (aH, .inl (cs 0, 40, .inl (fl (fun _ => 0) 40 3))), (aU, .inl (cs 0, 40, .inl (fun _ => 0))), (aA, .inr (0, [f_aA_0, .ref aW, .null, .int a, .int (-1), .int 0, f_aA_6, f_aA_7, f_aA_8]))] := hD
      obtain rfl : r = 2 := hw.trans (by first | decide +kernel | rfl)
      exact W.iret (v := 2) hx hb hr (fun t ht hW => ⟨⟨2, (), rfl, (by unfold sp_X11_at; rw [if_neg c_6, if_neg s_32_0, if_neg s_32_1, if_neg s_32_2, if_neg s_32_3, if_neg s_32_4, if_pos s_32_5]), ⟨fun k q h => by simp at h, va_K.moved hW.alike hK, ⟨fun i j p q h => by simp at h, fun k q h => by simp at h⟩⟩⟩, hS.F ht⟩) hS.2.2 dX11_at_135
    refine lv_tableOut (tgt := 136) hx hb dX11_at_32 (by have t0 := lv_neT (a := 0) s_32_0 rfl; have t1 := lv_neT (a := 1) s_32_1 rfl; have t2 := lv_neT (a := 2) s_32_2 rfl; have t3 := lv_neT (a := 3) s_32_3 rfl; have t4 := lv_neT (a := 4) s_32_4 rfl; have t5 := lv_neT (a := 5) s_32_5 rfl; omega) (by decide) ?_
    refine lv_iconst (v := (-1)) hx hb dX11_at_136 (by decide) ?_
    exact W.iret (v := (-1)) hx hb hr (fun t ht hW => ⟨⟨(-1), (), rfl, (by unfold sp_X11_at; rw [if_neg c_6, if_neg s_32_0, if_neg s_32_1, if_neg s_32_2, if_neg s_32_3, if_neg s_32_4, if_neg s_32_5]), ⟨fun k q h => by simp at h, va_K.moved hW.alike hK, ⟨fun i j p q h => by simp at h, fun k q h => by simp at h⟩⟩⟩, hS.F ht⟩) hS.2.2 dX11_at_137
  · refine lv_iconst (v := (-1)) hx hb dX11_at_9 (by decide) ?_
    exact W.iret (v := (-1)) hx hb hr (fun t ht hW => ⟨⟨(-1), (), rfl, (by unfold sp_X11_at; rw [if_pos c_6]), ⟨fun k q h => by simp at h, va_K.moved hW.alike hK, ⟨fun i j p q h => by simp at h, fun k q h => by simp at h⟩⟩⟩, hS.F ht⟩) hS.2.2 dX11_at_10

def sp_X11_sink (a : Int32) : Int32 := if (sp_X11_isWithin a 8) = 0 then (-1) else 0
set_option maxHeartbeats 1000000 in
set_option maxRecDepth 100000 in
theorem c_X11_sink (l : Launch) (G : va_G) (cs : Nat → ClassId) (h0 : Nat) (a : Int32) (f_h0_0 : Value) (aS : Nat) (f_h0_2 : Value) (f_h0_3 : Value) (f_h0_4 : Value) (f_h0_5 : Value) (f_h0_6 : Value) (f_h0_7 : Value) (f_h0_8 : Value) (f_h0_9 : Value) (f_h0_10 : Value) (f_h0_11 : Value) (h1 : Nat) (lr : Int32) (rfs : Nat → Int32) (aW : Nat) (aD : Nat) (f_aS_2 : Value) (f_aS_3 : Value) (f_aS_4 : Value) (aR : Nat) (aC : Nat) (f_aW_2 : Value) (f_aW_3 : Value) (f_aW_4 : Value) (f_aW_5 : Value) (f_aW_6 : Value) (aK : Nat) (aH : Nat) (aU : Nat) (aCc : Nat) (aCb : Nat) (f_aD_0 : Value) (f_aD_1 : Value) (f_aD_2 : Value) (f_aD_3 : Value) (f_aD_4 : Value) (f_aD_5 : Value) (f_aD_6 : Value) (sz : Nat) : Met l yX11_sink (Cond.code yX11_sink cX11_sink 4 (some .int) :: gW) ({ frames := 1, cells := 0, slots := 0, locals := 21 }) (va_Pc [.ref h0, .int a] (Pre G cs [(h0, .inr (11, [f_h0_0, .ref aS, f_h0_2, f_h0_3, f_h0_4, f_h0_5, f_h0_6, f_h0_7, f_h0_8, f_h0_9, f_h0_10, f_h0_11, .ref h1, .int lr])), (h1, .inl (cs 0, 7, .inl rfs)), (aS, .inr (7, [.ref aW, .ref aD, f_aS_2, f_aS_3, f_aS_4])), (aW, .inr (10, [.ref aR, .ref aC, f_aW_2, f_aW_3, f_aW_4, f_aW_5, f_aW_6])), (aR, .inr (6, [.ref aK, .ref aH, .ref aU, .long 0])), (aK, .inl (cs 0, 40, .inl (fun _ => 0))), (aC, .inr (1, [.ref aCc, .ref aCb, .int 0])), (aCc, .inl (cs 0, 6, .inl (fun _ => 0))), (aCb, .inl (cs 0, 6, .inl (fun _ => 0))), (aD, .inr (2, [f_aD_0, f_aD_1, f_aD_2, f_aD_3, f_aD_4, f_aD_5, f_aD_6]))] sz)) (va_Qi (fun r (u : Unit) => r = sp_X11_sink a) (fun (u : Unit) t => Aft G cs (va_A [(h0, .inr (11, [f_h0_0, .ref aS, f_h0_2, f_h0_3, f_h0_4, f_h0_5, f_h0_6, f_h0_7, f_h0_8, f_h0_9, f_h0_10, f_h0_11, .ref h1, .int lr])), (h1, .inl (cs 0, 7, .inl rfs)), (aS, .inr (7, [.ref aW, .ref aD, f_aS_2, f_aS_3, f_aS_4])), (aW, .inr (10, [.ref aR, .ref aC, f_aW_2, f_aW_3, f_aW_4, f_aW_5, f_aW_6])), (aR, .inr (6, [.ref aK, .ref aH, .ref aU, .long 0])), (aK, .inl (cs 0, 40, .inl (fun _ => 0))), (aC, .inr (1, [.ref aCc, .ref aCb, .int 0])), (aCc, .inl (cs 0, 6, .inl (fun _ => 0))), (aCb, .inl (cs 0, 6, .inl (fun _ => 0))), (aD, .inr (2, [f_aD_0, f_aD_1, f_aD_2, f_aD_3, f_aD_4, f_aD_5, f_aD_6]))] sz) [] t) (va_A [(h0, .inr (11, [f_h0_0, .ref aS, f_h0_2, f_h0_3, f_h0_4, f_h0_5, f_h0_6, f_h0_7, f_h0_8, f_h0_9, f_h0_10, f_h0_11, .ref h1, .int lr])), (h1, .inl (cs 0, 7, .inl rfs)), (aS, .inr (7, [.ref aW, .ref aD, f_aS_2, f_aS_3, f_aS_4])), (aW, .inr (10, [.ref aR, .ref aC, f_aW_2, f_aW_3, f_aW_4, f_aW_5, f_aW_6])), (aR, .inr (6, [.ref aK, .ref aH, .ref aU, .long 0])), (aK, .inl (cs 0, 40, .inl (fun _ => 0))), (aC, .inr (1, [.ref aCc, .ref aCb, .int 0])), (aCc, .inl (cs 0, 6, .inl (fun _ => 0))), (aCb, .inl (cs 0, 6, .inl (fun _ => 0))), (aD, .inr (2, [f_aD_0, f_aD_1, f_aD_2, f_aD_3, f_aD_4, f_aD_5, f_aD_6]))] sz)) 0 0 (va_A [(h0, .inr (11, [f_h0_0, .ref aS, f_h0_2, f_h0_3, f_h0_4, f_h0_5, f_h0_6, f_h0_7, f_h0_8, f_h0_9, f_h0_10, f_h0_11, .ref h1, .int lr])), (h1, .inl (cs 0, 7, .inl rfs)), (aS, .inr (7, [.ref aW, .ref aD, f_aS_2, f_aS_3, f_aS_4])), (aW, .inr (10, [.ref aR, .ref aC, f_aW_2, f_aW_3, f_aW_4, f_aW_5, f_aW_6])), (aR, .inr (6, [.ref aK, .ref aH, .ref aU, .long 0])), (aK, .inl (cs 0, 40, .inl (fun _ => 0))), (aC, .inr (1, [.ref aCc, .ref aCb, .int 0])), (aCc, .inl (cs 0, 6, .inl (fun _ => 0))), (aCb, .inl (cs 0, 6, .inl (fun _ => 0))), (aD, .inr (2, [f_aD_0, f_aD_1, f_aD_2, f_aD_3, f_aD_4, f_aD_5, f_aD_6]))] sz) := by
  refine Met.ofW (cc := cX11_sink) (maxL := 4) (ret := (some .int)) (by decide) rfl ?_
  intro p e s m args below meth c s₁ B hml hv
  obtain ⟨rfl, hsz, hP, hK, hD0, hN⟩ := hv
  have hx := B.exec
  have hb := B.bytes
  have hr := B.returns
  have hts := atoms_spec (ws := Cond.code yX11_sink cX11_sink 4 (some .int) :: gW) B.pre
  have htl : ∀ w ∈ gW, w.before _ s = true := fun w h => hts w (List.mem_cons_of_mem _ h)
  have hown : s.vm.findClass RX11 = some m.cls := findClass_of_methodNamed B.named
  have hlocks := B.notSynchronized
  subst hsz
  have hD := hD0.self (sz := s.heap.size)
  generalize hAe : va_A [(h0, .inr (11, [f_h0_0, .ref aS, f_h0_2, f_h0_3, f_h0_4, f_h0_5, f_h0_6, f_h0_7, f_h0_8, f_h0_9, f_h0_10, f_h0_11, .ref h1, .int lr])), (h1, .inl (cs 0, 7, .inl rfs)), (aS, .inr (7, [.ref aW, .ref aD, f_aS_2, f_aS_3, f_aS_4])), (aW, .inr (10, [.ref aR, .ref aC, f_aW_2, f_aW_3, f_aW_4, f_aW_5, f_aW_6])), (aR, .inr (6, [.ref aK, .ref aH, .ref aU, .long 0])), (aK, .inl (cs 0, 40, .inl (fun _ => 0))), (aC, .inr (1, [.ref aCc, .ref aCb, .int 0])), (aCc, .inl (cs 0, 6, .inl (fun _ => 0))), (aCb, .inl (cs 0, 6, .inl (fun _ => 0))), (aD, .inr (2, [f_aD_0, f_aD_1, f_aD_2, f_aD_3, f_aD_4, f_aD_5, f_aD_6]))] s.heap.size = A at hD ⊢
  have hA : ∀ q : Nat, s.heap.size ≤ q → A q := fun q h => by rw [← hAe]; exact Or.inr h
  have hS : va_S A s.heap s.heap [] := va_S.rf
  have hl := lv_entry ([.ref h0, .int a]) (n := 4) (Nat.le_of_ble_eq_true rfl)
  rw [lg_entry_eq]
  generalize (lg_sl ([.ref h0, .int a]) ++ List.replicate (4 - (lg_sl ([.ref h0, .int a])).length) Slot.unset).toArray = ls at hl ⊢
  have hl : lv_has ls 4 [(0, .ref h0), (1, .int a)] := hl
  refine lv_iload_n hx hb dX11_sink_0 rfl (lv_at hl 1 rfl) ?_
  refine lv_bipush (v := 8) hx hb dX11_sink_1 (by decide) ?_
  refine vp_callSi (mkSr (rest := []) ⟨hx, hb, hml, hown, htl⟩ hN hK (c_X11_isWithin l G cs a 8) (cS 2 htl lk_RX11_82 mT_X11_isWithin mN_RX11 mC_X11_isWithin ok_X11_isWithin rfl rfl ⟨(Nat.le_of_ble_eq_true rfl), (Nat.le_of_ble_eq_true rfl)⟩) rfl hl.1 rfl (Nat.le_of_ble_eq_true rfl) dX11_sink_3 ⟨(Nat.le_of_ble_eq_true rfl), (Nat.le_of_ble_eq_true rfl)⟩) (fun r hw => ?_)
  obtain ⟨rfl, hz_1⟩ := hw
  refine lv_if_ne (tgt := 15) hx hb dX11_sink_6 (by decide) (fun c_6 => ?_) (fun c_6 => ?_)
  · refine lv_aload_n hx hb dX11_sink_15 rfl (lv_at hl 0 rfl) ?_
    refine va_get (ci := 11) (v := .ref aS) (C := RX11) (T := TX11) (N := 14) hx hb htl inX11 hown hK hP 0 rfl rfl 1 (by decide) (htl _ fl_RX11_21) (fun _ h9 => h9) rfl dX11_sink_16 ?_
    refine va_get (ci := 7) (v := .ref aW) (C := RX7) (T := TX7) (N := 5) hx hb htl inX7 hown hK hP 2 rfl rfl 0 (by decide) (htl _ fl_RX11_78) (fun _ h9 => h9) rfl dX11_sink_19 ?_
    refine va_get (ci := 10) (v := .ref aR) (C := RX10) (T := TX10) (N := 7) hx hb htl inX10 hown hK hP 3 rfl rfl 0 (by decide) (htl _ fl_RX11_95) (fun _ h9 => h9) rfl dX11_sink_22 ?_
    refine lv_astore_n (lv' := [(2, .ref aR), (0, .ref h0), (1, .int a)]) hx hb dX11_sink_25 rfl hl (by decide) rfl (fun ls hl => ?_)
    refine lv_aload_n hx hb dX11_sink_26 rfl (lv_at hl 1 rfl) ?_
    refine va_get (ci := 11) (v := .ref aS) (C := RX11) (T := TX11) (N := 14) hx hb htl inX11 hown hK hP 0 rfl rfl 1 (by decide) (htl _ fl_RX11_21) (fun _ h9 => h9) rfl dX11_sink_27 ?_
    refine va_get (ci := 7) (v := .ref aW) (C := RX7) (T := TX7) (N := 5) hx hb htl inX7 hown hK hP 2 rfl rfl 0 (by decide) (htl _ fl_RX11_78) (fun _ h9 => h9) rfl dX11_sink_30 ?_
    refine va_get (ci := 10) (v := .ref aC) (C := RX10) (T := TX10) (N := 7) hx hb htl inX10 hown hK hP 3 rfl rfl 1 (by decide) (htl _ fl_RX11_134) (fun _ h9 => h9) rfl dX11_sink_33 ?_
    refine lv_astore_n (lv' := [(3, .ref aC), (2, .ref aR), (0, .ref h0), (1, .int a)]) hx hb dX11_sink_36 rfl hl (by decide) rfl (fun ls hl => ?_)
    refine lv_aload_n hx hb dX11_sink_37 rfl (lv_at hl 1 rfl) ?_
    refine lv_iload_n hx hb dX11_sink_38 rfl (lv_at hl 3 rfl) ?_
    refine vp_callSi (mkVr (rest := []) ⟨hx, hb, hml, hown, htl⟩ hN hK hP (c_X6_isDug l G cs aR a (.ref aK) (.ref aH) (.ref aU) 0) [4] rfl 0 6 rfl rfl (cV 1 htl lk_RX11_99 mI_X6_isDug mS_X6_isDug mN_RX6 mC_X6_isDug ok_X6_isDug rfl rfl ⟨(Nat.le_of_ble_eq_true rfl), (Nat.le_of_ble_eq_true rfl)⟩) rfl hl.1 rfl (Nat.le_of_ble_eq_true rfl) dX11_sink_39 ⟨(Nat.le_of_ble_eq_true rfl), (Nat.le_of_ble_eq_true rfl)⟩) (fun r hw => ?_)
    obtain rfl : r = 0 := hw.1.trans (isDug_0 _)
    refine lv_if_ne (tgt := 55) hx hb dX11_sink_42 (by decide) (fun h => absurd (by decide) h) (fun _ => ?_)
    refine lv_aload_n hx hb dX11_sink_45 rfl (lv_at hl 1 rfl) ?_
    refine va_get (ci := 6) (v := .ref aK) (C := RX6) (T := TX6) (N := 4) hx hb htl inX6 hown hK hP 4 rfl rfl 0 (by decide) (htl _ fl_RX11_124) (fun _ h9 => h9) rfl dX11_sink_46 ?_
    refine lv_iload_n hx hb dX11_sink_49 rfl (lv_at hl 3 rfl) ?_
    refine va_iald hx hb hK hP 5 0 rfl rfl (iw_le c_6 (N := 8) (by decide)) dX11_sink_50 ?_
    refine lv_topi (fun xv ex => ?_)
    obtain rfl : xv = 0 := ex.trans (by first | exact pk_us | rfl | decide)
    refine lv_iconst (v := 1) hx hb dX11_sink_51 (by decide) ?_
    refine lv_icmp_ne (tgt := 62) hx hb dX11_sink_52 (by decide) (fun _ => ?_) (fun h => absurd h (by decide))
    refine lv_aload_n hx hb dX11_sink_62 rfl (lv_at hl 0 rfl) ?_
    refine va_get (ci := 1) (v := .int 0) (C := RX1) (T := TX1) (N := 3) hx hb htl inX1 hown hK hP 6 rfl rfl 2 (by decide) (htl _ fl_RX11_137) (fun _ h9 => h9) rfl dX11_sink_63 ?_
    refine lv_bipush (v := 6) hx hb dX11_sink_66 (by decide) ?_
    refine lv_icmp_lt (tgt := 78) hx hb dX11_sink_68 (by decide) (fun _ => ?_) (fun h => absurd (by decide) h)
    refine lv_aload_n hx hb dX11_sink_78 rfl (lv_at hl 1 rfl) ?_
    refine lv_iload_n hx hb dX11_sink_79 rfl (lv_at hl 3 rfl) ?_
    refine mv (wr := [(h0, .inr (11, [f_h0_0, .ref aS, f_h0_2, f_h0_3, f_h0_4, f_h0_5, f_h0_6, f_h0_7, f_h0_8, f_h0_9, f_h0_10, f_h0_11, .ref h1, .int lr])), (h1, .inl (cs 0, 7, .inl rfs)), (aS, .inr (7, [.ref aW, .ref aD, f_aS_2, f_aS_3, f_aS_4])), (aW, .inr (10, [.ref aR, .ref aC, f_aW_2, f_aW_3, f_aW_4, f_aW_5, f_aW_6])), (aK, .inl (cs 0, 40, .inl (fun _ => 0))), (aC, .inr (1, [.ref aCc, .ref aCb, .int 0])), (aCc, .inl (cs 0, 6, .inl (fun _ => 0))), (aCb, .inl (cs 0, 6, .inl (fun _ => 0))), (aD, .inr (2, [f_aD_0, f_aD_1, f_aD_2, f_aD_3, f_aD_4, f_aD_5, f_aD_6]))]) (mkV (rest := []) ⟨hx, hb, hml, hown, htl⟩ hN hK hP hD (c_X6_mark l G cs aR a (.ref aK) (.ref aH) (.ref aU) 0 _) [4] rfl rfl 0 6 rfl rfl (cV 1 htl lk_RX11_140 mI_X6_mark mS_X6_mark mN_RX6 mC_X6_mark ok_X6_mark rfl rfl ⟨(Nat.le_of_ble_eq_true rfl), (Nat.le_of_ble_eq_true rfl)⟩) rfl hl.1 rfl (Nat.le_of_ble_eq_true rfl) dX11_sink_80 ⟨(Nat.le_of_ble_eq_true rfl), (Nat.le_of_ble_eq_true rfl)⟩) hP hD hS hA [4] [0, 1, 2, 3, 5, 6, 7, 8, 9] rfl rfl rfl (by decide) (fun u_80 H locs hw hP hD hS => ?_)
    have hP : va_P G vwCl [(h0, .inr (11, [f_h0_0, .ref aS, f_h0_2, f_h0_3, f_h0_4, f_h0_5, f_h0_6, f_h0_7, f_h0_8, f_h0_9, f_h0_10, f_h0_11, .ref h1, .int lr])), (h1, .inl (cs 0, 7, .inl rfs)), (aS, .inr (7, [.ref aW, .ref aD, f_aS_2, f_aS_3, f_aS_4])), (aW, .inr (10, [.ref aR, .ref aC, f_aW_2, f_aW_3, f_aW_4, f_aW_5, f_aW_6])), (aK, .inl (cs 0, 40, .inl (fun _ => 0))), (aC, .inr (1, [.ref aCc, .ref aCb, .int 0])), (aCc, .inl (cs 0, 6, .inl (fun _ => 0))), (aCb, .inl (cs 0, 6, .inl (fun _ => 0))), (aD, .inr (2, [f_aD_0, f_aD_1, f_aD_2, f_aD_3, f_aD_4, f_aD_5, f_aD_6])), (aR, .inr (6, [.ref aK, .ref aH, .ref aU, .long (0 ||| ((1 : Int64) <<< (a.toInt64 &&& 63)))]))] H := hP
    have hD : va_D A [(h0, .inr (11, [f_h0_0, .ref aS, f_h0_2, f_h0_3, f_h0_4, f_h0_5, f_h0_6, f_h0_7, f_h0_8, f_h0_9, f_h0_10, f_h0_11, .ref h1, .int lr])), (h1, .inl (cs 0, 7, .inl rfs)), (aS, .inr (7, [.ref aW, .ref aD, f_aS_2, f_aS_3, f_aS_4])), (aW, .inr (10, [.ref aR, .ref aC, f_aW_2, f_aW_3, f_aW_4, f_aW_5, f_aW_6])), (aK, .inl (cs 0, 40, .inl (fun _ => 0))), (aC, .inr (1, [.ref aCc, .ref aCb, .int 0])), (aCc, .inl (cs 0, 6, .inl (fun _ => 0))), (aCb, .inl (cs 0, 6, .inl (fun _ => 0))), (aD, .inr (2, [f_aD_0, f_aD_1, f_aD_2, f_aD_3, f_aD_4, f_aD_5, f_aD_6])), (aR, .inr (6, [.ref aK, .ref aH, .ref aU, .long (0 ||| ((1 : Int64) <<< (a.toInt64 &&& 63)))]))] := hD
    refine lv_aload_n hx hb dX11_sink_83 rfl (lv_at hl 0 rfl) ?_
    refine lv_iload_n hx hb dX11_sink_84 rfl (lv_at hl 3 rfl) ?_
    refine mv (wr := [(h0, .inr (11, [f_h0_0, .ref aS, f_h0_2, f_h0_3, f_h0_4, f_h0_5, f_h0_6, f_h0_7, f_h0_8, f_h0_9, f_h0_10, f_h0_11, .ref h1, .int lr])), (h1, .inl (cs 0, 7, .inl rfs)), (aS, .inr (7, [.ref aW, .ref aD, f_aS_2, f_aS_3, f_aS_4])), (aW, .inr (10, [.ref aR, .ref aC, f_aW_2, f_aW_3, f_aW_4, f_aW_5, f_aW_6])), (aK, .inl (cs 0, 40, .inl (fun _ => 0))), (aD, .inr (2, [f_aD_0, f_aD_1, f_aD_2, f_aD_3, f_aD_4, f_aD_5, f_aD_6])), (aR, .inr (6, [.ref aK, .ref aH, .ref aU, .long (0 ||| ((1 : Int64) <<< (a.toInt64 &&& 63)))]))]) (mkV (rest := []) ⟨hx, hb, hml, hown, htl⟩ hN hK hP hD (c_X1_add l G cs aC a aCc aCb _) [5, 6, 7] rfl rfl 0 1 rfl rfl (cV 1 htl lk_RX11_144 mI_X1_add mS_X1_add mN_RX1 mC_X1_add ok_X1_add rfl rfl ⟨(Nat.le_of_ble_eq_true rfl), (Nat.le_of_ble_eq_true rfl)⟩) rfl hl.1 rfl (Nat.le_of_ble_eq_true rfl) dX11_sink_85 ⟨(Nat.le_of_ble_eq_true rfl), (Nat.le_of_ble_eq_true rfl)⟩) hP hD hS hA [5, 6, 7] [0, 1, 2, 3, 4, 8, 9] rfl rfl rfl (by decide) (fun u_85 H locs hw hP hD hS => ?_)
    have hP : va_P G vwCl [(h0, .inr (11, [f_h0_0, .ref aS, f_h0_2, f_h0_3, f_h0_4, f_h0_5, f_h0_6, f_h0_7, f_h0_8, f_h0_9, f_h0_10, f_h0_11, .ref h1, .int lr])), (h1, .inl (cs 0, 7, .inl rfs)), (aS, .inr (7, [.ref aW, .ref aD, f_aS_2, f_aS_3, f_aS_4])), (aW, .inr (10, [.ref aR, .ref aC, f_aW_2, f_aW_3, f_aW_4, f_aW_5, f_aW_6])), (aK, .inl (cs 0, 40, .inl (fun _ => 0))), (aD, .inr (2, [f_aD_0, f_aD_1, f_aD_2, f_aD_3, f_aD_4, f_aD_5, f_aD_6])), (aR, .inr (6, [.ref aK, .ref aH, .ref aU, .long (0 ||| ((1 : Int64) <<< (a.toInt64 &&& 63)))])), (aC, .inr (1, [.ref aCc, .ref aCb, .int 1])), (aCc, .inl (cs 0, 6, .inl (upd (fun _ => 0) 0 a))), (aCb, .inl (cs 0, 6, .inl (upd (fun _ => 0) 0 0)))] H := hP
    have hD : va_D A [(h0, .inr (11, [f_h0_0, .ref aS, f_h0_2, f_h0_3, f_h0_4, f_h0_5, f_h0_6, f_h0_7, f_h0_8, f_h0_9, f_h0_10, f_h0_11, .ref h1, .int lr])), (h1, .inl (cs 0, 7, .inl rfs)), (aS, .inr (7, [.ref aW, .ref aD, f_aS_2, f_aS_3, f_aS_4])), (aW, .inr (10, [.ref aR, .ref aC, f_aW_2, f_aW_3, f_aW_4, f_aW_5, f_aW_6])), (aK, .inl (cs 0, 40, .inl (fun _ => 0))), (aD, .inr (2, [f_aD_0, f_aD_1, f_aD_2, f_aD_3, f_aD_4, f_aD_5, f_aD_6])), (aR, .inr (6, [.ref aK, .ref aH, .ref aU, .long (0 ||| ((1 : Int64) <<< (a.toInt64 &&& 63)))])), (aC, .inr (1, [.ref aCc, .ref aCb, .int 1])), (aCc, .inl (cs 0, 6, .inl (upd (fun _ => 0) 0 a))), (aCb, .inl (cs 0, 6, .inl (upd (fun _ => 0) 0 0)))] := hD
    refine lv_aload_n hx hb dX11_sink_88 rfl (lv_at hl 2 rfl) ?_
    refine va_get (ci := 11) (v := .ref aS) (C := RX11) (T := TX11) (N := 14) hx hb htl inX11 hown hK hP 0 rfl rfl 1 (by decide) (htl _ fl_RX11_21) (fun _ h9 => h9) rfl dX11_sink_89 ?_
    refine va_get (ci := 7) (v := .ref aD) (C := RX7) (T := TX7) (N := 5) hx hb htl inX7 hown hK hP 2 rfl rfl 1 (by decide) (htl _ fl_RX11_107) (fun _ h9 => h9) rfl dX11_sink_92 ?_
    refine mv (wr := [(h0, .inr (11, [f_h0_0, .ref aS, f_h0_2, f_h0_3, f_h0_4, f_h0_5, f_h0_6, f_h0_7, f_h0_8, f_h0_9, f_h0_10, f_h0_11, .ref h1, .int lr])), (h1, .inl (cs 0, 7, .inl rfs)), (aS, .inr (7, [.ref aW, .ref aD, f_aS_2, f_aS_3, f_aS_4])), (aW, .inr (10, [.ref aR, .ref aC, f_aW_2, f_aW_3, f_aW_4, f_aW_5, f_aW_6])), (aK, .inl (cs 0, 40, .inl (fun _ => 0))), (aR, .inr (6, [.ref aK, .ref aH, .ref aU, .long (0 ||| ((1 : Int64) <<< (a.toInt64 &&& 63)))])), (aC, .inr (1, [.ref aCc, .ref aCb, .int 1])), (aCc, .inl (cs 0, 6, .inl (upd (fun _ => 0) 0 a))), (aCb, .inl (cs 0, 6, .inl (upd (fun _ => 0) 0 0)))]) (mkV (rest := []) ⟨hx, hb, hml, hown, htl⟩ hN hK hP hD (c_X2_clear l G cs aD f_aD_0 f_aD_1 f_aD_2 f_aD_3 f_aD_4 f_aD_5 f_aD_6 _) [5] rfl rfl 0 2 rfl rfl (cV 0 htl lk_RX11_111 mI_X2_clear mS_X2_clear mN_RX2 mC_X2_clear ok_X2_clear rfl rfl ⟨(Nat.le_of_ble_eq_true rfl), (Nat.le_of_ble_eq_true rfl)⟩) rfl hl.1 rfl (Nat.le_of_ble_eq_true rfl) dX11_sink_95 ⟨(Nat.le_of_ble_eq_true rfl), (Nat.le_of_ble_eq_true rfl)⟩) hP hD hS hA [5] [0, 1, 2, 3, 4, 6, 7, 8, 9] rfl rfl rfl (by decide) (fun u_95 H locs hw hP hD hS => ?_)
    have hP : va_P G vwCl [(h0, .inr (11, [f_h0_0, .ref aS, f_h0_2, f_h0_3, f_h0_4, f_h0_5, f_h0_6, f_h0_7, f_h0_8, f_h0_9, f_h0_10, f_h0_11, .ref h1, .int lr])), (h1, .inl (cs 0, 7, .inl rfs)), (aS, .inr (7, [.ref aW, .ref aD, f_aS_2, f_aS_3, f_aS_4])), (aW, .inr (10, [.ref aR, .ref aC, f_aW_2, f_aW_3, f_aW_4, f_aW_5, f_aW_6])), (aK, .inl (cs 0, 40, .inl (fun _ => 0))), (aR, .inr (6, [.ref aK, .ref aH, .ref aU, .long (0 ||| ((1 : Int64) <<< (a.toInt64 &&& 63)))])), (aC, .inr (1, [.ref aCc, .ref aCb, .int 1])), (aCc, .inl (cs 0, 6, .inl (upd (fun _ => 0) 0 a))), (aCb, .inl (cs 0, 6, .inl (upd (fun _ => 0) 0 0))), (aD, .inr (2, [f_aD_0, f_aD_1, f_aD_2, f_aD_3, f_aD_4, .int 0, f_aD_6]))] H := hP
    have hD : va_D A [(h0, .inr (11, [f_h0_0, .ref aS, f_h0_2, f_h0_3, f_h0_4, f_h0_5, f_h0_6, f_h0_7, f_h0_8, f_h0_9, f_h0_10, f_h0_11, .ref h1, .int lr])), (h1, .inl (cs 0, 7, .inl rfs)), (aS, .inr (7, [.ref aW, .ref aD, f_aS_2, f_aS_3, f_aS_4])), (aW, .inr (10, [.ref aR, .ref aC, f_aW_2, f_aW_3, f_aW_4, f_aW_5, f_aW_6])), (aK, .inl (cs 0, 40, .inl (fun _ => 0))), (aR, .inr (6, [.ref aK, .ref aH, .ref aU, .long (0 ||| ((1 : Int64) <<< (a.toInt64 &&& 63)))])), (aC, .inr (1, [.ref aCc, .ref aCb, .int 1])), (aCc, .inl (cs 0, 6, .inl (upd (fun _ => 0) 0 a))), (aCb, .inl (cs 0, 6, .inl (upd (fun _ => 0) 0 0))), (aD, .inr (2, [f_aD_0, f_aD_1, f_aD_2, f_aD_3, f_aD_4, .int 0, f_aD_6]))] := hD
    refine lv_aload_n hx hb dX11_sink_98 rfl (lv_at hl 2 rfl) ?_
    refine lv_aload_n hx hb dX11_sink_99 rfl (lv_at hl 0 rfl) ?_
    refine va_get (ci := 1) (v := .int 1) (C := RX1) (T := TX1) (N := 3) hx hb htl inX1 hown hK hP 6 rfl rfl 2 (by decide) (htl _ fl_RX11_137) (fun _ h9 => h9) rfl dX11_sink_100 ?_
    refine lv_iconst (v := 1) hx hb dX11_sink_103 (by decide) ?_
    refine lv_isub hx hb dX11_sink_104 ?_
    refine lv_topi (fun xv ex => ?_)
    obtain rfl : xv = 0 := ex.trans (by first | rfl | decide)
    refine mi (wr := [(aS, .inr (7, [.ref aW, .ref aD, f_aS_2, f_aS_3, f_aS_4])), (aW, .inr (10, [.ref aR, .ref aC, f_aW_2, f_aW_3, f_aW_4, f_aW_5, f_aW_6])), (aK, .inl (cs 0, 40, .inl (fun _ => 0))), (aR, .inr (6, [.ref aK, .ref aH, .ref aU, .long (0 ||| ((1 : Int64) <<< (a.toInt64 &&& 63)))])), (aC, .inr (1, [.ref aCc, .ref aCb, .int 1])), (aCc, .inl (cs 0, 6, .inl (upd (fun _ => 0) 0 a))), (aCb, .inl (cs 0, 6, .inl (upd (fun _ => 0) 0 0))), (aD, .inr (2, [f_aD_0, f_aD_1, f_aD_2, f_aD_3, f_aD_4, .int 0, f_aD_6]))]) (mkV (rest := []) ⟨hx, hb, hml, hown, htl⟩ hN hK hP hD (c_X11_settle l G cs h0 0 f_h0_0 (.ref aS) f_h0_2 f_h0_3 f_h0_4 f_h0_5 f_h0_6 f_h0_7 f_h0_8 f_h0_9 f_h0_10 f_h0_11 h1 lr (rfs) _ (by decide)) [0, 1] rfl rfl 0 11 rfl rfl (cV 1 htl lk_RX11_91 mI_X11_settle mS_X11_settle mN_RX11 mC_X11_settle ok_X11_settle rfl rfl ⟨(Nat.le_of_ble_eq_true rfl), (Nat.le_of_ble_eq_true rfl)⟩) rfl hl.1 rfl (Nat.le_of_ble_eq_true rfl) dX11_sink_105 ⟨(Nat.le_of_ble_eq_true rfl), (Nat.le_of_ble_eq_true rfl)⟩) hP hD hS hA [0, 1] [2, 3, 4, 5, 6, 7, 8, 9] rfl rfl rfl (by decide) (fun r u_105 H locs hw hP hD hS => ?_)
    have hP : va_P G vwCl [(aS, .inr (7, [.ref aW, .ref aD, f_aS_2, f_aS_3, f_aS_4])), (aW, .inr (10, [.ref aR, .ref aC, f_aW_2, f_aW_3, f_aW_4, f_aW_5, f_aW_6])), (aK, .inl (cs 0, 40, .inl (fun _ => 0))), (aR, .inr (6, [.ref aK, .ref aH, .ref aU, .long (0 ||| ((1 : Int64) <<< (a.toInt64 &&& 63)))])), (aC, .inr (1, [.ref aCc, .ref aCb, .int 1])), (aCc, .inl (cs 0, 6, .inl (upd (fun _ => 0) 0 a))), (aCb, .inl (cs 0, 6, .inl (upd (fun _ => 0) 0 0))), (aD, .inr (2, [f_aD_0, f_aD_1, f_aD_2, f_aD_3, f_aD_4, .int 0, f_aD_6]))] H := hP
    have hD : va_D A [(aS, .inr (7, [.ref aW, .ref aD, f_aS_2, f_aS_3, f_aS_4])), (aW, .inr (10, [.ref aR, .ref aC, f_aW_2, f_aW_3, f_aW_4, f_aW_5, f_aW_6])), (aK, .inl (cs 0, 40, .inl (fun _ => 0))), (aR, .inr (6, [.ref aK, .ref aH, .ref aU, .long (0 ||| ((1 : Int64) <<< (a.toInt64 &&& 63)))])), (aC, .inr (1, [.ref aCc, .ref aCb, .int 1])), (aCc, .inl (cs 0, 6, .inl (upd (fun _ => 0) 0 a))), (aCb, .inl (cs 0, 6, .inl (upd (fun _ => 0) 0 0))), (aD, .inr (2, [f_aD_0, f_aD_1, f_aD_2, f_aD_3, f_aD_4, .int 0, f_aD_6]))] := hD
    obtain rfl : r = 0 := hw.trans (by unfold sp_X11_settle; (try rw [if_pos (by decide)]) <;> first | rfl | decide)
    exact W.iret (v := 0) hx hb hr (fun t ht hW => ⟨⟨0, (), rfl, (by unfold sp_X11_sink; rw [if_neg c_6]), ⟨fun k q h => by simp at h, va_K.moved hW.alike hK, ⟨fun i j p q h => by simp at h, fun k q h => by simp at h⟩⟩⟩, hS.F ht⟩) hS.2.2 dX11_sink_108
  · refine lv_aload_n hx hb dX11_sink_9 rfl (lv_at hl 0 rfl) ?_
    refine lv_iconst (v := (-1)) hx hb dX11_sink_10 (by decide) ?_
    refine mi (wr := [(aS, .inr (7, [.ref aW, .ref aD, f_aS_2, f_aS_3, f_aS_4])), (aW, .inr (10, [.ref aR, .ref aC, f_aW_2, f_aW_3, f_aW_4, f_aW_5, f_aW_6])), (aR, .inr (6, [.ref aK, .ref aH, .ref aU, .long 0])), (aK, .inl (cs 0, 40, .inl (fun _ => 0))), (aC, .inr (1, [.ref aCc, .ref aCb, .int 0])), (aCc, .inl (cs 0, 6, .inl (fun _ => 0))), (aCb, .inl (cs 0, 6, .inl (fun _ => 0))), (aD, .inr (2, [f_aD_0, f_aD_1, f_aD_2, f_aD_3, f_aD_4, f_aD_5, f_aD_6]))]) (mkV (rest := []) ⟨hx, hb, hml, hown, htl⟩ hN hK hP hD (c_X11_settle l G cs h0 (-1) f_h0_0 (.ref aS) f_h0_2 f_h0_3 f_h0_4 f_h0_5 f_h0_6 f_h0_7 f_h0_8 f_h0_9 f_h0_10 f_h0_11 h1 lr (rfs) _ (by decide)) [0, 1] rfl rfl 0 11 rfl rfl (cV 1 htl lk_RX11_91 mI_X11_settle mS_X11_settle mN_RX11 mC_X11_settle ok_X11_settle rfl rfl ⟨(Nat.le_of_ble_eq_true rfl), (Nat.le_of_ble_eq_true rfl)⟩) rfl hl.1 rfl (Nat.le_of_ble_eq_true rfl) dX11_sink_11 ⟨(Nat.le_of_ble_eq_true rfl), (Nat.le_of_ble_eq_true rfl)⟩) hP hD hS hA [0, 1] [2, 3, 4, 5, 6, 7, 8, 9] rfl rfl rfl (by decide) (fun r u_11 H locs hw hP hD hS => ?_)
    have hP : va_P G vwCl [(aS, .inr (7, [.ref aW, .ref aD, f_aS_2, f_aS_3, f_aS_4])), (aW, .inr (10, [.ref aR, .ref aC, f_aW_2, f_aW_3, f_aW_4, f_aW_5, f_aW_6])), (aR, .inr (6, [.ref aK, .ref aH, .ref aU, .long 0])), (aK, .inl (cs 0, 40, .inl (fun _ => 0))), (aC, .inr (1, [.ref aCc, .ref aCb, .int 0])), (aCc, .inl (cs 0, 6, .inl (fun _ => 0))), (aCb, .inl (cs 0, 6, .inl (fun _ => 0))), (aD, .inr (2, [f_aD_0, f_aD_1, f_aD_2, f_aD_3, f_aD_4, f_aD_5, f_aD_6]))] H := hP
    have hD : va_D A [(aS, .inr (7, [.ref aW, .ref aD, f_aS_2, f_aS_3, f_aS_4])), (aW, .inr (10, [.ref aR, .ref aC, f_aW_2, f_aW_3, f_aW_4, f_aW_5, f_aW_6])), (aR, .inr (6, [.ref aK, .ref aH, .ref aU, .long 0])), (aK, .inl (cs 0, 40, .inl (fun _ => 0))), (aC, .inr (1, [.ref aCc, .ref aCb, .int 0])), (aCc, .inl (cs 0, 6, .inl (fun _ => 0))), (aCb, .inl (cs 0, 6, .inl (fun _ => 0))), (aD, .inr (2, [f_aD_0, f_aD_1, f_aD_2, f_aD_3, f_aD_4, f_aD_5, f_aD_6]))] := hD
    obtain rfl : r = (-1) := hw.trans (by unfold sp_X11_settle; (try rw [if_neg (by decide), if_neg (by decide)]) <;> first | rfl | decide)
    exact W.iret (v := (-1)) hx hb hr (fun t ht hW => ⟨⟨(-1), (), rfl, (by unfold sp_X11_sink; rw [if_pos c_6]), ⟨fun k q h => by simp at h, va_K.moved hW.alike hK, ⟨fun i j p q h => by simp at h, fun k q h => by simp at h⟩⟩⟩, hS.F ht⟩) hS.2.2 dX11_sink_14

def sp_X11_of : Int32 := (-1)
set_option maxHeartbeats 1000000 in
set_option maxRecDepth 100000 in
theorem c_X11_of (l : Launch) (G : va_G) (cs : Nat → ClassId) (h0 : Nat) (a : Int32) (b : Int32) (f_h0_0 : Value) (aS : Nat) (f_h0_2 : Value) (f_h0_3 : Value) (f_h0_4 : Value) (f_h0_5 : Value) (f_h0_6 : Value) (f_h0_7 : Value) (f_h0_8 : Value) (f_h0_9 : Value) (f_h0_10 : Value) (f_h0_11 : Value) (h1 : Nat) (lr : Int32) (aW : Nat) (aD : Nat) (f_aS_2 : Value) (f_aS_3 : Value) (f_aS_4 : Value) (f_aW_0 : Value) (aC : Nat) (f_aW_2 : Value) (f_aW_3 : Value) (f_aW_4 : Value) (f_aW_5 : Value) (f_aW_6 : Value) (f_aC_0 : Value) (f_aC_1 : Value) (sz : Nat) : Met l yX11_of (Cond.code yX11_of cX11_of 5 (some .int) :: gW) ({ frames := 1, cells := 0, slots := 0, locals := 21 }) (va_Pc [.ref h0, .int a, .int b] (Pre G cs [(h0, .inr (11, [f_h0_0, .ref aS, f_h0_2, f_h0_3, f_h0_4, f_h0_5, f_h0_6, f_h0_7, f_h0_8, f_h0_9, f_h0_10, f_h0_11, .ref h1, .int lr])), (aS, .inr (7, [.ref aW, .ref aD, f_aS_2, f_aS_3, f_aS_4])), (aW, .inr (10, [f_aW_0, .ref aC, f_aW_2, f_aW_3, f_aW_4, f_aW_5, f_aW_6])), (aC, .inr (1, [f_aC_0, f_aC_1, .int 0]))] sz)) (va_Qi (fun r (u : Unit) => r = sp_X11_of) (fun (u : Unit) t => Aft G cs (va_A [(h0, .inr (11, [f_h0_0, .ref aS, f_h0_2, f_h0_3, f_h0_4, f_h0_5, f_h0_6, f_h0_7, f_h0_8, f_h0_9, f_h0_10, f_h0_11, .ref h1, .int lr])), (aS, .inr (7, [.ref aW, .ref aD, f_aS_2, f_aS_3, f_aS_4])), (aW, .inr (10, [f_aW_0, .ref aC, f_aW_2, f_aW_3, f_aW_4, f_aW_5, f_aW_6])), (aC, .inr (1, [f_aC_0, f_aC_1, .int 0]))] sz) [] t) (va_A [(h0, .inr (11, [f_h0_0, .ref aS, f_h0_2, f_h0_3, f_h0_4, f_h0_5, f_h0_6, f_h0_7, f_h0_8, f_h0_9, f_h0_10, f_h0_11, .ref h1, .int lr])), (aS, .inr (7, [.ref aW, .ref aD, f_aS_2, f_aS_3, f_aS_4])), (aW, .inr (10, [f_aW_0, .ref aC, f_aW_2, f_aW_3, f_aW_4, f_aW_5, f_aW_6])), (aC, .inr (1, [f_aC_0, f_aC_1, .int 0]))] sz)) 0 0 (va_A [(h0, .inr (11, [f_h0_0, .ref aS, f_h0_2, f_h0_3, f_h0_4, f_h0_5, f_h0_6, f_h0_7, f_h0_8, f_h0_9, f_h0_10, f_h0_11, .ref h1, .int lr])), (aS, .inr (7, [.ref aW, .ref aD, f_aS_2, f_aS_3, f_aS_4])), (aW, .inr (10, [f_aW_0, .ref aC, f_aW_2, f_aW_3, f_aW_4, f_aW_5, f_aW_6])), (aC, .inr (1, [f_aC_0, f_aC_1, .int 0]))] sz) := by
  refine Met.ofW (cc := cX11_of) (maxL := 5) (ret := (some .int)) (by decide) rfl ?_
  intro p e s m args below meth c s₁ B hml hv
  obtain ⟨rfl, hsz, hP, hK, hD0, hN⟩ := hv
  have hx := B.exec
  have hb := B.bytes
  have hr := B.returns
  have hts := atoms_spec (ws := Cond.code yX11_of cX11_of 5 (some .int) :: gW) B.pre
  have htl : ∀ w ∈ gW, w.before _ s = true := fun w h => hts w (List.mem_cons_of_mem _ h)
  have hown : s.vm.findClass RX11 = some m.cls := findClass_of_methodNamed B.named
  have hlocks := B.notSynchronized
  subst hsz
  have hD := hD0.self (sz := s.heap.size)
  generalize hAe : va_A [(h0, .inr (11, [f_h0_0, .ref aS, f_h0_2, f_h0_3, f_h0_4, f_h0_5, f_h0_6, f_h0_7, f_h0_8, f_h0_9, f_h0_10, f_h0_11, .ref h1, .int lr])), (aS, .inr (7, [.ref aW, .ref aD, f_aS_2, f_aS_3, f_aS_4])), (aW, .inr (10, [f_aW_0, .ref aC, f_aW_2, f_aW_3, f_aW_4, f_aW_5, f_aW_6])), (aC, .inr (1, [f_aC_0, f_aC_1, .int 0]))] s.heap.size = A at hD ⊢
  have hA : ∀ q : Nat, s.heap.size ≤ q → A q := fun q h => by rw [← hAe]; exact Or.inr h
  have hS : va_S A s.heap s.heap [] := va_S.rf
  have hl := lv_entry ([.ref h0, .int a, .int b]) (n := 5) (Nat.le_of_ble_eq_true rfl)
  rw [lg_entry_eq]
  generalize (lg_sl ([.ref h0, .int a, .int b]) ++ List.replicate (5 - (lg_sl ([.ref h0, .int a, .int b])).length) Slot.unset).toArray = ls at hl ⊢
  have hl : lv_has ls 5 [(0, .ref h0), (1, .int a), (2, .int b)] := hl
  refine lv_aload_n hx hb dX11_of_0 rfl (lv_at hl 0 rfl) ?_
  refine va_get (ci := 11) (v := .ref aS) (C := RX11) (T := TX11) (N := 14) hx hb htl inX11 hown hK hP 0 rfl rfl 1 (by decide) (htl _ fl_RX11_21) (fun _ h9 => h9) rfl dX11_of_1 ?_
  refine va_get (ci := 7) (v := .ref aW) (C := RX7) (T := TX7) (N := 5) hx hb htl inX7 hown hK hP 1 rfl rfl 0 (by decide) (htl _ fl_RX11_78) (fun _ h9 => h9) rfl dX11_of_4 ?_
  refine lv_astore_n (lv' := [(3, .ref aW), (0, .ref h0), (1, .int a), (2, .int b)]) hx hb dX11_of_7 rfl hl (by decide) rfl (fun ls hl => ?_)
  refine lv_iload_n hx hb dX11_of_8 rfl (lv_at hl 2 rfl) ?_
  refine lv_aload_n hx hb dX11_of_9 rfl (lv_at hl 0 rfl) ?_
  refine va_get (ci := 10) (v := .ref aC) (C := RX10) (T := TX10) (N := 7) hx hb htl inX10 hown hK hP 2 rfl rfl 1 (by decide) (htl _ fl_RX11_134) (fun _ h9 => h9) rfl dX11_of_10 ?_
  refine va_get (ci := 1) (v := .int 0) (C := RX1) (T := TX1) (N := 3) hx hb htl inX1 hown hK hP 3 rfl rfl 2 (by decide) (htl _ fl_RX11_137) (fun _ h9 => h9) rfl dX11_of_13 ?_
  refine vp_callSi (mkSr (rest := []) ⟨hx, hb, hml, hown, htl⟩ hN hK (c_X11_isWithin l G cs a 0) (cS 2 htl lk_RX11_82 mT_X11_isWithin mN_RX11 mC_X11_isWithin ok_X11_isWithin rfl rfl ⟨(Nat.le_of_ble_eq_true rfl), (Nat.le_of_ble_eq_true rfl)⟩) rfl hl.1 rfl (Nat.le_of_ble_eq_true rfl) dX11_of_16 ⟨(Nat.le_of_ble_eq_true rfl), (Nat.le_of_ble_eq_true rfl)⟩) (fun r hw => ?_)
  obtain rfl : r = 0 := hw.1.trans (iw_0 _)
  refine lv_if_ne (tgt := 24) hx hb dX11_of_19 (by decide) (fun h => absurd (by decide) h) (fun _ => ?_)
  refine lv_iconst (v := (-1)) hx hb dX11_of_22 (by decide) ?_
  exact W.iret (v := (-1)) hx hb hr (fun t ht hW => ⟨⟨(-1), (), rfl, rfl, ⟨fun k q h => by simp at h, va_K.moved hW.alike hK, ⟨fun i j p q h => by simp at h, fun k q h => by simp at h⟩⟩⟩, hS.F ht⟩) hS.2.2 dX11_of_23

def sp_X11_listener (a : Int32) (b : Int32) : Int32 := if (sp_X11_isWithin a 8) = 0 then (-1) else (if (sp_X11_isWithin b 21) = 0 then (-1) else 0)
set_option maxHeartbeats 1000000 in
set_option maxRecDepth 100000 in
theorem c_X11_listener (l : Launch) (G : va_G) (cs : Nat → ClassId) (h0 : Nat) (a : Int32) (b : Int32) (f_h0_0 : Value) (aS : Nat) (f_h0_2 : Value) (f_h0_3 : Value) (f_h0_4 : Value) (f_h0_5 : Value) (f_h0_6 : Value) (f_h0_7 : Value) (f_h0_8 : Value) (f_h0_9 : Value) (f_h0_10 : Value) (f_h0_11 : Value) (h1 : Nat) (lr : Int32) (rfs : Nat → Int32) (aW : Nat) (aD : Nat) (f_aS_2 : Value) (f_aS_3 : Value) (f_aS_4 : Value) (f_aW_0 : Value) (f_aW_1 : Value) (aF : Nat) (f_aW_3 : Value) (f_aW_4 : Value) (f_aW_5 : Value) (f_aW_6 : Value) (aF1 : Nat) (aF2 : Nat) (f_aF_3 : Value) (f_aF_4 : Value) (f_aF_5 : Value) (f_aF_6 : Value) (f_aF_7 : Value) (f_aF_8 : Value) (f_aF_9 : Value) (f_aF_10 : Value) (f_aF_11 : Value) (f_aF_12 : Value) (f_aD_0 : Value) (f_aD_1 : Value) (f_aD_2 : Value) (f_aD_3 : Value) (f_aD_4 : Value) (f_aD_5 : Value) (f_aD_6 : Value) (sz : Nat) : Met l yX11_listener (Cond.code yX11_listener cX11_listener 4 (some .int) :: gW) ({ frames := 1, cells := 0, slots := 0, locals := 22 }) (va_Pc [.ref h0, .int a, .int b] (Pre G cs [(h0, .inr (11, [f_h0_0, .ref aS, f_h0_2, f_h0_3, f_h0_4, f_h0_5, f_h0_6, f_h0_7, f_h0_8, f_h0_9, f_h0_10, f_h0_11, .ref h1, .int lr])), (h1, .inl (cs 0, 7, .inl rfs)), (aS, .inr (7, [.ref aW, .ref aD, f_aS_2, f_aS_3, f_aS_4])), (aW, .inr (10, [f_aW_0, f_aW_1, .ref aF, f_aW_3, f_aW_4, f_aW_5, f_aW_6])), (aF, .inr (4, [.ref aF1, .ref aF2, .int 0, f_aF_3, f_aF_4, f_aF_5, f_aF_6, f_aF_7, f_aF_8, f_aF_9, f_aF_10, f_aF_11, f_aF_12])), (aF1, .inl (cs 0, 5, .inl (fun _ => 0))), (aF2, .inl (cs 0, 5, .inl (fun _ => 0))), (aD, .inr (2, [f_aD_0, f_aD_1, f_aD_2, f_aD_3, f_aD_4, f_aD_5, f_aD_6]))] sz)) (va_Qi (fun r (u : Unit) => r = sp_X11_listener a b) (fun (u : Unit) t => Aft G cs (va_A [(h0, .inr (11, [f_h0_0, .ref aS, f_h0_2, f_h0_3, f_h0_4, f_h0_5, f_h0_6, f_h0_7, f_h0_8, f_h0_9, f_h0_10, f_h0_11, .ref h1, .int lr])), (h1, .inl (cs 0, 7, .inl rfs)), (aS, .inr (7, [.ref aW, .ref aD, f_aS_2, f_aS_3, f_aS_4])), (aW, .inr (10, [f_aW_0, f_aW_1, .ref aF, f_aW_3, f_aW_4, f_aW_5, f_aW_6])), (aF, .inr (4, [.ref aF1, .ref aF2, .int 0, f_aF_3, f_aF_4, f_aF_5, f_aF_6, f_aF_7, f_aF_8, f_aF_9, f_aF_10, f_aF_11, f_aF_12])), (aF1, .inl (cs 0, 5, .inl (fun _ => 0))), (aF2, .inl (cs 0, 5, .inl (fun _ => 0))), (aD, .inr (2, [f_aD_0, f_aD_1, f_aD_2, f_aD_3, f_aD_4, f_aD_5, f_aD_6]))] sz) [] t) (va_A [(h0, .inr (11, [f_h0_0, .ref aS, f_h0_2, f_h0_3, f_h0_4, f_h0_5, f_h0_6, f_h0_7, f_h0_8, f_h0_9, f_h0_10, f_h0_11, .ref h1, .int lr])), (h1, .inl (cs 0, 7, .inl rfs)), (aS, .inr (7, [.ref aW, .ref aD, f_aS_2, f_aS_3, f_aS_4])), (aW, .inr (10, [f_aW_0, f_aW_1, .ref aF, f_aW_3, f_aW_4, f_aW_5, f_aW_6])), (aF, .inr (4, [.ref aF1, .ref aF2, .int 0, f_aF_3, f_aF_4, f_aF_5, f_aF_6, f_aF_7, f_aF_8, f_aF_9, f_aF_10, f_aF_11, f_aF_12])), (aF1, .inl (cs 0, 5, .inl (fun _ => 0))), (aF2, .inl (cs 0, 5, .inl (fun _ => 0))), (aD, .inr (2, [f_aD_0, f_aD_1, f_aD_2, f_aD_3, f_aD_4, f_aD_5, f_aD_6]))] sz)) 0 0 (va_A [(h0, .inr (11, [f_h0_0, .ref aS, f_h0_2, f_h0_3, f_h0_4, f_h0_5, f_h0_6, f_h0_7, f_h0_8, f_h0_9, f_h0_10, f_h0_11, .ref h1, .int lr])), (h1, .inl (cs 0, 7, .inl rfs)), (aS, .inr (7, [.ref aW, .ref aD, f_aS_2, f_aS_3, f_aS_4])), (aW, .inr (10, [f_aW_0, f_aW_1, .ref aF, f_aW_3, f_aW_4, f_aW_5, f_aW_6])), (aF, .inr (4, [.ref aF1, .ref aF2, .int 0, f_aF_3, f_aF_4, f_aF_5, f_aF_6, f_aF_7, f_aF_8, f_aF_9, f_aF_10, f_aF_11, f_aF_12])), (aF1, .inl (cs 0, 5, .inl (fun _ => 0))), (aF2, .inl (cs 0, 5, .inl (fun _ => 0))), (aD, .inr (2, [f_aD_0, f_aD_1, f_aD_2, f_aD_3, f_aD_4, f_aD_5, f_aD_6]))] sz) := by
  refine Met.ofW (cc := cX11_listener) (maxL := 4) (ret := (some .int)) (by decide) rfl ?_
  intro p e s m args below meth c s₁ B hml hv
  obtain ⟨rfl, hsz, hP, hK, hD0, hN⟩ := hv
  have hx := B.exec
  have hb := B.bytes
  have hr := B.returns
  have hts := atoms_spec (ws := Cond.code yX11_listener cX11_listener 4 (some .int) :: gW) B.pre
  have htl : ∀ w ∈ gW, w.before _ s = true := fun w h => hts w (List.mem_cons_of_mem _ h)
  have hown : s.vm.findClass RX11 = some m.cls := findClass_of_methodNamed B.named
  have hlocks := B.notSynchronized
  subst hsz
  have hD := hD0.self (sz := s.heap.size)
  generalize hAe : va_A [(h0, .inr (11, [f_h0_0, .ref aS, f_h0_2, f_h0_3, f_h0_4, f_h0_5, f_h0_6, f_h0_7, f_h0_8, f_h0_9, f_h0_10, f_h0_11, .ref h1, .int lr])), (h1, .inl (cs 0, 7, .inl rfs)), (aS, .inr (7, [.ref aW, .ref aD, f_aS_2, f_aS_3, f_aS_4])), (aW, .inr (10, [f_aW_0, f_aW_1, .ref aF, f_aW_3, f_aW_4, f_aW_5, f_aW_6])), (aF, .inr (4, [.ref aF1, .ref aF2, .int 0, f_aF_3, f_aF_4, f_aF_5, f_aF_6, f_aF_7, f_aF_8, f_aF_9, f_aF_10, f_aF_11, f_aF_12])), (aF1, .inl (cs 0, 5, .inl (fun _ => 0))), (aF2, .inl (cs 0, 5, .inl (fun _ => 0))), (aD, .inr (2, [f_aD_0, f_aD_1, f_aD_2, f_aD_3, f_aD_4, f_aD_5, f_aD_6]))] s.heap.size = A at hD ⊢
  have hA : ∀ q : Nat, s.heap.size ≤ q → A q := fun q h => by rw [← hAe]; exact Or.inr h
  have hS : va_S A s.heap s.heap [] := va_S.rf
  have hl := lv_entry ([.ref h0, .int a, .int b]) (n := 4) (Nat.le_of_ble_eq_true rfl)
  rw [lg_entry_eq]
  generalize (lg_sl ([.ref h0, .int a, .int b]) ++ List.replicate (4 - (lg_sl ([.ref h0, .int a, .int b])).length) Slot.unset).toArray = ls at hl ⊢
  have hl : lv_has ls 4 [(0, .ref h0), (1, .int a), (2, .int b)] := hl
  refine lv_iload_n hx hb dX11_listener_0 rfl (lv_at hl 1 rfl) ?_
  refine lv_bipush (v := 8) hx hb dX11_listener_1 (by decide) ?_
  refine vp_callSi (mkSr (rest := []) ⟨hx, hb, hml, hown, htl⟩ hN hK (c_X11_isWithin l G cs a 8) (cS 2 htl lk_RX11_82 mT_X11_isWithin mN_RX11 mC_X11_isWithin ok_X11_isWithin rfl rfl ⟨(Nat.le_of_ble_eq_true rfl), (Nat.le_of_ble_eq_true rfl)⟩) rfl hl.1 rfl (Nat.le_of_ble_eq_true rfl) dX11_listener_3 ⟨(Nat.le_of_ble_eq_true rfl), (Nat.le_of_ble_eq_true rfl)⟩) (fun r hw => ?_)
  obtain ⟨rfl, hz_1⟩ := hw
  refine lv_if_eq (tgt := 18) hx hb dX11_listener_6 (by decide) (fun c_6 => ?_) (fun c_6 => ?_)
  · refine lv_aload_n hx hb dX11_listener_18 rfl (lv_at hl 0 rfl) ?_
    refine lv_iconst (v := (-1)) hx hb dX11_listener_19 (by decide) ?_
    refine mi (wr := [(aS, .inr (7, [.ref aW, .ref aD, f_aS_2, f_aS_3, f_aS_4])), (aW, .inr (10, [f_aW_0, f_aW_1, .ref aF, f_aW_3, f_aW_4, f_aW_5, f_aW_6])), (aF, .inr (4, [.ref aF1, .ref aF2, .int 0, f_aF_3, f_aF_4, f_aF_5, f_aF_6, f_aF_7, f_aF_8, f_aF_9, f_aF_10, f_aF_11, f_aF_12])), (aF1, .inl (cs 0, 5, .inl (fun _ => 0))), (aF2, .inl (cs 0, 5, .inl (fun _ => 0))), (aD, .inr (2, [f_aD_0, f_aD_1, f_aD_2, f_aD_3, f_aD_4, f_aD_5, f_aD_6]))]) (mkV (rest := []) ⟨hx, hb, hml, hown, htl⟩ hN hK hP hD (c_X11_settle l G cs h0 (-1) f_h0_0 (.ref aS) f_h0_2 f_h0_3 f_h0_4 f_h0_5 f_h0_6 f_h0_7 f_h0_8 f_h0_9 f_h0_10 f_h0_11 h1 lr (rfs) _ (by decide)) [0, 1] rfl rfl 0 11 rfl rfl (cV 1 htl lk_RX11_91 mI_X11_settle mS_X11_settle mN_RX11 mC_X11_settle ok_X11_settle rfl rfl ⟨(Nat.le_of_ble_eq_true rfl), (Nat.le_of_ble_eq_true rfl)⟩) rfl hl.1 rfl (Nat.le_of_ble_eq_true rfl) dX11_listener_20 ⟨(Nat.le_of_ble_eq_true rfl), (Nat.le_of_ble_eq_true rfl)⟩) hP hD hS hA [0, 1] [2, 3, 4, 5, 6, 7] rfl rfl rfl (by decide) (fun r u_20 H locs hw hP hD hS => ?_)
    have hP : va_P G vwCl [(aS, .inr (7, [.ref aW, .ref aD, f_aS_2, f_aS_3, f_aS_4])), (aW, .inr (10, [f_aW_0, f_aW_1, .ref aF, f_aW_3, f_aW_4, f_aW_5, f_aW_6])), (aF, .inr (4, [.ref aF1, .ref aF2, .int 0, f_aF_3, f_aF_4, f_aF_5, f_aF_6, f_aF_7, f_aF_8, f_aF_9, f_aF_10, f_aF_11, f_aF_12])), (aF1, .inl (cs 0, 5, .inl (fun _ => 0))), (aF2, .inl (cs 0, 5, .inl (fun _ => 0))), (aD, .inr (2, [f_aD_0, f_aD_1, f_aD_2, f_aD_3, f_aD_4, f_aD_5, f_aD_6]))] H := hP
    have hD : va_D A [(aS, .inr (7, [.ref aW, .ref aD, f_aS_2, f_aS_3, f_aS_4])), (aW, .inr (10, [f_aW_0, f_aW_1, .ref aF, f_aW_3, f_aW_4, f_aW_5, f_aW_6])), (aF, .inr (4, [.ref aF1, .ref aF2, .int 0, f_aF_3, f_aF_4, f_aF_5, f_aF_6, f_aF_7, f_aF_8, f_aF_9, f_aF_10, f_aF_11, f_aF_12])), (aF1, .inl (cs 0, 5, .inl (fun _ => 0))), (aF2, .inl (cs 0, 5, .inl (fun _ => 0))), (aD, .inr (2, [f_aD_0, f_aD_1, f_aD_2, f_aD_3, f_aD_4, f_aD_5, f_aD_6]))] := hD
    obtain rfl : r = (-1) := hw.trans (by unfold sp_X11_settle; (try rw [if_neg (by decide), if_neg (by decide)]) <;> first | rfl | decide)
    exact W.iret (v := (-1)) hx hb hr (fun t ht hW => ⟨⟨(-1), (), rfl, (by unfold sp_X11_listener; rw [if_pos c_6]), ⟨fun k q h => by simp at h, va_K.moved hW.alike hK, ⟨fun i j p q h => by simp at h, fun k q h => by simp at h⟩⟩⟩, hS.F ht⟩) hS.2.2 dX11_listener_23
  · refine lv_iload_n hx hb dX11_listener_9 rfl (lv_at hl 2 rfl) ?_
    refine lv_bipush (v := 21) hx hb dX11_listener_10 (by decide) ?_
    refine vp_callSi (mkSr (rest := []) ⟨hx, hb, hml, hown, htl⟩ hN hK (c_X11_isWithin l G cs b 21) (cS 2 htl lk_RX11_82 mT_X11_isWithin mN_RX11 mC_X11_isWithin ok_X11_isWithin rfl rfl ⟨(Nat.le_of_ble_eq_true rfl), (Nat.le_of_ble_eq_true rfl)⟩) rfl hl.1 rfl (Nat.le_of_ble_eq_true rfl) dX11_listener_12 ⟨(Nat.le_of_ble_eq_true rfl), (Nat.le_of_ble_eq_true rfl)⟩) (fun r hw => ?_)
    obtain ⟨rfl, hz_2⟩ := hw
    refine lv_if_ne (tgt := 24) hx hb dX11_listener_15 (by decide) (fun c_15 => ?_) (fun c_15 => ?_)
    · refine lv_aload_n hx hb dX11_listener_24 rfl (lv_at hl 0 rfl) ?_
      refine va_get (ci := 11) (v := .ref aS) (C := RX11) (T := TX11) (N := 14) hx hb htl inX11 hown hK hP 0 rfl rfl 1 (by decide) (htl _ fl_RX11_21) (fun _ h9 => h9) rfl dX11_listener_25 ?_
      refine va_get (ci := 7) (v := .ref aW) (C := RX7) (T := TX7) (N := 5) hx hb htl inX7 hown hK hP 2 rfl rfl 0 (by decide) (htl _ fl_RX11_78) (fun _ h9 => h9) rfl dX11_listener_28 ?_
      refine va_get (ci := 10) (v := .ref aF) (C := RX10) (T := TX10) (N := 7) hx hb htl inX10 hown hK hP 3 rfl rfl 2 (by decide) (htl _ fl_RX11_156) (fun _ h9 => h9) rfl dX11_listener_31 ?_
      refine lv_astore_n (lv' := [(3, .ref aF), (0, .ref h0), (1, .int a), (2, .int b)]) hx hb dX11_listener_34 rfl hl (by decide) rfl (fun ls hl => ?_)
      refine lv_aload_n hx hb dX11_listener_35 rfl (lv_at hl 0 rfl) ?_
      refine va_get (ci := 4) (v := .int 0) (C := RX4) (T := TX4) (N := 13) hx hb htl inX4 hown hK hP 4 rfl rfl 2 (by decide) (htl _ fl_RX11_160) (fun _ h9 => h9) rfl dX11_listener_36 ?_
      refine lv_iconst (v := 5) hx hb dX11_listener_39 (by decide) ?_
      refine lv_icmp_lt (tgt := 50) hx hb dX11_listener_40 (by decide) (fun _ => ?_) (fun h => absurd (by decide) h)
      refine lv_aload_n hx hb dX11_listener_50 rfl (lv_at hl 0 rfl) ?_
      refine lv_iload_n hx hb dX11_listener_51 rfl (lv_at hl 2 rfl) ?_
      refine lv_iload_n hx hb dX11_listener_52 rfl (lv_at hl 3 rfl) ?_
      refine mv (wr := [(h0, .inr (11, [f_h0_0, .ref aS, f_h0_2, f_h0_3, f_h0_4, f_h0_5, f_h0_6, f_h0_7, f_h0_8, f_h0_9, f_h0_10, f_h0_11, .ref h1, .int lr])), (h1, .inl (cs 0, 7, .inl rfs)), (aS, .inr (7, [.ref aW, .ref aD, f_aS_2, f_aS_3, f_aS_4])), (aW, .inr (10, [f_aW_0, f_aW_1, .ref aF, f_aW_3, f_aW_4, f_aW_5, f_aW_6])), (aD, .inr (2, [f_aD_0, f_aD_1, f_aD_2, f_aD_3, f_aD_4, f_aD_5, f_aD_6]))]) (mkV (rest := []) ⟨hx, hb, hml, hown, htl⟩ hN hK hP hD (c_X4_addListener l G cs aF a b aF1 aF2 f_aF_3 f_aF_4 f_aF_5 f_aF_6 f_aF_7 f_aF_8 f_aF_9 f_aF_10 f_aF_11 f_aF_12 _) [4, 5, 6] rfl rfl 0 4 rfl rfl (cV 2 htl lk_RX11_165 mI_X4_addListener mS_X4_addListener mN_RX4 mC_X4_addListener ok_X4_addListener rfl rfl ⟨(Nat.le_of_ble_eq_true rfl), (Nat.le_of_ble_eq_true rfl)⟩) rfl hl.1 rfl (Nat.le_of_ble_eq_true rfl) dX11_listener_53 ⟨(Nat.le_of_ble_eq_true rfl), (Nat.le_of_ble_eq_true rfl)⟩) hP hD hS hA [4, 5, 6] [0, 1, 2, 3, 7] rfl rfl rfl (by decide) (fun u_53 H locs hw hP hD hS => ?_)
      have hP : va_P G vwCl [(h0, .inr (11, [f_h0_0, .ref aS, f_h0_2, f_h0_3, f_h0_4, f_h0_5, f_h0_6, f_h0_7, f_h0_8, f_h0_9, f_h0_10, f_h0_11, .ref h1, .int lr])), (h1, .inl (cs 0, 7, .inl rfs)), (aS, .inr (7, [.ref aW, .ref aD, f_aS_2, f_aS_3, f_aS_4])), (aW, .inr (10, [f_aW_0, f_aW_1, .ref aF, f_aW_3, f_aW_4, f_aW_5, f_aW_6])), (aD, .inr (2, [f_aD_0, f_aD_1, f_aD_2, f_aD_3, f_aD_4, f_aD_5, f_aD_6])), (aF, .inr (4, [.ref aF1, .ref aF2, .int 1, f_aF_3, f_aF_4, f_aF_5, f_aF_6, f_aF_7, f_aF_8, f_aF_9, f_aF_10, f_aF_11, f_aF_12])), (aF1, .inl (cs 0, 5, .inl (upd (fun _ => 0) 0 a))), (aF2, .inl (cs 0, 5, .inl (upd (fun _ => 0) 0 b)))] H := hP
      have hD : va_D A [(h0, .inr (11, [f_h0_0, .ref aS, f_h0_2, f_h0_3, f_h0_4, f_h0_5, f_h0_6, f_h0_7, f_h0_8, f_h0_9, f_h0_10, f_h0_11, .ref h1, .int lr])), (h1, .inl (cs 0, 7, .inl rfs)), (aS, .inr (7, [.ref aW, .ref aD, f_aS_2, f_aS_3, f_aS_4])), (aW, .inr (10, [f_aW_0, f_aW_1, .ref aF, f_aW_3, f_aW_4, f_aW_5, f_aW_6])), (aD, .inr (2, [f_aD_0, f_aD_1, f_aD_2, f_aD_3, f_aD_4, f_aD_5, f_aD_6])), (aF, .inr (4, [.ref aF1, .ref aF2, .int 1, f_aF_3, f_aF_4, f_aF_5, f_aF_6, f_aF_7, f_aF_8, f_aF_9, f_aF_10, f_aF_11, f_aF_12])), (aF1, .inl (cs 0, 5, .inl (upd (fun _ => 0) 0 a))), (aF2, .inl (cs 0, 5, .inl (upd (fun _ => 0) 0 b)))] := hD
      refine lv_aload_n hx hb dX11_listener_56 rfl (lv_at hl 1 rfl) ?_
      refine va_get (ci := 11) (v := .ref aS) (C := RX11) (T := TX11) (N := 14) hx hb htl inX11 hown hK hP 0 rfl rfl 1 (by decide) (htl _ fl_RX11_21) (fun _ h9 => h9) rfl dX11_listener_57 ?_
      refine va_get (ci := 7) (v := .ref aD) (C := RX7) (T := TX7) (N := 5) hx hb htl inX7 hown hK hP 2 rfl rfl 1 (by decide) (htl _ fl_RX11_107) (fun _ h9 => h9) rfl dX11_listener_60 ?_
      refine mv (wr := [(h0, .inr (11, [f_h0_0, .ref aS, f_h0_2, f_h0_3, f_h0_4, f_h0_5, f_h0_6, f_h0_7, f_h0_8, f_h0_9, f_h0_10, f_h0_11, .ref h1, .int lr])), (h1, .inl (cs 0, 7, .inl rfs)), (aS, .inr (7, [.ref aW, .ref aD, f_aS_2, f_aS_3, f_aS_4])), (aW, .inr (10, [f_aW_0, f_aW_1, .ref aF, f_aW_3, f_aW_4, f_aW_5, f_aW_6])), (aF, .inr (4, [.ref aF1, .ref aF2, .int 1, f_aF_3, f_aF_4, f_aF_5, f_aF_6, f_aF_7, f_aF_8, f_aF_9, f_aF_10, f_aF_11, f_aF_12])), (aF1, .inl (cs 0, 5, .inl (upd (fun _ => 0) 0 a))), (aF2, .inl (cs 0, 5, .inl (upd (fun _ => 0) 0 b)))]) (mkV (rest := []) ⟨hx, hb, hml, hown, htl⟩ hN hK hP hD (c_X2_clear l G cs aD f_aD_0 f_aD_1 f_aD_2 f_aD_3 f_aD_4 f_aD_5 f_aD_6 _) [4] rfl rfl 0 2 rfl rfl (cV 0 htl lk_RX11_111 mI_X2_clear mS_X2_clear mN_RX2 mC_X2_clear ok_X2_clear rfl rfl ⟨(Nat.le_of_ble_eq_true rfl), (Nat.le_of_ble_eq_true rfl)⟩) rfl hl.1 rfl (Nat.le_of_ble_eq_true rfl) dX11_listener_63 ⟨(Nat.le_of_ble_eq_true rfl), (Nat.le_of_ble_eq_true rfl)⟩) hP hD hS hA [4] [0, 1, 2, 3, 5, 6, 7] rfl rfl rfl (by decide) (fun u_63 H locs hw hP hD hS => ?_)
      have hP : va_P G vwCl [(h0, .inr (11, [f_h0_0, .ref aS, f_h0_2, f_h0_3, f_h0_4, f_h0_5, f_h0_6, f_h0_7, f_h0_8, f_h0_9, f_h0_10, f_h0_11, .ref h1, .int lr])), (h1, .inl (cs 0, 7, .inl rfs)), (aS, .inr (7, [.ref aW, .ref aD, f_aS_2, f_aS_3, f_aS_4])), (aW, .inr (10, [f_aW_0, f_aW_1, .ref aF, f_aW_3, f_aW_4, f_aW_5, f_aW_6])), (aF, .inr (4, [.ref aF1, .ref aF2, .int 1, f_aF_3, f_aF_4, f_aF_5, f_aF_6, f_aF_7, f_aF_8, f_aF_9, f_aF_10, f_aF_11, f_aF_12])), (aF1, .inl (cs 0, 5, .inl (upd (fun _ => 0) 0 a))), (aF2, .inl (cs 0, 5, .inl (upd (fun _ => 0) 0 b))), (aD, .inr (2, [f_aD_0, f_aD_1, f_aD_2, f_aD_3, f_aD_4, .int 0, f_aD_6]))] H := hP
      have hD : va_D A [(h0, .inr (11, [f_h0_0, .ref aS, f_h0_2, f_h0_3, f_h0_4, f_h0_5, f_h0_6, f_h0_7, f_h0_8, f_h0_9, f_h0_10, f_h0_11, .ref h1, .int lr])), (h1, .inl (cs 0, 7, .inl rfs)), (aS, .inr (7, [.ref aW, .ref aD, f_aS_2, f_aS_3, f_aS_4])), (aW, .inr (10, [f_aW_0, f_aW_1, .ref aF, f_aW_3, f_aW_4, f_aW_5, f_aW_6])), (aF, .inr (4, [.ref aF1, .ref aF2, .int 1, f_aF_3, f_aF_4, f_aF_5, f_aF_6, f_aF_7, f_aF_8, f_aF_9, f_aF_10, f_aF_11, f_aF_12])), (aF1, .inl (cs 0, 5, .inl (upd (fun _ => 0) 0 a))), (aF2, .inl (cs 0, 5, .inl (upd (fun _ => 0) 0 b))), (aD, .inr (2, [f_aD_0, f_aD_1, f_aD_2, f_aD_3, f_aD_4, .int 0, f_aD_6]))] := hD
      refine lv_aload_n hx hb dX11_listener_66 rfl (lv_at hl 1 rfl) ?_
      refine lv_aload_n hx hb dX11_listener_67 rfl (lv_at hl 0 rfl) ?_
      refine va_get (ci := 4) (v := .int 1) (C := RX4) (T := TX4) (N := 13) hx hb htl inX4 hown hK hP 4 rfl rfl 2 (by decide) (htl _ fl_RX11_160) (fun _ h9 => h9) rfl dX11_listener_68 ?_
      refine lv_iconst (v := 1) hx hb dX11_listener_71 (by decide) ?_
      refine lv_isub hx hb dX11_listener_72 ?_
      refine lv_topi (fun xv ex => ?_)
      obtain rfl : xv = 0 := ex.trans (by first | rfl | decide)
      refine mi (wr := [(aS, .inr (7, [.ref aW, .ref aD, f_aS_2, f_aS_3, f_aS_4])), (aW, .inr (10, [f_aW_0, f_aW_1, .ref aF, f_aW_3, f_aW_4, f_aW_5, f_aW_6])), (aF, .inr (4, [.ref aF1, .ref aF2, .int 1, f_aF_3, f_aF_4, f_aF_5, f_aF_6, f_aF_7, f_aF_8, f_aF_9, f_aF_10, f_aF_11, f_aF_12])), (aF1, .inl (cs 0, 5, .inl (upd (fun _ => 0) 0 a))), (aF2, .inl (cs 0, 5, .inl (upd (fun _ => 0) 0 b))), (aD, .inr (2, [f_aD_0, f_aD_1, f_aD_2, f_aD_3, f_aD_4, .int 0, f_aD_6]))]) (mkV (rest := []) ⟨hx, hb, hml, hown, htl⟩ hN hK hP hD (c_X11_settle l G cs h0 0 f_h0_0 (.ref aS) f_h0_2 f_h0_3 f_h0_4 f_h0_5 f_h0_6 f_h0_7 f_h0_8 f_h0_9 f_h0_10 f_h0_11 h1 lr (rfs) _ (by decide)) [0, 1] rfl rfl 0 11 rfl rfl (cV 1 htl lk_RX11_91 mI_X11_settle mS_X11_settle mN_RX11 mC_X11_settle ok_X11_settle rfl rfl ⟨(Nat.le_of_ble_eq_true rfl), (Nat.le_of_ble_eq_true rfl)⟩) rfl hl.1 rfl (Nat.le_of_ble_eq_true rfl) dX11_listener_73 ⟨(Nat.le_of_ble_eq_true rfl), (Nat.le_of_ble_eq_true rfl)⟩) hP hD hS hA [0, 1] [2, 3, 4, 5, 6, 7] rfl rfl rfl (by decide) (fun r u_73 H locs hw hP hD hS => ?_)
      have hP : va_P G vwCl [(aS, .inr (7, [.ref aW, .ref aD, f_aS_2, f_aS_3, f_aS_4])), (aW, .inr (10, [f_aW_0, f_aW_1, .ref aF, f_aW_3, f_aW_4, f_aW_5, f_aW_6])), (aF, .inr (4, [.ref aF1, .ref aF2, .int 1, f_aF_3, f_aF_4, f_aF_5, f_aF_6, f_aF_7, f_aF_8, f_aF_9, f_aF_10, f_aF_11, f_aF_12])), (aF1, .inl (cs 0, 5, .inl (upd (fun _ => 0) 0 a))), (aF2, .inl (cs 0, 5, .inl (upd (fun _ => 0) 0 b))), (aD, .inr (2, [f_aD_0, f_aD_1, f_aD_2, f_aD_3, f_aD_4, .int 0, f_aD_6]))] H := hP
      have hD : va_D A [(aS, .inr (7, [.ref aW, .ref aD, f_aS_2, f_aS_3, f_aS_4])), (aW, .inr (10, [f_aW_0, f_aW_1, .ref aF, f_aW_3, f_aW_4, f_aW_5, f_aW_6])), (aF, .inr (4, [.ref aF1, .ref aF2, .int 1, f_aF_3, f_aF_4, f_aF_5, f_aF_6, f_aF_7, f_aF_8, f_aF_9, f_aF_10, f_aF_11, f_aF_12])), (aF1, .inl (cs 0, 5, .inl (upd (fun _ => 0) 0 a))), (aF2, .inl (cs 0, 5, .inl (upd (fun _ => 0) 0 b))), (aD, .inr (2, [f_aD_0, f_aD_1, f_aD_2, f_aD_3, f_aD_4, .int 0, f_aD_6]))] := hD
      obtain rfl : r = 0 := hw.trans (by unfold sp_X11_settle; (try rw [if_pos (by decide)]) <;> first | rfl | decide)
      exact W.iret (v := 0) hx hb hr (fun t ht hW => ⟨⟨0, (), rfl, (by unfold sp_X11_listener; rw [if_neg c_6, if_neg c_15]), ⟨fun k q h => by simp at h, va_K.moved hW.alike hK, ⟨fun i j p q h => by simp at h, fun k q h => by simp at h⟩⟩⟩, hS.F ht⟩) hS.2.2 dX11_listener_76
    · refine lv_aload_n hx hb dX11_listener_18 rfl (lv_at hl 0 rfl) ?_
      refine lv_iconst (v := (-1)) hx hb dX11_listener_19 (by decide) ?_
      refine mi (wr := [(aS, .inr (7, [.ref aW, .ref aD, f_aS_2, f_aS_3, f_aS_4])), (aW, .inr (10, [f_aW_0, f_aW_1, .ref aF, f_aW_3, f_aW_4, f_aW_5, f_aW_6])), (aF, .inr (4, [.ref aF1, .ref aF2, .int 0, f_aF_3, f_aF_4, f_aF_5, f_aF_6, f_aF_7, f_aF_8, f_aF_9, f_aF_10, f_aF_11, f_aF_12])), (aF1, .inl (cs 0, 5, .inl (fun _ => 0))), (aF2, .inl (cs 0, 5, .inl (fun _ => 0))), (aD, .inr (2, [f_aD_0, f_aD_1, f_aD_2, f_aD_3, f_aD_4, f_aD_5, f_aD_6]))]) (mkV (rest := []) ⟨hx, hb, hml, hown, htl⟩ hN hK hP hD (c_X11_settle l G cs h0 (-1) f_h0_0 (.ref aS) f_h0_2 f_h0_3 f_h0_4 f_h0_5 f_h0_6 f_h0_7 f_h0_8 f_h0_9 f_h0_10 f_h0_11 h1 lr (rfs) _ (by decide)) [0, 1] rfl rfl 0 11 rfl rfl (cV 1 htl lk_RX11_91 mI_X11_settle mS_X11_settle mN_RX11 mC_X11_settle ok_X11_settle rfl rfl ⟨(Nat.le_of_ble_eq_true rfl), (Nat.le_of_ble_eq_true rfl)⟩) rfl hl.1 rfl (Nat.le_of_ble_eq_true rfl) dX11_listener_20 ⟨(Nat.le_of_ble_eq_true rfl), (Nat.le_of_ble_eq_true rfl)⟩) hP hD hS hA [0, 1] [2, 3, 4, 5, 6, 7] rfl rfl rfl (by decide) (fun r u_20 H locs hw hP hD hS => ?_)
      have hP : va_P G vwCl [(aS, .inr (7, [.ref aW, .ref aD, f_aS_2, f_aS_3, f_aS_4])), (aW, .inr (10, [f_aW_0, f_aW_1, .ref aF, f_aW_3, f_aW_4, f_aW_5, f_aW_6])), (aF, .inr (4, [.ref aF1, .ref aF2, .int 0, f_aF_3, f_aF_4, f_aF_5, f_aF_6, f_aF_7, f_aF_8, f_aF_9, f_aF_10, f_aF_11, f_aF_12])), (aF1, .inl (cs 0, 5, .inl (fun _ => 0))), (aF2, .inl (cs 0, 5, .inl (fun _ => 0))), (aD, .inr (2, [f_aD_0, f_aD_1, f_aD_2, f_aD_3, f_aD_4, f_aD_5, f_aD_6]))] H := hP
      have hD : va_D A [(aS, .inr (7, [.ref aW, .ref aD, f_aS_2, f_aS_3, f_aS_4])), (aW, .inr (10, [f_aW_0, f_aW_1, .ref aF, f_aW_3, f_aW_4, f_aW_5, f_aW_6])), (aF, .inr (4, [.ref aF1, .ref aF2, .int 0, f_aF_3, f_aF_4, f_aF_5, f_aF_6, f_aF_7, f_aF_8, f_aF_9, f_aF_10, f_aF_11, f_aF_12])), (aF1, .inl (cs 0, 5, .inl (fun _ => 0))), (aF2, .inl (cs 0, 5, .inl (fun _ => 0))), (aD, .inr (2, [f_aD_0, f_aD_1, f_aD_2, f_aD_3, f_aD_4, f_aD_5, f_aD_6]))] := hD
      obtain rfl : r = (-1) := hw.trans (by unfold sp_X11_settle; (try rw [if_neg (by decide), if_neg (by decide)]) <;> first | rfl | decide)
      exact W.iret (v := (-1)) hx hb hr (fun t ht hW => ⟨⟨(-1), (), rfl, (by unfold sp_X11_listener; rw [if_neg c_6, if_pos c_15]), ⟨fun k q h => by simp at h, va_K.moved hW.alike hK, ⟨fun i j p q h => by simp at h, fun k q h => by simp at h⟩⟩⟩, hS.F ht⟩) hS.2.2 dX11_listener_23

def sp_X11_noise (a : Int32) (b : Int32) : Int32 := if (sp_X11_isWithin a 8) = 0 then (-1) else (if (sp_X11_isWithin b 21) = 0 then (-1) else 0)
set_option maxHeartbeats 1000000 in
set_option maxRecDepth 100000 in
theorem c_X11_noise (l : Launch) (G : va_G) (cs : Nat → ClassId) (h0 : Nat) (a : Int32) (b : Int32) (f_h0_0 : Value) (aS : Nat) (f_h0_2 : Value) (f_h0_3 : Value) (f_h0_4 : Value) (f_h0_5 : Value) (f_h0_6 : Value) (f_h0_7 : Value) (f_h0_8 : Value) (f_h0_9 : Value) (f_h0_10 : Value) (f_h0_11 : Value) (h1 : Nat) (lr : Int32) (rfs : Nat → Int32) (aW : Nat) (aD : Nat) (f_aS_2 : Value) (f_aS_3 : Value) (f_aS_4 : Value) (f_aW_0 : Value) (f_aW_1 : Value) (aF : Nat) (f_aW_3 : Value) (f_aW_4 : Value) (f_aW_5 : Value) (f_aW_6 : Value) (f_aF_0 : Value) (f_aF_1 : Value) (f_aF_2 : Value) (aF1 : Nat) (aF2 : Nat) (f_aF_6 : Value) (f_aF_7 : Value) (f_aF_8 : Value) (f_aF_9 : Value) (f_aF_10 : Value) (f_aF_11 : Value) (f_aF_12 : Value) (f_aD_0 : Value) (f_aD_1 : Value) (f_aD_2 : Value) (f_aD_3 : Value) (f_aD_4 : Value) (f_aD_5 : Value) (f_aD_6 : Value) (sz : Nat) : Met l yX11_noise (Cond.code yX11_noise cX11_noise 4 (some .int) :: gW) ({ frames := 1, cells := 0, slots := 0, locals := 22 }) (va_Pc [.ref h0, .int a, .int b] (Pre G cs [(h0, .inr (11, [f_h0_0, .ref aS, f_h0_2, f_h0_3, f_h0_4, f_h0_5, f_h0_6, f_h0_7, f_h0_8, f_h0_9, f_h0_10, f_h0_11, .ref h1, .int lr])), (h1, .inl (cs 0, 7, .inl rfs)), (aS, .inr (7, [.ref aW, .ref aD, f_aS_2, f_aS_3, f_aS_4])), (aW, .inr (10, [f_aW_0, f_aW_1, .ref aF, f_aW_3, f_aW_4, f_aW_5, f_aW_6])), (aF, .inr (4, [f_aF_0, f_aF_1, f_aF_2, .ref aF1, .ref aF2, .int 0, f_aF_6, f_aF_7, f_aF_8, f_aF_9, f_aF_10, f_aF_11, f_aF_12])), (aF1, .inl (cs 0, 6, .inl (fun _ => 0))), (aF2, .inl (cs 0, 6, .inl (fun _ => 0))), (aD, .inr (2, [f_aD_0, f_aD_1, f_aD_2, f_aD_3, f_aD_4, f_aD_5, f_aD_6]))] sz)) (va_Qi (fun r (u : Unit) => r = sp_X11_noise a b) (fun (u : Unit) t => Aft G cs (va_A [(h0, .inr (11, [f_h0_0, .ref aS, f_h0_2, f_h0_3, f_h0_4, f_h0_5, f_h0_6, f_h0_7, f_h0_8, f_h0_9, f_h0_10, f_h0_11, .ref h1, .int lr])), (h1, .inl (cs 0, 7, .inl rfs)), (aS, .inr (7, [.ref aW, .ref aD, f_aS_2, f_aS_3, f_aS_4])), (aW, .inr (10, [f_aW_0, f_aW_1, .ref aF, f_aW_3, f_aW_4, f_aW_5, f_aW_6])), (aF, .inr (4, [f_aF_0, f_aF_1, f_aF_2, .ref aF1, .ref aF2, .int 0, f_aF_6, f_aF_7, f_aF_8, f_aF_9, f_aF_10, f_aF_11, f_aF_12])), (aF1, .inl (cs 0, 6, .inl (fun _ => 0))), (aF2, .inl (cs 0, 6, .inl (fun _ => 0))), (aD, .inr (2, [f_aD_0, f_aD_1, f_aD_2, f_aD_3, f_aD_4, f_aD_5, f_aD_6]))] sz) [] t) (va_A [(h0, .inr (11, [f_h0_0, .ref aS, f_h0_2, f_h0_3, f_h0_4, f_h0_5, f_h0_6, f_h0_7, f_h0_8, f_h0_9, f_h0_10, f_h0_11, .ref h1, .int lr])), (h1, .inl (cs 0, 7, .inl rfs)), (aS, .inr (7, [.ref aW, .ref aD, f_aS_2, f_aS_3, f_aS_4])), (aW, .inr (10, [f_aW_0, f_aW_1, .ref aF, f_aW_3, f_aW_4, f_aW_5, f_aW_6])), (aF, .inr (4, [f_aF_0, f_aF_1, f_aF_2, .ref aF1, .ref aF2, .int 0, f_aF_6, f_aF_7, f_aF_8, f_aF_9, f_aF_10, f_aF_11, f_aF_12])), (aF1, .inl (cs 0, 6, .inl (fun _ => 0))), (aF2, .inl (cs 0, 6, .inl (fun _ => 0))), (aD, .inr (2, [f_aD_0, f_aD_1, f_aD_2, f_aD_3, f_aD_4, f_aD_5, f_aD_6]))] sz)) 0 0 (va_A [(h0, .inr (11, [f_h0_0, .ref aS, f_h0_2, f_h0_3, f_h0_4, f_h0_5, f_h0_6, f_h0_7, f_h0_8, f_h0_9, f_h0_10, f_h0_11, .ref h1, .int lr])), (h1, .inl (cs 0, 7, .inl rfs)), (aS, .inr (7, [.ref aW, .ref aD, f_aS_2, f_aS_3, f_aS_4])), (aW, .inr (10, [f_aW_0, f_aW_1, .ref aF, f_aW_3, f_aW_4, f_aW_5, f_aW_6])), (aF, .inr (4, [f_aF_0, f_aF_1, f_aF_2, .ref aF1, .ref aF2, .int 0, f_aF_6, f_aF_7, f_aF_8, f_aF_9, f_aF_10, f_aF_11, f_aF_12])), (aF1, .inl (cs 0, 6, .inl (fun _ => 0))), (aF2, .inl (cs 0, 6, .inl (fun _ => 0))), (aD, .inr (2, [f_aD_0, f_aD_1, f_aD_2, f_aD_3, f_aD_4, f_aD_5, f_aD_6]))] sz) := by
  refine Met.ofW (cc := cX11_noise) (maxL := 4) (ret := (some .int)) (by decide) rfl ?_
  intro p e s m args below meth c s₁ B hml hv
  obtain ⟨rfl, hsz, hP, hK, hD0, hN⟩ := hv
  have hx := B.exec
  have hb := B.bytes
  have hr := B.returns
  have hts := atoms_spec (ws := Cond.code yX11_noise cX11_noise 4 (some .int) :: gW) B.pre
  have htl : ∀ w ∈ gW, w.before _ s = true := fun w h => hts w (List.mem_cons_of_mem _ h)
  have hown : s.vm.findClass RX11 = some m.cls := findClass_of_methodNamed B.named
  have hlocks := B.notSynchronized
  subst hsz
  have hD := hD0.self (sz := s.heap.size)
  generalize hAe : va_A [(h0, .inr (11, [f_h0_0, .ref aS, f_h0_2, f_h0_3, f_h0_4, f_h0_5, f_h0_6, f_h0_7, f_h0_8, f_h0_9, f_h0_10, f_h0_11, .ref h1, .int lr])), (h1, .inl (cs 0, 7, .inl rfs)), (aS, .inr (7, [.ref aW, .ref aD, f_aS_2, f_aS_3, f_aS_4])), (aW, .inr (10, [f_aW_0, f_aW_1, .ref aF, f_aW_3, f_aW_4, f_aW_5, f_aW_6])), (aF, .inr (4, [f_aF_0, f_aF_1, f_aF_2, .ref aF1, .ref aF2, .int 0, f_aF_6, f_aF_7, f_aF_8, f_aF_9, f_aF_10, f_aF_11, f_aF_12])), (aF1, .inl (cs 0, 6, .inl (fun _ => 0))), (aF2, .inl (cs 0, 6, .inl (fun _ => 0))), (aD, .inr (2, [f_aD_0, f_aD_1, f_aD_2, f_aD_3, f_aD_4, f_aD_5, f_aD_6]))] s.heap.size = A at hD ⊢
  have hA : ∀ q : Nat, s.heap.size ≤ q → A q := fun q h => by rw [← hAe]; exact Or.inr h
  have hS : va_S A s.heap s.heap [] := va_S.rf
  have hl := lv_entry ([.ref h0, .int a, .int b]) (n := 4) (Nat.le_of_ble_eq_true rfl)
  rw [lg_entry_eq]
  generalize (lg_sl ([.ref h0, .int a, .int b]) ++ List.replicate (4 - (lg_sl ([.ref h0, .int a, .int b])).length) Slot.unset).toArray = ls at hl ⊢
  have hl : lv_has ls 4 [(0, .ref h0), (1, .int a), (2, .int b)] := hl
  refine lv_iload_n hx hb dX11_noise_0 rfl (lv_at hl 1 rfl) ?_
  refine lv_bipush (v := 8) hx hb dX11_noise_1 (by decide) ?_
  refine vp_callSi (mkSr (rest := []) ⟨hx, hb, hml, hown, htl⟩ hN hK (c_X11_isWithin l G cs a 8) (cS 2 htl lk_RX11_82 mT_X11_isWithin mN_RX11 mC_X11_isWithin ok_X11_isWithin rfl rfl ⟨(Nat.le_of_ble_eq_true rfl), (Nat.le_of_ble_eq_true rfl)⟩) rfl hl.1 rfl (Nat.le_of_ble_eq_true rfl) dX11_noise_3 ⟨(Nat.le_of_ble_eq_true rfl), (Nat.le_of_ble_eq_true rfl)⟩) (fun r hw => ?_)
  obtain ⟨rfl, hz_1⟩ := hw
  refine lv_if_eq (tgt := 18) hx hb dX11_noise_6 (by decide) (fun c_6 => ?_) (fun c_6 => ?_)
  · refine lv_aload_n hx hb dX11_noise_18 rfl (lv_at hl 0 rfl) ?_
    refine lv_iconst (v := (-1)) hx hb dX11_noise_19 (by decide) ?_
    refine mi (wr := [(aS, .inr (7, [.ref aW, .ref aD, f_aS_2, f_aS_3, f_aS_4])), (aW, .inr (10, [f_aW_0, f_aW_1, .ref aF, f_aW_3, f_aW_4, f_aW_5, f_aW_6])), (aF, .inr (4, [f_aF_0, f_aF_1, f_aF_2, .ref aF1, .ref aF2, .int 0, f_aF_6, f_aF_7, f_aF_8, f_aF_9, f_aF_10, f_aF_11, f_aF_12])), (aF1, .inl (cs 0, 6, .inl (fun _ => 0))), (aF2, .inl (cs 0, 6, .inl (fun _ => 0))), (aD, .inr (2, [f_aD_0, f_aD_1, f_aD_2, f_aD_3, f_aD_4, f_aD_5, f_aD_6]))]) (mkV (rest := []) ⟨hx, hb, hml, hown, htl⟩ hN hK hP hD (c_X11_settle l G cs h0 (-1) f_h0_0 (.ref aS) f_h0_2 f_h0_3 f_h0_4 f_h0_5 f_h0_6 f_h0_7 f_h0_8 f_h0_9 f_h0_10 f_h0_11 h1 lr (rfs) _ (by decide)) [0, 1] rfl rfl 0 11 rfl rfl (cV 1 htl lk_RX11_91 mI_X11_settle mS_X11_settle mN_RX11 mC_X11_settle ok_X11_settle rfl rfl ⟨(Nat.le_of_ble_eq_true rfl), (Nat.le_of_ble_eq_true rfl)⟩) rfl hl.1 rfl (Nat.le_of_ble_eq_true rfl) dX11_noise_20 ⟨(Nat.le_of_ble_eq_true rfl), (Nat.le_of_ble_eq_true rfl)⟩) hP hD hS hA [0, 1] [2, 3, 4, 5, 6, 7] rfl rfl rfl (by decide) (fun r u_20 H locs hw hP hD hS => ?_)
    have hP : va_P G vwCl [(aS, .inr (7, [.ref aW, .ref aD, f_aS_2, f_aS_3, f_aS_4])), (aW, .inr (10, [f_aW_0, f_aW_1, .ref aF, f_aW_3, f_aW_4, f_aW_5, f_aW_6])), (aF, .inr (4, [f_aF_0, f_aF_1, f_aF_2, .ref aF1, .ref aF2, .int 0, f_aF_6, f_aF_7, f_aF_8, f_aF_9, f_aF_10, f_aF_11, f_aF_12])), (aF1, .inl (cs 0, 6, .inl (fun _ => 0))), (aF2, .inl (cs 0, 6, .inl (fun _ => 0))), (aD, .inr (2, [f_aD_0, f_aD_1, f_aD_2, f_aD_3, f_aD_4, f_aD_5, f_aD_6]))] H := hP
    have hD : va_D A [(aS, .inr (7, [.ref aW, .ref aD, f_aS_2, f_aS_3, f_aS_4])), (aW, .inr (10, [f_aW_0, f_aW_1, .ref aF, f_aW_3, f_aW_4, f_aW_5, f_aW_6])), (aF, .inr (4, [f_aF_0, f_aF_1, f_aF_2, .ref aF1, .ref aF2, .int 0, f_aF_6, f_aF_7, f_aF_8, f_aF_9, f_aF_10, f_aF_11, f_aF_12])), (aF1, .inl (cs 0, 6, .inl (fun _ => 0))), (aF2, .inl (cs 0, 6, .inl (fun _ => 0))), (aD, .inr (2, [f_aD_0, f_aD_1, f_aD_2, f_aD_3, f_aD_4, f_aD_5, f_aD_6]))] := hD
    obtain rfl : r = (-1) := hw.trans (by unfold sp_X11_settle; (try rw [if_neg (by decide), if_neg (by decide)]) <;> first | rfl | decide)
    exact W.iret (v := (-1)) hx hb hr (fun t ht hW => ⟨⟨(-1), (), rfl, (by unfold sp_X11_noise; rw [if_pos c_6]), ⟨fun k q h => by simp at h, va_K.moved hW.alike hK, ⟨fun i j p q h => by simp at h, fun k q h => by simp at h⟩⟩⟩, hS.F ht⟩) hS.2.2 dX11_noise_23
  · refine lv_iload_n hx hb dX11_noise_9 rfl (lv_at hl 2 rfl) ?_
    refine lv_bipush (v := 21) hx hb dX11_noise_10 (by decide) ?_
    refine vp_callSi (mkSr (rest := []) ⟨hx, hb, hml, hown, htl⟩ hN hK (c_X11_isWithin l G cs b 21) (cS 2 htl lk_RX11_82 mT_X11_isWithin mN_RX11 mC_X11_isWithin ok_X11_isWithin rfl rfl ⟨(Nat.le_of_ble_eq_true rfl), (Nat.le_of_ble_eq_true rfl)⟩) rfl hl.1 rfl (Nat.le_of_ble_eq_true rfl) dX11_noise_12 ⟨(Nat.le_of_ble_eq_true rfl), (Nat.le_of_ble_eq_true rfl)⟩) (fun r hw => ?_)
    obtain ⟨rfl, hz_2⟩ := hw
    refine lv_if_ne (tgt := 24) hx hb dX11_noise_15 (by decide) (fun c_15 => ?_) (fun c_15 => ?_)
    · refine lv_aload_n hx hb dX11_noise_24 rfl (lv_at hl 0 rfl) ?_
      refine va_get (ci := 11) (v := .ref aS) (C := RX11) (T := TX11) (N := 14) hx hb htl inX11 hown hK hP 0 rfl rfl 1 (by decide) (htl _ fl_RX11_21) (fun _ h9 => h9) rfl dX11_noise_25 ?_
      refine va_get (ci := 7) (v := .ref aW) (C := RX7) (T := TX7) (N := 5) hx hb htl inX7 hown hK hP 2 rfl rfl 0 (by decide) (htl _ fl_RX11_78) (fun _ h9 => h9) rfl dX11_noise_28 ?_
      refine va_get (ci := 10) (v := .ref aF) (C := RX10) (T := TX10) (N := 7) hx hb htl inX10 hown hK hP 3 rfl rfl 2 (by decide) (htl _ fl_RX11_156) (fun _ h9 => h9) rfl dX11_noise_31 ?_
      refine lv_astore_n (lv' := [(3, .ref aF), (0, .ref h0), (1, .int a), (2, .int b)]) hx hb dX11_noise_34 rfl hl (by decide) rfl (fun ls hl => ?_)
      refine lv_aload_n hx hb dX11_noise_35 rfl (lv_at hl 0 rfl) ?_
      refine va_get (ci := 4) (v := .int 0) (C := RX4) (T := TX4) (N := 13) hx hb htl inX4 hown hK hP 4 rfl rfl 5 (by decide) (htl _ fl_RX11_169) (fun _ h9 => h9) rfl dX11_noise_36 ?_
      refine lv_bipush (v := 6) hx hb dX11_noise_39 (by decide) ?_
      refine lv_icmp_lt (tgt := 51) hx hb dX11_noise_41 (by decide) (fun _ => ?_) (fun h => absurd (by decide) h)
      refine lv_aload_n hx hb dX11_noise_51 rfl (lv_at hl 0 rfl) ?_
      refine lv_iload_n hx hb dX11_noise_52 rfl (lv_at hl 2 rfl) ?_
      refine lv_iload_n hx hb dX11_noise_53 rfl (lv_at hl 3 rfl) ?_
      refine mv (wr := [(h0, .inr (11, [f_h0_0, .ref aS, f_h0_2, f_h0_3, f_h0_4, f_h0_5, f_h0_6, f_h0_7, f_h0_8, f_h0_9, f_h0_10, f_h0_11, .ref h1, .int lr])), (h1, .inl (cs 0, 7, .inl rfs)), (aS, .inr (7, [.ref aW, .ref aD, f_aS_2, f_aS_3, f_aS_4])), (aW, .inr (10, [f_aW_0, f_aW_1, .ref aF, f_aW_3, f_aW_4, f_aW_5, f_aW_6])), (aD, .inr (2, [f_aD_0, f_aD_1, f_aD_2, f_aD_3, f_aD_4, f_aD_5, f_aD_6]))]) (mkV (rest := []) ⟨hx, hb, hml, hown, htl⟩ hN hK hP hD (c_X4_addNoise l G cs aF a b f_aF_0 f_aF_1 f_aF_2 aF1 aF2 f_aF_6 f_aF_7 f_aF_8 f_aF_9 f_aF_10 f_aF_11 f_aF_12 _) [4, 5, 6] rfl rfl 0 4 rfl rfl (cV 2 htl lk_RX11_172 mI_X4_addNoise mS_X4_addNoise mN_RX4 mC_X4_addNoise ok_X4_addNoise rfl rfl ⟨(Nat.le_of_ble_eq_true rfl), (Nat.le_of_ble_eq_true rfl)⟩) rfl hl.1 rfl (Nat.le_of_ble_eq_true rfl) dX11_noise_54 ⟨(Nat.le_of_ble_eq_true rfl), (Nat.le_of_ble_eq_true rfl)⟩) hP hD hS hA [4, 5, 6] [0, 1, 2, 3, 7] rfl rfl rfl (by decide) (fun u_54 H locs hw hP hD hS => ?_)
      have hP : va_P G vwCl [(h0, .inr (11, [f_h0_0, .ref aS, f_h0_2, f_h0_3, f_h0_4, f_h0_5, f_h0_6, f_h0_7, f_h0_8, f_h0_9, f_h0_10, f_h0_11, .ref h1, .int lr])), (h1, .inl (cs 0, 7, .inl rfs)), (aS, .inr (7, [.ref aW, .ref aD, f_aS_2, f_aS_3, f_aS_4])), (aW, .inr (10, [f_aW_0, f_aW_1, .ref aF, f_aW_3, f_aW_4, f_aW_5, f_aW_6])), (aD, .inr (2, [f_aD_0, f_aD_1, f_aD_2, f_aD_3, f_aD_4, f_aD_5, f_aD_6])), (aF, .inr (4, [f_aF_0, f_aF_1, f_aF_2, .ref aF1, .ref aF2, .int 1, f_aF_6, f_aF_7, f_aF_8, f_aF_9, f_aF_10, f_aF_11, f_aF_12])), (aF1, .inl (cs 0, 6, .inl (upd (fun _ => 0) 0 a))), (aF2, .inl (cs 0, 6, .inl (upd (fun _ => 0) 0 b)))] H := hP
      have hD : va_D A [(h0, .inr (11, [f_h0_0, .ref aS, f_h0_2, f_h0_3, f_h0_4, f_h0_5, f_h0_6, f_h0_7, f_h0_8, f_h0_9, f_h0_10, f_h0_11, .ref h1, .int lr])), (h1, .inl (cs 0, 7, .inl rfs)), (aS, .inr (7, [.ref aW, .ref aD, f_aS_2, f_aS_3, f_aS_4])), (aW, .inr (10, [f_aW_0, f_aW_1, .ref aF, f_aW_3, f_aW_4, f_aW_5, f_aW_6])), (aD, .inr (2, [f_aD_0, f_aD_1, f_aD_2, f_aD_3, f_aD_4, f_aD_5, f_aD_6])), (aF, .inr (4, [f_aF_0, f_aF_1, f_aF_2, .ref aF1, .ref aF2, .int 1, f_aF_6, f_aF_7, f_aF_8, f_aF_9, f_aF_10, f_aF_11, f_aF_12])), (aF1, .inl (cs 0, 6, .inl (upd (fun _ => 0) 0 a))), (aF2, .inl (cs 0, 6, .inl (upd (fun _ => 0) 0 b)))] := hD
      refine lv_aload_n hx hb dX11_noise_57 rfl (lv_at hl 1 rfl) ?_
      refine va_get (ci := 11) (v := .ref aS) (C := RX11) (T := TX11) (N := 14) hx hb htl inX11 hown hK hP 0 rfl rfl 1 (by decide) (htl _ fl_RX11_21) (fun _ h9 => h9) rfl dX11_noise_58 ?_
      refine va_get (ci := 7) (v := .ref aD) (C := RX7) (T := TX7) (N := 5) hx hb htl inX7 hown hK hP 2 rfl rfl 1 (by decide) (htl _ fl_RX11_107) (fun _ h9 => h9) rfl dX11_noise_61 ?_
      refine mv (wr := [(h0, .inr (11, [f_h0_0, .ref aS, f_h0_2, f_h0_3, f_h0_4, f_h0_5, f_h0_6, f_h0_7, f_h0_8, f_h0_9, f_h0_10, f_h0_11, .ref h1, .int lr])), (h1, .inl (cs 0, 7, .inl rfs)), (aS, .inr (7, [.ref aW, .ref aD, f_aS_2, f_aS_3, f_aS_4])), (aW, .inr (10, [f_aW_0, f_aW_1, .ref aF, f_aW_3, f_aW_4, f_aW_5, f_aW_6])), (aF, .inr (4, [f_aF_0, f_aF_1, f_aF_2, .ref aF1, .ref aF2, .int 1, f_aF_6, f_aF_7, f_aF_8, f_aF_9, f_aF_10, f_aF_11, f_aF_12])), (aF1, .inl (cs 0, 6, .inl (upd (fun _ => 0) 0 a))), (aF2, .inl (cs 0, 6, .inl (upd (fun _ => 0) 0 b)))]) (mkV (rest := []) ⟨hx, hb, hml, hown, htl⟩ hN hK hP hD (c_X2_clear l G cs aD f_aD_0 f_aD_1 f_aD_2 f_aD_3 f_aD_4 f_aD_5 f_aD_6 _) [4] rfl rfl 0 2 rfl rfl (cV 0 htl lk_RX11_111 mI_X2_clear mS_X2_clear mN_RX2 mC_X2_clear ok_X2_clear rfl rfl ⟨(Nat.le_of_ble_eq_true rfl), (Nat.le_of_ble_eq_true rfl)⟩) rfl hl.1 rfl (Nat.le_of_ble_eq_true rfl) dX11_noise_64 ⟨(Nat.le_of_ble_eq_true rfl), (Nat.le_of_ble_eq_true rfl)⟩) hP hD hS hA [4] [0, 1, 2, 3, 5, 6, 7] rfl rfl rfl (by decide) (fun u_64 H locs hw hP hD hS => ?_)
      have hP : va_P G vwCl [(h0, .inr (11, [f_h0_0, .ref aS, f_h0_2, f_h0_3, f_h0_4, f_h0_5, f_h0_6, f_h0_7, f_h0_8, f_h0_9, f_h0_10, f_h0_11, .ref h1, .int lr])), (h1, .inl (cs 0, 7, .inl rfs)), (aS, .inr (7, [.ref aW, .ref aD, f_aS_2, f_aS_3, f_aS_4])), (aW, .inr (10, [f_aW_0, f_aW_1, .ref aF, f_aW_3, f_aW_4, f_aW_5, f_aW_6])), (aF, .inr (4, [f_aF_0, f_aF_1, f_aF_2, .ref aF1, .ref aF2, .int 1, f_aF_6, f_aF_7, f_aF_8, f_aF_9, f_aF_10, f_aF_11, f_aF_12])), (aF1, .inl (cs 0, 6, .inl (upd (fun _ => 0) 0 a))), (aF2, .inl (cs 0, 6, .inl (upd (fun _ => 0) 0 b))), (aD, .inr (2, [f_aD_0, f_aD_1, f_aD_2, f_aD_3, f_aD_4, .int 0, f_aD_6]))] H := hP
      have hD : va_D A [(h0, .inr (11, [f_h0_0, .ref aS, f_h0_2, f_h0_3, f_h0_4, f_h0_5, f_h0_6, f_h0_7, f_h0_8, f_h0_9, f_h0_10, f_h0_11, .ref h1, .int lr])), (h1, .inl (cs 0, 7, .inl rfs)), (aS, .inr (7, [.ref aW, .ref aD, f_aS_2, f_aS_3, f_aS_4])), (aW, .inr (10, [f_aW_0, f_aW_1, .ref aF, f_aW_3, f_aW_4, f_aW_5, f_aW_6])), (aF, .inr (4, [f_aF_0, f_aF_1, f_aF_2, .ref aF1, .ref aF2, .int 1, f_aF_6, f_aF_7, f_aF_8, f_aF_9, f_aF_10, f_aF_11, f_aF_12])), (aF1, .inl (cs 0, 6, .inl (upd (fun _ => 0) 0 a))), (aF2, .inl (cs 0, 6, .inl (upd (fun _ => 0) 0 b))), (aD, .inr (2, [f_aD_0, f_aD_1, f_aD_2, f_aD_3, f_aD_4, .int 0, f_aD_6]))] := hD
      refine lv_aload_n hx hb dX11_noise_67 rfl (lv_at hl 1 rfl) ?_
      refine lv_aload_n hx hb dX11_noise_68 rfl (lv_at hl 0 rfl) ?_
      refine va_get (ci := 4) (v := .int 1) (C := RX4) (T := TX4) (N := 13) hx hb htl inX4 hown hK hP 4 rfl rfl 5 (by decide) (htl _ fl_RX11_169) (fun _ h9 => h9) rfl dX11_noise_69 ?_
      refine lv_iconst (v := 1) hx hb dX11_noise_72 (by decide) ?_
      refine lv_isub hx hb dX11_noise_73 ?_
      refine lv_topi (fun xv ex => ?_)
      obtain rfl : xv = 0 := ex.trans (by first | rfl | decide)
      refine mi (wr := [(aS, .inr (7, [.ref aW, .ref aD, f_aS_2, f_aS_3, f_aS_4])), (aW, .inr (10, [f_aW_0, f_aW_1, .ref aF, f_aW_3, f_aW_4, f_aW_5, f_aW_6])), (aF, .inr (4, [f_aF_0, f_aF_1, f_aF_2, .ref aF1, .ref aF2, .int 1, f_aF_6, f_aF_7, f_aF_8, f_aF_9, f_aF_10, f_aF_11, f_aF_12])), (aF1, .inl (cs 0, 6, .inl (upd (fun _ => 0) 0 a))), (aF2, .inl (cs 0, 6, .inl (upd (fun _ => 0) 0 b))), (aD, .inr (2, [f_aD_0, f_aD_1, f_aD_2, f_aD_3, f_aD_4, .int 0, f_aD_6]))]) (mkV (rest := []) ⟨hx, hb, hml, hown, htl⟩ hN hK hP hD (c_X11_settle l G cs h0 0 f_h0_0 (.ref aS) f_h0_2 f_h0_3 f_h0_4 f_h0_5 f_h0_6 f_h0_7 f_h0_8 f_h0_9 f_h0_10 f_h0_11 h1 lr (rfs) _ (by decide)) [0, 1] rfl rfl 0 11 rfl rfl (cV 1 htl lk_RX11_91 mI_X11_settle mS_X11_settle mN_RX11 mC_X11_settle ok_X11_settle rfl rfl ⟨(Nat.le_of_ble_eq_true rfl), (Nat.le_of_ble_eq_true rfl)⟩) rfl hl.1 rfl (Nat.le_of_ble_eq_true rfl) dX11_noise_74 ⟨(Nat.le_of_ble_eq_true rfl), (Nat.le_of_ble_eq_true rfl)⟩) hP hD hS hA [0, 1] [2, 3, 4, 5, 6, 7] rfl rfl rfl (by decide) (fun r u_74 H locs hw hP hD hS => ?_)
      have hP : va_P G vwCl [(aS, .inr (7, [.ref aW, .ref aD, f_aS_2, f_aS_3, f_aS_4])), (aW, .inr (10, [f_aW_0, f_aW_1, .ref aF, f_aW_3, f_aW_4, f_aW_5, f_aW_6])), (aF, .inr (4, [f_aF_0, f_aF_1, f_aF_2, .ref aF1, .ref aF2, .int 1, f_aF_6, f_aF_7, f_aF_8, f_aF_9, f_aF_10, f_aF_11, f_aF_12])), (aF1, .inl (cs 0, 6, .inl (upd (fun _ => 0) 0 a))), (aF2, .inl (cs 0, 6, .inl (upd (fun _ => 0) 0 b))), (aD, .inr (2, [f_aD_0, f_aD_1, f_aD_2, f_aD_3, f_aD_4, .int 0, f_aD_6]))] H := hP
      have hD : va_D A [(aS, .inr (7, [.ref aW, .ref aD, f_aS_2, f_aS_3, f_aS_4])), (aW, .inr (10, [f_aW_0, f_aW_1, .ref aF, f_aW_3, f_aW_4, f_aW_5, f_aW_6])), (aF, .inr (4, [f_aF_0, f_aF_1, f_aF_2, .ref aF1, .ref aF2, .int 1, f_aF_6, f_aF_7, f_aF_8, f_aF_9, f_aF_10, f_aF_11, f_aF_12])), (aF1, .inl (cs 0, 6, .inl (upd (fun _ => 0) 0 a))), (aF2, .inl (cs 0, 6, .inl (upd (fun _ => 0) 0 b))), (aD, .inr (2, [f_aD_0, f_aD_1, f_aD_2, f_aD_3, f_aD_4, .int 0, f_aD_6]))] := hD
      obtain rfl : r = 0 := hw.trans (by unfold sp_X11_settle; (try rw [if_pos (by decide)]) <;> first | rfl | decide)
      exact W.iret (v := 0) hx hb hr (fun t ht hW => ⟨⟨0, (), rfl, (by unfold sp_X11_noise; rw [if_neg c_6, if_neg c_15]), ⟨fun k q h => by simp at h, va_K.moved hW.alike hK, ⟨fun i j p q h => by simp at h, fun k q h => by simp at h⟩⟩⟩, hS.F ht⟩) hS.2.2 dX11_noise_77
    · refine lv_aload_n hx hb dX11_noise_18 rfl (lv_at hl 0 rfl) ?_
      refine lv_iconst (v := (-1)) hx hb dX11_noise_19 (by decide) ?_
      refine mi (wr := [(aS, .inr (7, [.ref aW, .ref aD, f_aS_2, f_aS_3, f_aS_4])), (aW, .inr (10, [f_aW_0, f_aW_1, .ref aF, f_aW_3, f_aW_4, f_aW_5, f_aW_6])), (aF, .inr (4, [f_aF_0, f_aF_1, f_aF_2, .ref aF1, .ref aF2, .int 0, f_aF_6, f_aF_7, f_aF_8, f_aF_9, f_aF_10, f_aF_11, f_aF_12])), (aF1, .inl (cs 0, 6, .inl (fun _ => 0))), (aF2, .inl (cs 0, 6, .inl (fun _ => 0))), (aD, .inr (2, [f_aD_0, f_aD_1, f_aD_2, f_aD_3, f_aD_4, f_aD_5, f_aD_6]))]) (mkV (rest := []) ⟨hx, hb, hml, hown, htl⟩ hN hK hP hD (c_X11_settle l G cs h0 (-1) f_h0_0 (.ref aS) f_h0_2 f_h0_3 f_h0_4 f_h0_5 f_h0_6 f_h0_7 f_h0_8 f_h0_9 f_h0_10 f_h0_11 h1 lr (rfs) _ (by decide)) [0, 1] rfl rfl 0 11 rfl rfl (cV 1 htl lk_RX11_91 mI_X11_settle mS_X11_settle mN_RX11 mC_X11_settle ok_X11_settle rfl rfl ⟨(Nat.le_of_ble_eq_true rfl), (Nat.le_of_ble_eq_true rfl)⟩) rfl hl.1 rfl (Nat.le_of_ble_eq_true rfl) dX11_noise_20 ⟨(Nat.le_of_ble_eq_true rfl), (Nat.le_of_ble_eq_true rfl)⟩) hP hD hS hA [0, 1] [2, 3, 4, 5, 6, 7] rfl rfl rfl (by decide) (fun r u_20 H locs hw hP hD hS => ?_)
      have hP : va_P G vwCl [(aS, .inr (7, [.ref aW, .ref aD, f_aS_2, f_aS_3, f_aS_4])), (aW, .inr (10, [f_aW_0, f_aW_1, .ref aF, f_aW_3, f_aW_4, f_aW_5, f_aW_6])), (aF, .inr (4, [f_aF_0, f_aF_1, f_aF_2, .ref aF1, .ref aF2, .int 0, f_aF_6, f_aF_7, f_aF_8, f_aF_9, f_aF_10, f_aF_11, f_aF_12])), (aF1, .inl (cs 0, 6, .inl (fun _ => 0))), (aF2, .inl (cs 0, 6, .inl (fun _ => 0))), (aD, .inr (2, [f_aD_0, f_aD_1, f_aD_2, f_aD_3, f_aD_4, f_aD_5, f_aD_6]))] H := hP
      have hD : va_D A [(aS, .inr (7, [.ref aW, .ref aD, f_aS_2, f_aS_3, f_aS_4])), (aW, .inr (10, [f_aW_0, f_aW_1, .ref aF, f_aW_3, f_aW_4, f_aW_5, f_aW_6])), (aF, .inr (4, [f_aF_0, f_aF_1, f_aF_2, .ref aF1, .ref aF2, .int 0, f_aF_6, f_aF_7, f_aF_8, f_aF_9, f_aF_10, f_aF_11, f_aF_12])), (aF1, .inl (cs 0, 6, .inl (fun _ => 0))), (aF2, .inl (cs 0, 6, .inl (fun _ => 0))), (aD, .inr (2, [f_aD_0, f_aD_1, f_aD_2, f_aD_3, f_aD_4, f_aD_5, f_aD_6]))] := hD
      obtain rfl : r = (-1) := hw.trans (by unfold sp_X11_settle; (try rw [if_neg (by decide), if_neg (by decide)]) <;> first | rfl | decide)
      exact W.iret (v := (-1)) hx hb hr (fun t ht hW => ⟨⟨(-1), (), rfl, (by unfold sp_X11_noise; rw [if_neg c_6, if_pos c_15]), ⟨fun k q h => by simp at h, va_K.moved hW.alike hK, ⟨fun i j p q h => by simp at h, fun k q h => by simp at h⟩⟩⟩, hS.F ht⟩) hS.2.2 dX11_noise_23

def sp_X11_who (b : Int32) : Int32 := if b = 0 then (-1) else (if b = 1 then (-1) else (-1))
set_option maxHeartbeats 1000000 in
set_option maxRecDepth 100000 in
theorem c_X11_who (l : Launch) (G : va_G) (cs : Nat → ClassId) (h0 : Nat) (a : Int32) (b : Int32) (f_h0_0 : Value) (aS : Nat) (f_h0_2 : Value) (f_h0_3 : Value) (f_h0_4 : Value) (f_h0_5 : Value) (f_h0_6 : Value) (f_h0_7 : Value) (f_h0_8 : Value) (f_h0_9 : Value) (f_h0_10 : Value) (f_h0_11 : Value) (h1 : Nat) (lr : Int32) (aW : Nat) (aD : Nat) (f_aS_2 : Value) (f_aS_3 : Value) (f_aS_4 : Value) (f_aW_0 : Value) (f_aW_1 : Value) (aF : Nat) (f_aW_3 : Value) (f_aW_4 : Value) (f_aW_5 : Value) (f_aW_6 : Value) (f_aF_0 : Value) (f_aF_1 : Value) (f_aF_3 : Value) (f_aF_4 : Value) (f_aF_6 : Value) (f_aF_7 : Value) (f_aF_8 : Value) (f_aF_9 : Value) (f_aF_10 : Value) (f_aF_11 : Value) (f_aF_12 : Value) (sz : Nat) : Met l yX11_who (Cond.code yX11_who cX11_who 5 (some .int) :: gW) ({ frames := 1, cells := 0, slots := 0, locals := 21 }) (va_Pc [.ref h0, .int a, .int b] (Pre G cs [(h0, .inr (11, [f_h0_0, .ref aS, f_h0_2, f_h0_3, f_h0_4, f_h0_5, f_h0_6, f_h0_7, f_h0_8, f_h0_9, f_h0_10, f_h0_11, .ref h1, .int lr])), (aS, .inr (7, [.ref aW, .ref aD, f_aS_2, f_aS_3, f_aS_4])), (aW, .inr (10, [f_aW_0, f_aW_1, .ref aF, f_aW_3, f_aW_4, f_aW_5, f_aW_6])), (aF, .inr (4, [f_aF_0, f_aF_1, .int 0, f_aF_3, f_aF_4, .int 0, f_aF_6, f_aF_7, f_aF_8, f_aF_9, f_aF_10, f_aF_11, f_aF_12]))] sz)) (va_Qi (fun r (u : Unit) => r = sp_X11_who b) (fun (u : Unit) t => Aft G cs (va_A [(h0, .inr (11, [f_h0_0, .ref aS, f_h0_2, f_h0_3, f_h0_4, f_h0_5, f_h0_6, f_h0_7, f_h0_8, f_h0_9, f_h0_10, f_h0_11, .ref h1, .int lr])), (aS, .inr (7, [.ref aW, .ref aD, f_aS_2, f_aS_3, f_aS_4])), (aW, .inr (10, [f_aW_0, f_aW_1, .ref aF, f_aW_3, f_aW_4, f_aW_5, f_aW_6])), (aF, .inr (4, [f_aF_0, f_aF_1, .int 0, f_aF_3, f_aF_4, .int 0, f_aF_6, f_aF_7, f_aF_8, f_aF_9, f_aF_10, f_aF_11, f_aF_12]))] sz) [] t) (va_A [(h0, .inr (11, [f_h0_0, .ref aS, f_h0_2, f_h0_3, f_h0_4, f_h0_5, f_h0_6, f_h0_7, f_h0_8, f_h0_9, f_h0_10, f_h0_11, .ref h1, .int lr])), (aS, .inr (7, [.ref aW, .ref aD, f_aS_2, f_aS_3, f_aS_4])), (aW, .inr (10, [f_aW_0, f_aW_1, .ref aF, f_aW_3, f_aW_4, f_aW_5, f_aW_6])), (aF, .inr (4, [f_aF_0, f_aF_1, .int 0, f_aF_3, f_aF_4, .int 0, f_aF_6, f_aF_7, f_aF_8, f_aF_9, f_aF_10, f_aF_11, f_aF_12]))] sz)) 0 0 (va_A [(h0, .inr (11, [f_h0_0, .ref aS, f_h0_2, f_h0_3, f_h0_4, f_h0_5, f_h0_6, f_h0_7, f_h0_8, f_h0_9, f_h0_10, f_h0_11, .ref h1, .int lr])), (aS, .inr (7, [.ref aW, .ref aD, f_aS_2, f_aS_3, f_aS_4])), (aW, .inr (10, [f_aW_0, f_aW_1, .ref aF, f_aW_3, f_aW_4, f_aW_5, f_aW_6])), (aF, .inr (4, [f_aF_0, f_aF_1, .int 0, f_aF_3, f_aF_4, .int 0, f_aF_6, f_aF_7, f_aF_8, f_aF_9, f_aF_10, f_aF_11, f_aF_12]))] sz) := by
  refine Met.ofW (cc := cX11_who) (maxL := 5) (ret := (some .int)) (by decide) rfl ?_
  intro p e s m args below meth c s₁ B hml hv
  obtain ⟨rfl, hsz, hP, hK, hD0, hN⟩ := hv
  have hx := B.exec
  have hb := B.bytes
  have hr := B.returns
  have hts := atoms_spec (ws := Cond.code yX11_who cX11_who 5 (some .int) :: gW) B.pre
  have htl : ∀ w ∈ gW, w.before _ s = true := fun w h => hts w (List.mem_cons_of_mem _ h)
  have hown : s.vm.findClass RX11 = some m.cls := findClass_of_methodNamed B.named
  have hlocks := B.notSynchronized
  subst hsz
  have hD := hD0.self (sz := s.heap.size)
  generalize hAe : va_A [(h0, .inr (11, [f_h0_0, .ref aS, f_h0_2, f_h0_3, f_h0_4, f_h0_5, f_h0_6, f_h0_7, f_h0_8, f_h0_9, f_h0_10, f_h0_11, .ref h1, .int lr])), (aS, .inr (7, [.ref aW, .ref aD, f_aS_2, f_aS_3, f_aS_4])), (aW, .inr (10, [f_aW_0, f_aW_1, .ref aF, f_aW_3, f_aW_4, f_aW_5, f_aW_6])), (aF, .inr (4, [f_aF_0, f_aF_1, .int 0, f_aF_3, f_aF_4, .int 0, f_aF_6, f_aF_7, f_aF_8, f_aF_9, f_aF_10, f_aF_11, f_aF_12]))] s.heap.size = A at hD ⊢
  have hA : ∀ q : Nat, s.heap.size ≤ q → A q := fun q h => by rw [← hAe]; exact Or.inr h
  have hS : va_S A s.heap s.heap [] := va_S.rf
  have hl := lv_entry ([.ref h0, .int a, .int b]) (n := 5) (Nat.le_of_ble_eq_true rfl)
  rw [lg_entry_eq]
  generalize (lg_sl ([.ref h0, .int a, .int b]) ++ List.replicate (5 - (lg_sl ([.ref h0, .int a, .int b])).length) Slot.unset).toArray = ls at hl ⊢
  have hl : lv_has ls 5 [(0, .ref h0), (1, .int a), (2, .int b)] := hl
  refine lv_aload_n hx hb dX11_who_0 rfl (lv_at hl 0 rfl) ?_
  refine va_get (ci := 11) (v := .ref aS) (C := RX11) (T := TX11) (N := 14) hx hb htl inX11 hown hK hP 0 rfl rfl 1 (by decide) (htl _ fl_RX11_21) (fun _ h9 => h9) rfl dX11_who_1 ?_
  refine va_get (ci := 7) (v := .ref aW) (C := RX7) (T := TX7) (N := 5) hx hb htl inX7 hown hK hP 1 rfl rfl 0 (by decide) (htl _ fl_RX11_78) (fun _ h9 => h9) rfl dX11_who_4 ?_
  refine va_get (ci := 10) (v := .ref aF) (C := RX10) (T := TX10) (N := 7) hx hb htl inX10 hown hK hP 2 rfl rfl 2 (by decide) (htl _ fl_RX11_156) (fun _ h9 => h9) rfl dX11_who_7 ?_
  refine lv_astore_n (lv' := [(3, .ref aF), (0, .ref h0), (1, .int a), (2, .int b)]) hx hb dX11_who_10 rfl hl (by decide) rfl (fun ls hl => ?_)
  refine lv_iload_n hx hb dX11_who_11 rfl (lv_at hl 3 rfl) ?_
  refine lv_if_eq (tgt := 20) hx hb dX11_who_12 (by decide) (fun c_12 => ?_) (fun c_12 => ?_)
  · refine lv_iconst (v := 1) hx hb dX11_who_20 (by decide) ?_
    refine lv_goto (tgt := 25) hx hb dX11_who_21 (by decide) ?_
    refine lv_istore (lv' := [(4, .int 1), (3, .ref aF), (0, .ref h0), (1, .int a), (2, .int b)]) hx hb dX11_who_25 hl (by decide) rfl (fun ls hl => ?_)
    refine lv_iload_n hx hb dX11_who_27 rfl (lv_at hl 3 rfl) ?_
    refine lv_iload hx hb dX11_who_28 (lv_at hl 0 rfl) ?_
    refine lv_if_eq (tgt := 40) hx hb dX11_who_30 (by decide) (fun h => absurd h (by decide)) (fun _ => ?_)
    refine lv_aload_n hx hb dX11_who_33 rfl (lv_at hl 1 rfl) ?_
    refine va_get (ci := 4) (v := .int 0) (C := RX4) (T := TX4) (N := 13) hx hb htl inX4 hown hK hP 3 rfl rfl 2 (by decide) (htl _ fl_RX11_160) (fun _ h9 => h9) rfl dX11_who_34 ?_
    refine lv_goto (tgt := 44) hx hb dX11_who_37 (by decide) ?_
    refine vp_callSi (mkSr (rest := []) ⟨hx, hb, hml, hown, htl⟩ hN hK (c_X11_isWithin l G cs a 0) (cS 2 htl lk_RX11_82 mT_X11_isWithin mN_RX11 mC_X11_isWithin ok_X11_isWithin rfl rfl ⟨(Nat.le_of_ble_eq_true rfl), (Nat.le_of_ble_eq_true rfl)⟩) rfl hl.1 rfl (Nat.le_of_ble_eq_true rfl) dX11_who_44 ⟨(Nat.le_of_ble_eq_true rfl), (Nat.le_of_ble_eq_true rfl)⟩) (fun r hw => ?_)
    obtain rfl : r = 0 := hw.1.trans (iw_0 _)
    refine lv_if_ne (tgt := 52) hx hb dX11_who_47 (by decide) (fun h => absurd (by decide) h) (fun _ => ?_)
    refine lv_iconst (v := (-1)) hx hb dX11_who_50 (by decide) ?_
    exact W.iret (v := (-1)) hx hb hr (fun t ht hW => ⟨⟨(-1), (), rfl, (by unfold sp_X11_who; rw [if_pos c_12]), ⟨fun k q h => by simp at h, va_K.moved hW.alike hK, ⟨fun i j p q h => by simp at h, fun k q h => by simp at h⟩⟩⟩, hS.F ht⟩) hS.2.2 dX11_who_51
  · refine lv_iload_n hx hb dX11_who_15 rfl (lv_at hl 3 rfl) ?_
    refine lv_iconst (v := 1) hx hb dX11_who_16 (by decide) ?_
    refine lv_icmp_ne (tgt := 24) hx hb dX11_who_17 (by decide) (fun c_17 => ?_) (fun c_17 => ?_)
    · refine lv_iconst (v := 0) hx hb dX11_who_24 (by decide) ?_
      refine lv_istore (lv' := [(4, .int 0), (3, .ref aF), (0, .ref h0), (1, .int a), (2, .int b)]) hx hb dX11_who_25 hl (by decide) rfl (fun ls hl => ?_)
      refine lv_iload_n hx hb dX11_who_27 rfl (lv_at hl 3 rfl) ?_
      refine lv_iload hx hb dX11_who_28 (lv_at hl 0 rfl) ?_
      refine lv_if_eq (tgt := 40) hx hb dX11_who_30 (by decide) (fun _ => ?_) (fun h => absurd (by decide) h)
      refine lv_aload_n hx hb dX11_who_40 rfl (lv_at hl 1 rfl) ?_
      refine va_get (ci := 4) (v := .int 0) (C := RX4) (T := TX4) (N := 13) hx hb htl inX4 hown hK hP 3 rfl rfl 5 (by decide) (htl _ fl_RX11_169) (fun _ h9 => h9) rfl dX11_who_41 ?_
      refine vp_callSi (mkSr (rest := []) ⟨hx, hb, hml, hown, htl⟩ hN hK (c_X11_isWithin l G cs a 0) (cS 2 htl lk_RX11_82 mT_X11_isWithin mN_RX11 mC_X11_isWithin ok_X11_isWithin rfl rfl ⟨(Nat.le_of_ble_eq_true rfl), (Nat.le_of_ble_eq_true rfl)⟩) rfl hl.1 rfl (Nat.le_of_ble_eq_true rfl) dX11_who_44 ⟨(Nat.le_of_ble_eq_true rfl), (Nat.le_of_ble_eq_true rfl)⟩) (fun r hw => ?_)
      obtain rfl : r = 0 := hw.1.trans (iw_0 _)
      refine lv_if_ne (tgt := 52) hx hb dX11_who_47 (by decide) (fun h => absurd (by decide) h) (fun _ => ?_)
      refine lv_iconst (v := (-1)) hx hb dX11_who_50 (by decide) ?_
      exact W.iret (v := (-1)) hx hb hr (fun t ht hW => ⟨⟨(-1), (), rfl, (by unfold sp_X11_who; rw [if_neg c_12, if_neg c_17]), ⟨fun k q h => by simp at h, va_K.moved hW.alike hK, ⟨fun i j p q h => by simp at h, fun k q h => by simp at h⟩⟩⟩, hS.F ht⟩) hS.2.2 dX11_who_51
    · refine lv_iconst (v := 1) hx hb dX11_who_20 (by decide) ?_
      refine lv_goto (tgt := 25) hx hb dX11_who_21 (by decide) ?_
      refine lv_istore (lv' := [(4, .int 1), (3, .ref aF), (0, .ref h0), (1, .int a), (2, .int b)]) hx hb dX11_who_25 hl (by decide) rfl (fun ls hl => ?_)
      refine lv_iload_n hx hb dX11_who_27 rfl (lv_at hl 3 rfl) ?_
      refine lv_iload hx hb dX11_who_28 (lv_at hl 0 rfl) ?_
      refine lv_if_eq (tgt := 40) hx hb dX11_who_30 (by decide) (fun h => absurd h (by decide)) (fun _ => ?_)
      refine lv_aload_n hx hb dX11_who_33 rfl (lv_at hl 1 rfl) ?_
      refine va_get (ci := 4) (v := .int 0) (C := RX4) (T := TX4) (N := 13) hx hb htl inX4 hown hK hP 3 rfl rfl 2 (by decide) (htl _ fl_RX11_160) (fun _ h9 => h9) rfl dX11_who_34 ?_
      refine lv_goto (tgt := 44) hx hb dX11_who_37 (by decide) ?_
      refine vp_callSi (mkSr (rest := []) ⟨hx, hb, hml, hown, htl⟩ hN hK (c_X11_isWithin l G cs a 0) (cS 2 htl lk_RX11_82 mT_X11_isWithin mN_RX11 mC_X11_isWithin ok_X11_isWithin rfl rfl ⟨(Nat.le_of_ble_eq_true rfl), (Nat.le_of_ble_eq_true rfl)⟩) rfl hl.1 rfl (Nat.le_of_ble_eq_true rfl) dX11_who_44 ⟨(Nat.le_of_ble_eq_true rfl), (Nat.le_of_ble_eq_true rfl)⟩) (fun r hw => ?_)
      obtain rfl : r = 0 := hw.1.trans (iw_0 _)
      refine lv_if_ne (tgt := 52) hx hb dX11_who_47 (by decide) (fun h => absurd (by decide) h) (fun _ => ?_)
      refine lv_iconst (v := (-1)) hx hb dX11_who_50 (by decide) ?_
      exact W.iret (v := (-1)) hx hb hr (fun t ht hW => ⟨⟨(-1), (), rfl, (by unfold sp_X11_who; rw [if_neg c_12, if_pos c_17]), ⟨fun k q h => by simp at h, va_K.moved hW.alike hK, ⟨fun i j p q h => by simp at h, fun k q h => by simp at h⟩⟩⟩, hS.F ht⟩) hS.2.2 dX11_who_51

def sp_X11_terms (a : Int32) (b : Int32) : Int32 := if (sp_X10_termCanBe a b) = 0 then (-1) else (sp_X11_settle (term0 a.toNatClampNeg))
set_option maxHeartbeats 1000000 in
set_option maxRecDepth 100000 in
theorem c_X11_terms (l : Launch) (G : va_G) (cs : Nat → ClassId) (h0 : Nat) (a : Int32) (b : Int32) (f_h0_0 : Value) (aS : Nat) (f_h0_2 : Value) (f_h0_3 : Value) (f_h0_4 : Value) (f_h0_5 : Value) (f_h0_6 : Value) (f_h0_7 : Value) (f_h0_8 : Value) (f_h0_9 : Value) (f_h0_10 : Value) (f_h0_11 : Value) (h1 : Nat) (lr : Int32) (rfs : Nat → Int32) (aW : Nat) (aD : Nat) (f_aS_2 : Value) (f_aS_3 : Value) (f_aS_4 : Value) (f_aW_0 : Value) (f_aW_1 : Value) (f_aW_2 : Value) (aT : Nat) (f_aW_4 : Value) (f_aW_5 : Value) (f_aW_6 : Value) (f_aD_0 : Value) (f_aD_1 : Value) (f_aD_2 : Value) (f_aD_3 : Value) (f_aD_4 : Value) (f_aD_5 : Value) (f_aD_6 : Value) (sz : Nat) : Met l yX11_terms (Cond.code yX11_terms cX11_terms 4 (some .int) :: gW) ({ frames := 1, cells := 0, slots := 0, locals := 21 }) (va_Pc [.ref h0, .int a, .int b] (Pre G cs [(h0, .inr (11, [f_h0_0, .ref aS, f_h0_2, f_h0_3, f_h0_4, f_h0_5, f_h0_6, f_h0_7, f_h0_8, f_h0_9, f_h0_10, f_h0_11, .ref h1, .int lr])), (h1, .inl (cs 0, 7, .inl rfs)), (aS, .inr (7, [.ref aW, .ref aD, f_aS_2, f_aS_3, f_aS_4])), (aW, .inr (10, [f_aW_0, f_aW_1, f_aW_2, .ref aT, f_aW_4, f_aW_5, f_aW_6])), (aT, .inl (cs 0, 3, .inl term0)), (aD, .inr (2, [f_aD_0, f_aD_1, f_aD_2, f_aD_3, f_aD_4, f_aD_5, f_aD_6]))] sz)) (va_Qi (fun r (u : Unit) => r = sp_X11_terms a b) (fun (u : Unit) t => Aft G cs (va_A [(h0, .inr (11, [f_h0_0, .ref aS, f_h0_2, f_h0_3, f_h0_4, f_h0_5, f_h0_6, f_h0_7, f_h0_8, f_h0_9, f_h0_10, f_h0_11, .ref h1, .int lr])), (h1, .inl (cs 0, 7, .inl rfs)), (aS, .inr (7, [.ref aW, .ref aD, f_aS_2, f_aS_3, f_aS_4])), (aW, .inr (10, [f_aW_0, f_aW_1, f_aW_2, .ref aT, f_aW_4, f_aW_5, f_aW_6])), (aT, .inl (cs 0, 3, .inl term0)), (aD, .inr (2, [f_aD_0, f_aD_1, f_aD_2, f_aD_3, f_aD_4, f_aD_5, f_aD_6]))] sz) [] t) (va_A [(h0, .inr (11, [f_h0_0, .ref aS, f_h0_2, f_h0_3, f_h0_4, f_h0_5, f_h0_6, f_h0_7, f_h0_8, f_h0_9, f_h0_10, f_h0_11, .ref h1, .int lr])), (h1, .inl (cs 0, 7, .inl rfs)), (aS, .inr (7, [.ref aW, .ref aD, f_aS_2, f_aS_3, f_aS_4])), (aW, .inr (10, [f_aW_0, f_aW_1, f_aW_2, .ref aT, f_aW_4, f_aW_5, f_aW_6])), (aT, .inl (cs 0, 3, .inl term0)), (aD, .inr (2, [f_aD_0, f_aD_1, f_aD_2, f_aD_3, f_aD_4, f_aD_5, f_aD_6]))] sz)) 0 0 (va_A [(h0, .inr (11, [f_h0_0, .ref aS, f_h0_2, f_h0_3, f_h0_4, f_h0_5, f_h0_6, f_h0_7, f_h0_8, f_h0_9, f_h0_10, f_h0_11, .ref h1, .int lr])), (h1, .inl (cs 0, 7, .inl rfs)), (aS, .inr (7, [.ref aW, .ref aD, f_aS_2, f_aS_3, f_aS_4])), (aW, .inr (10, [f_aW_0, f_aW_1, f_aW_2, .ref aT, f_aW_4, f_aW_5, f_aW_6])), (aT, .inl (cs 0, 3, .inl term0)), (aD, .inr (2, [f_aD_0, f_aD_1, f_aD_2, f_aD_3, f_aD_4, f_aD_5, f_aD_6]))] sz) := by
  refine Met.ofW (cc := cX11_terms) (maxL := 4) (ret := (some .int)) (by decide) rfl ?_
  intro p e s m args below meth c s₁ B hml hv
  obtain ⟨rfl, hsz, hP, hK, hD0, hN⟩ := hv
  have hx := B.exec
  have hb := B.bytes
  have hr := B.returns
  have hts := atoms_spec (ws := Cond.code yX11_terms cX11_terms 4 (some .int) :: gW) B.pre
  have htl : ∀ w ∈ gW, w.before _ s = true := fun w h => hts w (List.mem_cons_of_mem _ h)
  have hown : s.vm.findClass RX11 = some m.cls := findClass_of_methodNamed B.named
  have hlocks := B.notSynchronized
  subst hsz
  have hD := hD0.self (sz := s.heap.size)
  generalize hAe : va_A [(h0, .inr (11, [f_h0_0, .ref aS, f_h0_2, f_h0_3, f_h0_4, f_h0_5, f_h0_6, f_h0_7, f_h0_8, f_h0_9, f_h0_10, f_h0_11, .ref h1, .int lr])), (h1, .inl (cs 0, 7, .inl rfs)), (aS, .inr (7, [.ref aW, .ref aD, f_aS_2, f_aS_3, f_aS_4])), (aW, .inr (10, [f_aW_0, f_aW_1, f_aW_2, .ref aT, f_aW_4, f_aW_5, f_aW_6])), (aT, .inl (cs 0, 3, .inl term0)), (aD, .inr (2, [f_aD_0, f_aD_1, f_aD_2, f_aD_3, f_aD_4, f_aD_5, f_aD_6]))] s.heap.size = A at hD ⊢
  have hA : ∀ q : Nat, s.heap.size ≤ q → A q := fun q h => by rw [← hAe]; exact Or.inr h
  have hS : va_S A s.heap s.heap [] := va_S.rf
  have hl := lv_entry ([.ref h0, .int a, .int b]) (n := 4) (Nat.le_of_ble_eq_true rfl)
  rw [lg_entry_eq]
  generalize (lg_sl ([.ref h0, .int a, .int b]) ++ List.replicate (4 - (lg_sl ([.ref h0, .int a, .int b])).length) Slot.unset).toArray = ls at hl ⊢
  have hl : lv_has ls 4 [(0, .ref h0), (1, .int a), (2, .int b)] := hl
  refine lv_iload_n hx hb dX11_terms_0 rfl (lv_at hl 1 rfl) ?_
  refine lv_iload_n hx hb dX11_terms_1 rfl (lv_at hl 2 rfl) ?_
  refine vp_callSi (mkSr (rest := []) ⟨hx, hb, hml, hown, htl⟩ hN hK (c_X10_termCanBe l G cs a b) (cS 2 htl lk_RX11_190 mT_X10_termCanBe mN_RX10 mC_X10_termCanBe ok_X10_termCanBe rfl rfl ⟨(Nat.le_of_ble_eq_true rfl), (Nat.le_of_ble_eq_true rfl)⟩) rfl hl.1 rfl (Nat.le_of_ble_eq_true rfl) dX11_terms_2 ⟨(Nat.le_of_ble_eq_true rfl), (Nat.le_of_ble_eq_true rfl)⟩) (fun r hw => ?_)
  obtain ⟨rfl, hz_1⟩ := hw
  refine lv_if_ne (tgt := 14) hx hb dX11_terms_5 (by decide) (fun c_5 => ?_) (fun c_5 => ?_)
  · refine lv_aload_n hx hb dX11_terms_14 rfl (lv_at hl 0 rfl) ?_
    refine va_get (ci := 11) (v := .ref aS) (C := RX11) (T := TX11) (N := 14) hx hb htl inX11 hown hK hP 0 rfl rfl 1 (by decide) (htl _ fl_RX11_21) (fun _ h9 => h9) rfl dX11_terms_15 ?_
    refine va_get (ci := 7) (v := .ref aW) (C := RX7) (T := TX7) (N := 5) hx hb htl inX7 hown hK hP 2 rfl rfl 0 (by decide) (htl _ fl_RX11_78) (fun _ h9 => h9) rfl dX11_terms_18 ?_
    refine va_get (ci := 10) (v := .ref aT) (C := RX10) (T := TX10) (N := 7) hx hb htl inX10 hown hK hP 3 rfl rfl 3 (by decide) (htl _ fl_RX11_193) (fun _ h9 => h9) rfl dX11_terms_21 ?_
    refine lv_iload_n hx hb dX11_terms_24 rfl (lv_at hl 1 rfl) ?_
    refine va_iald hx hb hK hP 4 0 rfl rfl (tc_in c_5) dX11_terms_25 ?_
    refine lv_istore_n (lv' := [(3, .int (term0 a.toNatClampNeg)), (0, .ref h0), (1, .int a), (2, .int b)]) hx hb dX11_terms_26 rfl hl (by decide) rfl (fun ls hl => ?_)
    refine lv_aload_n hx hb dX11_terms_27 rfl (lv_at hl 1 rfl) ?_
    refine va_get (ci := 11) (v := .ref aS) (C := RX11) (T := TX11) (N := 14) hx hb htl inX11 hown hK hP 0 rfl rfl 1 (by decide) (htl _ fl_RX11_21) (fun _ h9 => h9) rfl dX11_terms_28 ?_
    refine va_get (ci := 7) (v := .ref aW) (C := RX7) (T := TX7) (N := 5) hx hb htl inX7 hown hK hP 2 rfl rfl 0 (by decide) (htl _ fl_RX11_78) (fun _ h9 => h9) rfl dX11_terms_31 ?_
    refine va_get (ci := 10) (v := .ref aT) (C := RX10) (T := TX10) (N := 7) hx hb htl inX10 hown hK hP 3 rfl rfl 3 (by decide) (htl _ fl_RX11_193) (fun _ h9 => h9) rfl dX11_terms_34 ?_
    refine lv_iload_n hx hb dX11_terms_37 rfl (lv_at hl 2 rfl) ?_
    refine lv_iload_n hx hb dX11_terms_38 rfl (lv_at hl 3 rfl) ?_
    refine va_iast hx hb hK hP hD hS 4 0 rfl rfl (tc_in c_5) dX11_terms_39 (fun H locs hP hD hS => ?_)
    have hP : va_P G vwCl [(h0, .inr (11, [f_h0_0, .ref aS, f_h0_2, f_h0_3, f_h0_4, f_h0_5, f_h0_6, f_h0_7, f_h0_8, f_h0_9, f_h0_10, f_h0_11, .ref h1, .int lr])), (h1, .inl (cs 0, 7, .inl rfs)), (aS, .inr (7, [.ref aW, .ref aD, f_aS_2, f_aS_3, f_aS_4])), (aW, .inr (10, [f_aW_0, f_aW_1, f_aW_2, .ref aT, f_aW_4, f_aW_5, f_aW_6])), (aT, .inl (cs 0, 3, .inl (upd term0 a.toNatClampNeg b))), (aD, .inr (2, [f_aD_0, f_aD_1, f_aD_2, f_aD_3, f_aD_4, f_aD_5, f_aD_6]))] H := hP
    have hD : va_D A [(h0, .inr (11, [f_h0_0, .ref aS, f_h0_2, f_h0_3, f_h0_4, f_h0_5, f_h0_6, f_h0_7, f_h0_8, f_h0_9, f_h0_10, f_h0_11, .ref h1, .int lr])), (h1, .inl (cs 0, 7, .inl rfs)), (aS, .inr (7, [.ref aW, .ref aD, f_aS_2, f_aS_3, f_aS_4])), (aW, .inr (10, [f_aW_0, f_aW_1, f_aW_2, .ref aT, f_aW_4, f_aW_5, f_aW_6])), (aT, .inl (cs 0, 3, .inl (upd term0 a.toNatClampNeg b))), (aD, .inr (2, [f_aD_0, f_aD_1, f_aD_2, f_aD_3, f_aD_4, f_aD_5, f_aD_6]))] := hD
    refine lv_aload_n hx hb dX11_terms_40 rfl (lv_at hl 1 rfl) ?_
    refine va_get (ci := 11) (v := .ref aS) (C := RX11) (T := TX11) (N := 14) hx hb htl inX11 hown hK hP 0 rfl rfl 1 (by decide) (htl _ fl_RX11_21) (fun _ h9 => h9) rfl dX11_terms_41 ?_
    refine va_get (ci := 7) (v := .ref aD) (C := RX7) (T := TX7) (N := 5) hx hb htl inX7 hown hK hP 2 rfl rfl 1 (by decide) (htl _ fl_RX11_107) (fun _ h9 => h9) rfl dX11_terms_44 ?_
    refine mv (wr := [(h0, .inr (11, [f_h0_0, .ref aS, f_h0_2, f_h0_3, f_h0_4, f_h0_5, f_h0_6, f_h0_7, f_h0_8, f_h0_9, f_h0_10, f_h0_11, .ref h1, .int lr])), (h1, .inl (cs 0, 7, .inl rfs)), (aS, .inr (7, [.ref aW, .ref aD, f_aS_2, f_aS_3, f_aS_4])), (aW, .inr (10, [f_aW_0, f_aW_1, f_aW_2, .ref aT, f_aW_4, f_aW_5, f_aW_6])), (aT, .inl (cs 0, 3, .inl (upd term0 a.toNatClampNeg b)))]) (mkV (rest := []) ⟨hx, hb, hml, hown, htl⟩ hN hK hP hD (c_X2_clear l G cs aD f_aD_0 f_aD_1 f_aD_2 f_aD_3 f_aD_4 f_aD_5 f_aD_6 _) [5] rfl rfl 0 2 rfl rfl (cV 0 htl lk_RX11_111 mI_X2_clear mS_X2_clear mN_RX2 mC_X2_clear ok_X2_clear rfl rfl ⟨(Nat.le_of_ble_eq_true rfl), (Nat.le_of_ble_eq_true rfl)⟩) rfl hl.1 rfl (Nat.le_of_ble_eq_true rfl) dX11_terms_47 ⟨(Nat.le_of_ble_eq_true rfl), (Nat.le_of_ble_eq_true rfl)⟩) hP hD hS hA [5] [0, 1, 2, 3, 4] rfl rfl rfl (by decide) (fun u_47 H locs hw hP hD hS => ?_)
    have hP : va_P G vwCl [(h0, .inr (11, [f_h0_0, .ref aS, f_h0_2, f_h0_3, f_h0_4, f_h0_5, f_h0_6, f_h0_7, f_h0_8, f_h0_9, f_h0_10, f_h0_11, .ref h1, .int lr])), (h1, .inl (cs 0, 7, .inl rfs)), (aS, .inr (7, [.ref aW, .ref aD, f_aS_2, f_aS_3, f_aS_4])), (aW, .inr (10, [f_aW_0, f_aW_1, f_aW_2, .ref aT, f_aW_4, f_aW_5, f_aW_6])), (aT, .inl (cs 0, 3, .inl (upd term0 a.toNatClampNeg b))), (aD, .inr (2, [f_aD_0, f_aD_1, f_aD_2, f_aD_3, f_aD_4, .int 0, f_aD_6]))] H := hP
    have hD : va_D A [(h0, .inr (11, [f_h0_0, .ref aS, f_h0_2, f_h0_3, f_h0_4, f_h0_5, f_h0_6, f_h0_7, f_h0_8, f_h0_9, f_h0_10, f_h0_11, .ref h1, .int lr])), (h1, .inl (cs 0, 7, .inl rfs)), (aS, .inr (7, [.ref aW, .ref aD, f_aS_2, f_aS_3, f_aS_4])), (aW, .inr (10, [f_aW_0, f_aW_1, f_aW_2, .ref aT, f_aW_4, f_aW_5, f_aW_6])), (aT, .inl (cs 0, 3, .inl (upd term0 a.toNatClampNeg b))), (aD, .inr (2, [f_aD_0, f_aD_1, f_aD_2, f_aD_3, f_aD_4, .int 0, f_aD_6]))] := hD
    refine lv_aload_n hx hb dX11_terms_50 rfl (lv_at hl 1 rfl) ?_
    refine lv_iload_n hx hb dX11_terms_51 rfl (lv_at hl 0 rfl) ?_
    refine mi (wr := [(aS, .inr (7, [.ref aW, .ref aD, f_aS_2, f_aS_3, f_aS_4])), (aW, .inr (10, [f_aW_0, f_aW_1, f_aW_2, .ref aT, f_aW_4, f_aW_5, f_aW_6])), (aT, .inl (cs 0, 3, .inl (upd term0 a.toNatClampNeg b))), (aD, .inr (2, [f_aD_0, f_aD_1, f_aD_2, f_aD_3, f_aD_4, .int 0, f_aD_6]))]) (mkV (rest := []) ⟨hx, hb, hml, hown, htl⟩ hN hK hP hD (c_X11_settle l G cs h0 (term0 a.toNatClampNeg) f_h0_0 (.ref aS) f_h0_2 f_h0_3 f_h0_4 f_h0_5 f_h0_6 f_h0_7 f_h0_8 f_h0_9 f_h0_10 f_h0_11 h1 lr (rfs) _ (tc_ge _)) [0, 1] rfl rfl 0 11 rfl rfl (cV 1 htl lk_RX11_91 mI_X11_settle mS_X11_settle mN_RX11 mC_X11_settle ok_X11_settle rfl rfl ⟨(Nat.le_of_ble_eq_true rfl), (Nat.le_of_ble_eq_true rfl)⟩) rfl hl.1 rfl (Nat.le_of_ble_eq_true rfl) dX11_terms_52 ⟨(Nat.le_of_ble_eq_true rfl), (Nat.le_of_ble_eq_true rfl)⟩) hP hD hS hA [0, 1] [2, 3, 4, 5] rfl rfl rfl (by decide) (fun r u_52 H locs hw hP hD hS => ?_)
    have hP : va_P G vwCl [(aS, .inr (7, [.ref aW, .ref aD, f_aS_2, f_aS_3, f_aS_4])), (aW, .inr (10, [f_aW_0, f_aW_1, f_aW_2, .ref aT, f_aW_4, f_aW_5, f_aW_6])), (aT, .inl (cs 0, 3, .inl (upd term0 a.toNatClampNeg b))), (aD, .inr (2, [f_aD_0, f_aD_1, f_aD_2, f_aD_3, f_aD_4, .int 0, f_aD_6]))] H := hP
    have hD : va_D A [(aS, .inr (7, [.ref aW, .ref aD, f_aS_2, f_aS_3, f_aS_4])), (aW, .inr (10, [f_aW_0, f_aW_1, f_aW_2, .ref aT, f_aW_4, f_aW_5, f_aW_6])), (aT, .inl (cs 0, 3, .inl (upd term0 a.toNatClampNeg b))), (aD, .inr (2, [f_aD_0, f_aD_1, f_aD_2, f_aD_3, f_aD_4, .int 0, f_aD_6]))] := hD
    subst hw
    exact W.iret (v := (sp_X11_settle (term0 a.toNatClampNeg))) hx hb hr (fun t ht hW => ⟨⟨(sp_X11_settle (term0 a.toNatClampNeg)), (), rfl, (by unfold sp_X11_terms; rw [if_neg c_5]), ⟨fun k q h => by simp at h, va_K.moved hW.alike hK, ⟨fun i j p q h => by simp at h, fun k q h => by simp at h⟩⟩⟩, hS.F ht⟩) hS.2.2 dX11_terms_55
  · refine lv_aload_n hx hb dX11_terms_8 rfl (lv_at hl 0 rfl) ?_
    refine lv_iconst (v := (-1)) hx hb dX11_terms_9 (by decide) ?_
    refine mi (wr := [(aS, .inr (7, [.ref aW, .ref aD, f_aS_2, f_aS_3, f_aS_4])), (aW, .inr (10, [f_aW_0, f_aW_1, f_aW_2, .ref aT, f_aW_4, f_aW_5, f_aW_6])), (aT, .inl (cs 0, 3, .inl term0)), (aD, .inr (2, [f_aD_0, f_aD_1, f_aD_2, f_aD_3, f_aD_4, f_aD_5, f_aD_6]))]) (mkV (rest := []) ⟨hx, hb, hml, hown, htl⟩ hN hK hP hD (c_X11_settle l G cs h0 (-1) f_h0_0 (.ref aS) f_h0_2 f_h0_3 f_h0_4 f_h0_5 f_h0_6 f_h0_7 f_h0_8 f_h0_9 f_h0_10 f_h0_11 h1 lr (rfs) _ (by decide)) [0, 1] rfl rfl 0 11 rfl rfl (cV 1 htl lk_RX11_91 mI_X11_settle mS_X11_settle mN_RX11 mC_X11_settle ok_X11_settle rfl rfl ⟨(Nat.le_of_ble_eq_true rfl), (Nat.le_of_ble_eq_true rfl)⟩) rfl hl.1 rfl (Nat.le_of_ble_eq_true rfl) dX11_terms_10 ⟨(Nat.le_of_ble_eq_true rfl), (Nat.le_of_ble_eq_true rfl)⟩) hP hD hS hA [0, 1] [2, 3, 4, 5] rfl rfl rfl (by decide) (fun r u_10 H locs hw hP hD hS => ?_)
    have hP : va_P G vwCl [(aS, .inr (7, [.ref aW, .ref aD, f_aS_2, f_aS_3, f_aS_4])), (aW, .inr (10, [f_aW_0, f_aW_1, f_aW_2, .ref aT, f_aW_4, f_aW_5, f_aW_6])), (aT, .inl (cs 0, 3, .inl term0)), (aD, .inr (2, [f_aD_0, f_aD_1, f_aD_2, f_aD_3, f_aD_4, f_aD_5, f_aD_6]))] H := hP
    have hD : va_D A [(aS, .inr (7, [.ref aW, .ref aD, f_aS_2, f_aS_3, f_aS_4])), (aW, .inr (10, [f_aW_0, f_aW_1, f_aW_2, .ref aT, f_aW_4, f_aW_5, f_aW_6])), (aT, .inl (cs 0, 3, .inl term0)), (aD, .inr (2, [f_aD_0, f_aD_1, f_aD_2, f_aD_3, f_aD_4, f_aD_5, f_aD_6]))] := hD
    obtain rfl : r = (-1) := hw.trans (by unfold sp_X11_settle; (try rw [if_neg (by decide), if_neg (by decide)]) <;> first | rfl | decide)
    exact W.iret (v := (-1)) hx hb hr (fun t ht hW => ⟨⟨(-1), (), rfl, (by unfold sp_X11_terms; rw [if_pos c_5]), ⟨fun k q h => by simp at h, va_K.moved hW.alike hK, ⟨fun i j p q h => by simp at h, fun k q h => by simp at h⟩⟩⟩, hS.F ht⟩) hS.2.2 dX11_terms_13

def sp_X11_row : Int32 := (-6)
set_option maxHeartbeats 1000000 in
set_option maxRecDepth 100000 in
theorem c_X11_row (l : Launch) (G : va_G) (cs : Nat → ClassId) (h0 : Nat) (f_h0_0 : Value) (f_h0_1 : Value) (f_h0_2 : Value) (f_h0_3 : Value) (f_h0_4 : Value) (aQ : Nat) (f_h0_6 : Value) (f_h0_7 : Value) (f_h0_8 : Value) (f_h0_9 : Value) (f_h0_10 : Value) (f_h0_11 : Value) (h1 : Nat) (lr : Int32) (rfs : Nat → Int32) (f_aQ_0 : Value) (f_aQ_2 : Value) (f_aQ_3 : Value) (f_aQ_4 : Value) (f_aQ_5 : Value) (f_aQ_6 : Value) (f_aQ_7 : Value) (f_aQ_8 : Value) (f_aQ_9 : Value) (sz : Nat) : Met l yX11_row (Cond.code yX11_row cX11_row 4 (some .int) :: gW) ({ frames := 1, cells := 0, slots := 0, locals := 21 }) (va_Pc [.ref h0] (Pre G cs [(h0, .inr (11, [f_h0_0, f_h0_1, f_h0_2, f_h0_3, f_h0_4, .ref aQ, f_h0_6, f_h0_7, f_h0_8, f_h0_9, f_h0_10, f_h0_11, .ref h1, .int lr])), (h1, .inl (cs 0, 7, .inl rfs)), (aQ, .inr (5, [f_aQ_0, .int 0, f_aQ_2, f_aQ_3, f_aQ_4, f_aQ_5, f_aQ_6, f_aQ_7, f_aQ_8, f_aQ_9]))] sz)) (va_Qi (fun r (u : Unit) => r = sp_X11_row) (fun (u : Unit) t => Aft G cs (va_A [(h0, .inr (11, [f_h0_0, f_h0_1, f_h0_2, f_h0_3, f_h0_4, .ref aQ, f_h0_6, f_h0_7, f_h0_8, f_h0_9, f_h0_10, f_h0_11, .ref h1, .int lr])), (h1, .inl (cs 0, 7, .inl rfs)), (aQ, .inr (5, [f_aQ_0, .int 0, f_aQ_2, f_aQ_3, f_aQ_4, f_aQ_5, f_aQ_6, f_aQ_7, f_aQ_8, f_aQ_9]))] sz) [] t) (va_A [(h0, .inr (11, [f_h0_0, f_h0_1, f_h0_2, f_h0_3, f_h0_4, .ref aQ, f_h0_6, f_h0_7, f_h0_8, f_h0_9, f_h0_10, f_h0_11, .ref h1, .int lr])), (h1, .inl (cs 0, 7, .inl rfs)), (aQ, .inr (5, [f_aQ_0, .int 0, f_aQ_2, f_aQ_3, f_aQ_4, f_aQ_5, f_aQ_6, f_aQ_7, f_aQ_8, f_aQ_9]))] sz)) 0 0 (va_A [(h0, .inr (11, [f_h0_0, f_h0_1, f_h0_2, f_h0_3, f_h0_4, .ref aQ, f_h0_6, f_h0_7, f_h0_8, f_h0_9, f_h0_10, f_h0_11, .ref h1, .int lr])), (h1, .inl (cs 0, 7, .inl rfs)), (aQ, .inr (5, [f_aQ_0, .int 0, f_aQ_2, f_aQ_3, f_aQ_4, f_aQ_5, f_aQ_6, f_aQ_7, f_aQ_8, f_aQ_9]))] sz) := by
  refine Met.ofW (cc := cX11_row) (maxL := 4) (ret := (some .int)) (by decide) rfl ?_
  intro p e s m args below meth c s₁ B hml hv
  obtain ⟨rfl, hsz, hP, hK, hD0, hN⟩ := hv
  have hx := B.exec
  have hb := B.bytes
  have hr := B.returns
  have hts := atoms_spec (ws := Cond.code yX11_row cX11_row 4 (some .int) :: gW) B.pre
  have htl : ∀ w ∈ gW, w.before _ s = true := fun w h => hts w (List.mem_cons_of_mem _ h)
  have hown : s.vm.findClass RX11 = some m.cls := findClass_of_methodNamed B.named
  have hlocks := B.notSynchronized
  subst hsz
  have hD := hD0.self (sz := s.heap.size)
  generalize hAe : va_A [(h0, .inr (11, [f_h0_0, f_h0_1, f_h0_2, f_h0_3, f_h0_4, .ref aQ, f_h0_6, f_h0_7, f_h0_8, f_h0_9, f_h0_10, f_h0_11, .ref h1, .int lr])), (h1, .inl (cs 0, 7, .inl rfs)), (aQ, .inr (5, [f_aQ_0, .int 0, f_aQ_2, f_aQ_3, f_aQ_4, f_aQ_5, f_aQ_6, f_aQ_7, f_aQ_8, f_aQ_9]))] s.heap.size = A at hD ⊢
  have hA : ∀ q : Nat, s.heap.size ≤ q → A q := fun q h => by rw [← hAe]; exact Or.inr h
  have hS : va_S A s.heap s.heap [] := va_S.rf
  have hl := lv_entry ([.ref h0]) (n := 4) (Nat.le_of_ble_eq_true rfl)
  rw [lg_entry_eq]
  generalize (lg_sl ([.ref h0]) ++ List.replicate (4 - (lg_sl ([.ref h0])).length) Slot.unset).toArray = ls at hl ⊢
  have hl : lv_has ls 4 [(0, .ref h0)] := hl
  refine lv_aload_n hx hb dX11_row_0 rfl (lv_at hl 0 rfl) ?_
  refine va_get (ci := 11) (v := .ref aQ) (C := RX11) (T := TX11) (N := 14) hx hb htl inX11 hown hK hP 0 rfl rfl 5 (by decide) (htl _ fl_RX11_42) (fun _ h9 => h9) rfl dX11_row_1 ?_
  refine va_get (ci := 5) (v := .int 0) (C := RX5) (T := TX5) (N := 10) hx hb htl inX5 hown hK hP 2 rfl rfl 1 (by decide) (htl _ fl_RX11_196) (fun _ h9 => h9) rfl dX11_row_4 ?_
  refine lv_if_ne (tgt := 17) hx hb dX11_row_7 (by decide) (fun h => absurd (by decide) h) (fun _ => ?_)
  refine lv_aload_n hx hb dX11_row_10 rfl (lv_at hl 0 rfl) ?_
  refine lv_bipush (v := (-6)) hx hb dX11_row_11 (by decide) ?_
  refine mi (wr := [(aQ, .inr (5, [f_aQ_0, .int 0, f_aQ_2, f_aQ_3, f_aQ_4, f_aQ_5, f_aQ_6, f_aQ_7, f_aQ_8, f_aQ_9]))]) (mkV (rest := []) ⟨hx, hb, hml, hown, htl⟩ hN hK hP hD (c_X11_settle l G cs h0 (-6) f_h0_0 f_h0_1 f_h0_2 f_h0_3 f_h0_4 (.ref aQ) f_h0_6 f_h0_7 f_h0_8 f_h0_9 f_h0_10 f_h0_11 h1 lr (rfs) _ (by decide)) [0, 1] rfl rfl 0 11 rfl rfl (cV 1 htl lk_RX11_91 mI_X11_settle mS_X11_settle mN_RX11 mC_X11_settle ok_X11_settle rfl rfl ⟨(Nat.le_of_ble_eq_true rfl), (Nat.le_of_ble_eq_true rfl)⟩) rfl hl.1 rfl (Nat.le_of_ble_eq_true rfl) dX11_row_13 ⟨(Nat.le_of_ble_eq_true rfl), (Nat.le_of_ble_eq_true rfl)⟩) hP hD hS hA [0, 1] [2] rfl rfl rfl (by decide) (fun r u_13 H locs hw hP hD hS => ?_)
  have hP : va_P G vwCl [(aQ, .inr (5, [f_aQ_0, .int 0, f_aQ_2, f_aQ_3, f_aQ_4, f_aQ_5, f_aQ_6, f_aQ_7, f_aQ_8, f_aQ_9]))] H := hP
  have hD : va_D A [(aQ, .inr (5, [f_aQ_0, .int 0, f_aQ_2, f_aQ_3, f_aQ_4, f_aQ_5, f_aQ_6, f_aQ_7, f_aQ_8, f_aQ_9]))] := hD
  obtain rfl : r = (-6) := hw.trans (by unfold sp_X11_settle; (try rw [if_neg (by decide), if_neg (by decide)]) <;> first | rfl | decide)
  exact W.iret (v := (-6)) hx hb hr (fun t ht hW => ⟨⟨(-6), (), rfl, rfl, ⟨fun k q h => by simp at h, va_K.moved hW.alike hK, ⟨fun i j p q h => by simp at h, fun k q h => by simp at h⟩⟩⟩, hS.F ht⟩) hS.2.2 dX11_row_16

def sp_X11_mud : Int32 := 0
set_option maxHeartbeats 1000000 in
set_option maxRecDepth 100000 in
theorem c_X11_mud (l : Launch) (G : va_G) (cs : Nat → ClassId) (h0 : Nat) (f_h0_0 : Value) (f_h0_1 : Value) (f_h0_2 : Value) (f_h0_3 : Value) (f_h0_4 : Value) (f_h0_5 : Value) (f_h0_6 : Value) (f_h0_7 : Value) (f_h0_8 : Value) (f_h0_9 : Value) (f_h0_11 : Value) (h1 : Nat) (lr : Int32) (sz : Nat) : Met l yX11_mud (Cond.code yX11_mud cX11_mud 1 (some .int) :: gW) ({ frames := 0, cells := 0, slots := 0, locals := 0 }) (va_Pc [.ref h0] (Pre G cs [(h0, .inr (11, [f_h0_0, f_h0_1, f_h0_2, f_h0_3, f_h0_4, f_h0_5, f_h0_6, f_h0_7, f_h0_8, f_h0_9, .int 0, f_h0_11, .ref h1, .int lr]))] sz)) (va_Qi (fun r (u : Unit) => r = sp_X11_mud) (fun (u : Unit) t => Aft G cs (va_A [(h0, .inr (11, [f_h0_0, f_h0_1, f_h0_2, f_h0_3, f_h0_4, f_h0_5, f_h0_6, f_h0_7, f_h0_8, f_h0_9, .int 0, f_h0_11, .ref h1, .int lr]))] sz) [] t) (va_A [(h0, .inr (11, [f_h0_0, f_h0_1, f_h0_2, f_h0_3, f_h0_4, f_h0_5, f_h0_6, f_h0_7, f_h0_8, f_h0_9, .int 0, f_h0_11, .ref h1, .int lr]))] sz)) 0 0 (va_A [(h0, .inr (11, [f_h0_0, f_h0_1, f_h0_2, f_h0_3, f_h0_4, f_h0_5, f_h0_6, f_h0_7, f_h0_8, f_h0_9, .int 0, f_h0_11, .ref h1, .int lr]))] sz) := by
  refine Met.ofW (cc := cX11_mud) (maxL := 1) (ret := (some .int)) (by decide) rfl ?_
  intro p e s m args below meth c s₁ B hml hv
  obtain ⟨rfl, hsz, hP, hK, hD0, hN⟩ := hv
  have hx := B.exec
  have hb := B.bytes
  have hr := B.returns
  have hts := atoms_spec (ws := Cond.code yX11_mud cX11_mud 1 (some .int) :: gW) B.pre
  have htl : ∀ w ∈ gW, w.before _ s = true := fun w h => hts w (List.mem_cons_of_mem _ h)
  have hown : s.vm.findClass RX11 = some m.cls := findClass_of_methodNamed B.named
  have hlocks := B.notSynchronized
  subst hsz
  have hD := hD0.self (sz := s.heap.size)
  generalize hAe : va_A [(h0, .inr (11, [f_h0_0, f_h0_1, f_h0_2, f_h0_3, f_h0_4, f_h0_5, f_h0_6, f_h0_7, f_h0_8, f_h0_9, .int 0, f_h0_11, .ref h1, .int lr]))] s.heap.size = A at hD ⊢
  have hA : ∀ q : Nat, s.heap.size ≤ q → A q := fun q h => by rw [← hAe]; exact Or.inr h
  have hS : va_S A s.heap s.heap [] := va_S.rf
  have hl := lv_entry ([.ref h0]) (n := 1) (Nat.le_of_ble_eq_true rfl)
  rw [lg_entry_eq]
  generalize (lg_sl ([.ref h0]) ++ List.replicate (1 - (lg_sl ([.ref h0])).length) Slot.unset).toArray = ls at hl ⊢
  have hl : lv_has ls 1 [(0, .ref h0)] := hl
  refine lv_aload_n hx hb dX11_mud_0 rfl (lv_at hl 0 rfl) ?_
  refine va_get (ci := 11) (v := .int 0) (C := RX11) (T := TX11) (N := 14) hx hb htl inX11 hown hK hP 0 rfl rfl 10 (by decide) (htl _ fl_RX11_206) (fun _ h9 => h9) rfl dX11_mud_1 ?_
  exact W.iret (v := 0) hx hb hr (fun t ht hW => ⟨⟨0, (), rfl, rfl, ⟨fun k q h => by simp at h, va_K.moved hW.alike hK, ⟨fun i j p q h => by simp at h, fun k q h => by simp at h⟩⟩⟩, hS.F ht⟩) hS.2.2 dX11_mud_4

def sp_X11_end (a : Int32) : Int32 := if a < 0 then (-1) else (if a ≤ 0 then a else (-1))
set_option maxHeartbeats 1000000 in
set_option maxRecDepth 100000 in
theorem c_X11_end (l : Launch) (G : va_G) (cs : Nat → ClassId) (h0 : Nat) (a : Int32) (f_h0_0 : Value) (f_h0_1 : Value) (f_h0_2 : Value) (f_h0_3 : Value) (f_h0_4 : Value) (aQ : Nat) (f_h0_6 : Value) (f_h0_7 : Value) (f_h0_8 : Value) (f_h0_9 : Value) (f_h0_10 : Value) (f_h0_11 : Value) (h1 : Nat) (lr : Int32) (f_aQ_0 : Value) (f_aQ_2 : Value) (f_aQ_3 : Value) (f_aQ_4 : Value) (f_aQ_5 : Value) (f_aQ_6 : Value) (f_aQ_7 : Value) (f_aQ_8 : Value) (f_aQ_9 : Value) (sz : Nat) : Met l yX11_end (Cond.code yX11_end cX11_end 2 (some .int) :: gW) ({ frames := 0, cells := 0, slots := 0, locals := 0 }) (va_Pc [.ref h0, .int a] (Pre G cs [(h0, .inr (11, [f_h0_0, f_h0_1, f_h0_2, f_h0_3, f_h0_4, .ref aQ, f_h0_6, f_h0_7, f_h0_8, f_h0_9, f_h0_10, f_h0_11, .ref h1, .int lr])), (aQ, .inr (5, [f_aQ_0, .int 0, f_aQ_2, f_aQ_3, f_aQ_4, f_aQ_5, f_aQ_6, f_aQ_7, f_aQ_8, f_aQ_9]))] sz)) (va_Qi (fun r (u : Unit) => r = sp_X11_end a) (fun (u : Unit) t => Aft G cs (va_A [(h0, .inr (11, [f_h0_0, f_h0_1, f_h0_2, f_h0_3, f_h0_4, .ref aQ, f_h0_6, f_h0_7, f_h0_8, f_h0_9, f_h0_10, f_h0_11, .ref h1, .int lr])), (aQ, .inr (5, [f_aQ_0, .int 0, f_aQ_2, f_aQ_3, f_aQ_4, f_aQ_5, f_aQ_6, f_aQ_7, f_aQ_8, f_aQ_9]))] sz) [] t) (va_A [(h0, .inr (11, [f_h0_0, f_h0_1, f_h0_2, f_h0_3, f_h0_4, .ref aQ, f_h0_6, f_h0_7, f_h0_8, f_h0_9, f_h0_10, f_h0_11, .ref h1, .int lr])), (aQ, .inr (5, [f_aQ_0, .int 0, f_aQ_2, f_aQ_3, f_aQ_4, f_aQ_5, f_aQ_6, f_aQ_7, f_aQ_8, f_aQ_9]))] sz)) 0 0 (va_A [(h0, .inr (11, [f_h0_0, f_h0_1, f_h0_2, f_h0_3, f_h0_4, .ref aQ, f_h0_6, f_h0_7, f_h0_8, f_h0_9, f_h0_10, f_h0_11, .ref h1, .int lr])), (aQ, .inr (5, [f_aQ_0, .int 0, f_aQ_2, f_aQ_3, f_aQ_4, f_aQ_5, f_aQ_6, f_aQ_7, f_aQ_8, f_aQ_9]))] sz) := by
  refine Met.ofW (cc := cX11_end) (maxL := 2) (ret := (some .int)) (by decide) rfl ?_
  intro p e s m args below meth c s₁ B hml hv
  obtain ⟨rfl, hsz, hP, hK, hD0, hN⟩ := hv
  have hx := B.exec
  have hb := B.bytes
  have hr := B.returns
  have hts := atoms_spec (ws := Cond.code yX11_end cX11_end 2 (some .int) :: gW) B.pre
  have htl : ∀ w ∈ gW, w.before _ s = true := fun w h => hts w (List.mem_cons_of_mem _ h)
  have hown : s.vm.findClass RX11 = some m.cls := findClass_of_methodNamed B.named
  have hlocks := B.notSynchronized
  subst hsz
  have hD := hD0.self (sz := s.heap.size)
  generalize hAe : va_A [(h0, .inr (11, [f_h0_0, f_h0_1, f_h0_2, f_h0_3, f_h0_4, .ref aQ, f_h0_6, f_h0_7, f_h0_8, f_h0_9, f_h0_10, f_h0_11, .ref h1, .int lr])), (aQ, .inr (5, [f_aQ_0, .int 0, f_aQ_2, f_aQ_3, f_aQ_4, f_aQ_5, f_aQ_6, f_aQ_7, f_aQ_8, f_aQ_9]))] s.heap.size = A at hD ⊢
  have hA : ∀ q : Nat, s.heap.size ≤ q → A q := fun q h => by rw [← hAe]; exact Or.inr h
  have hS : va_S A s.heap s.heap [] := va_S.rf
  have hl := lv_entry ([.ref h0, .int a]) (n := 2) (Nat.le_of_ble_eq_true rfl)
  rw [lg_entry_eq]
  generalize (lg_sl ([.ref h0, .int a]) ++ List.replicate (2 - (lg_sl ([.ref h0, .int a])).length) Slot.unset).toArray = ls at hl ⊢
  have hl : lv_has ls 2 [(0, .ref h0), (1, .int a)] := hl
  refine lv_iload_n hx hb dX11_end_0 rfl (lv_at hl 1 rfl) ?_
  refine lv_if_lt (tgt := 15) hx hb dX11_end_1 (by decide) (fun c_1 => ?_) (fun c_1 => ?_)
  · refine lv_iconst (v := (-1)) hx hb dX11_end_15 (by decide) ?_
    exact W.iret (v := (-1)) hx hb hr (fun t ht hW => ⟨⟨(-1), (), rfl, (by unfold sp_X11_end; rw [if_pos c_1]), ⟨fun k q h => by simp at h, va_K.moved hW.alike hK, ⟨fun i j p q h => by simp at h, fun k q h => by simp at h⟩⟩⟩, hS.F ht⟩) hS.2.2 dX11_end_16
  · refine lv_iload_n hx hb dX11_end_4 rfl (lv_at hl 1 rfl) ?_
    refine lv_aload_n hx hb dX11_end_5 rfl (lv_at hl 0 rfl) ?_
    refine va_get (ci := 11) (v := .ref aQ) (C := RX11) (T := TX11) (N := 14) hx hb htl inX11 hown hK hP 0 rfl rfl 5 (by decide) (htl _ fl_RX11_42) (fun _ h9 => h9) rfl dX11_end_6 ?_
    refine va_get (ci := 5) (v := .int 0) (C := RX5) (T := TX5) (N := 10) hx hb htl inX5 hown hK hP 1 rfl rfl 1 (by decide) (htl _ fl_RX11_196) (fun _ h9 => h9) rfl dX11_end_9 ?_
    refine lv_icmp_le (tgt := 17) hx hb dX11_end_12 (by decide) (fun c_12 => ?_) (fun c_12 => ?_)
    · refine lv_aload_n hx hb dX11_end_17 rfl (lv_at hl 0 rfl) ?_
      refine va_get (ci := 11) (v := .ref aQ) (C := RX11) (T := TX11) (N := 14) hx hb htl inX11 hown hK hP 0 rfl rfl 5 (by decide) (htl _ fl_RX11_42) (fun _ h9 => h9) rfl dX11_end_18 ?_
      refine lv_iload_n hx hb dX11_end_21 rfl (lv_at hl 1 rfl) ?_
      refine va_put (ci := 5) (v := .int a) (ty := .int) (C := RX5) (T := TX5) (N := 10) hx hb htl inX5 tyX5 tyX5_ok nmX5 hown hK hP hD hS 1 rfl rfl 1 (by decide) (htl _ fl_RX11_196) (fun _ h9 => h9) rfl (by decide +kernel) (by first | rfl | decide) (by first | rfl | decide) (Nat.le_of_ble_eq_true rfl) dX11_end_22 (fun H locs hP hD hS => ?_)
      have hP : va_P G vwCl [(h0, .inr (11, [f_h0_0, f_h0_1, f_h0_2, f_h0_3, f_h0_4, .ref aQ, f_h0_6, f_h0_7, f_h0_8, f_h0_9, f_h0_10, f_h0_11, .ref h1, .int lr])), (aQ, .inr (5, [f_aQ_0, .int a, f_aQ_2, f_aQ_3, f_aQ_4, f_aQ_5, f_aQ_6, f_aQ_7, f_aQ_8, f_aQ_9]))] H := hP
      have hD : va_D A [(h0, .inr (11, [f_h0_0, f_h0_1, f_h0_2, f_h0_3, f_h0_4, .ref aQ, f_h0_6, f_h0_7, f_h0_8, f_h0_9, f_h0_10, f_h0_11, .ref h1, .int lr])), (aQ, .inr (5, [f_aQ_0, .int a, f_aQ_2, f_aQ_3, f_aQ_4, f_aQ_5, f_aQ_6, f_aQ_7, f_aQ_8, f_aQ_9]))] := hD
      refine lv_iload_n hx hb dX11_end_25 rfl (lv_at hl 1 rfl) ?_
      exact W.iret (v := a) hx hb hr (fun t ht hW => ⟨⟨a, (), rfl, (by unfold sp_X11_end; rw [if_neg c_1, if_pos c_12]), ⟨fun k q h => by simp at h, va_K.moved hW.alike hK, ⟨fun i j p q h => by simp at h, fun k q h => by simp at h⟩⟩⟩, hS.F ht⟩) hS.2.2 dX11_end_26
    · refine lv_iconst (v := (-1)) hx hb dX11_end_15 (by decide) ?_
      exact W.iret (v := (-1)) hx hb hr (fun t ht hW => ⟨⟨(-1), (), rfl, (by unfold sp_X11_end; rw [if_neg c_1, if_neg c_12]), ⟨fun k q h => by simp at h, va_K.moved hW.alike hK, ⟨fun i j p q h => by simp at h, fun k q h => by simp at h⟩⟩⟩, hS.F ht⟩) hS.2.2 dX11_end_16

def sp_X11_fault : Int32 := (-1)
set_option maxHeartbeats 1000000 in
set_option maxRecDepth 100000 in
theorem c_X11_fault (l : Launch) (G : va_G) (cs : Nat → ClassId) (h0 : Nat) (f_h0_0 : Value) (f_h0_1 : Value) (f_h0_2 : Value) (f_h0_3 : Value) (f_h0_4 : Value) (aQ : Nat) (f_h0_6 : Value) (f_h0_7 : Value) (f_h0_8 : Value) (f_h0_9 : Value) (f_h0_10 : Value) (f_h0_11 : Value) (h1 : Nat) (lr : Int32) (f_aQ_0 : Value) (f_aQ_1 : Value) (f_aQ_2 : Value) (f_aQ_3 : Value) (f_aQ_4 : Value) (f_aQ_5 : Value) (f_aQ_6 : Value) (f_aQ_7 : Value) (f_aQ_9 : Value) (sz : Nat) : Met l yX11_fault (Cond.code yX11_fault cX11_fault 1 (some .int) :: gW) ({ frames := 0, cells := 0, slots := 0, locals := 0 }) (va_Pc [.ref h0] (Pre G cs [(h0, .inr (11, [f_h0_0, f_h0_1, f_h0_2, f_h0_3, f_h0_4, .ref aQ, f_h0_6, f_h0_7, f_h0_8, f_h0_9, f_h0_10, f_h0_11, .ref h1, .int lr])), (aQ, .inr (5, [f_aQ_0, f_aQ_1, f_aQ_2, f_aQ_3, f_aQ_4, f_aQ_5, f_aQ_6, f_aQ_7, .int (-1), f_aQ_9]))] sz)) (va_Qi (fun r (u : Unit) => r = sp_X11_fault) (fun (u : Unit) t => Aft G cs (va_A [(h0, .inr (11, [f_h0_0, f_h0_1, f_h0_2, f_h0_3, f_h0_4, .ref aQ, f_h0_6, f_h0_7, f_h0_8, f_h0_9, f_h0_10, f_h0_11, .ref h1, .int lr])), (aQ, .inr (5, [f_aQ_0, f_aQ_1, f_aQ_2, f_aQ_3, f_aQ_4, f_aQ_5, f_aQ_6, f_aQ_7, .int (-1), f_aQ_9]))] sz) [] t) (va_A [(h0, .inr (11, [f_h0_0, f_h0_1, f_h0_2, f_h0_3, f_h0_4, .ref aQ, f_h0_6, f_h0_7, f_h0_8, f_h0_9, f_h0_10, f_h0_11, .ref h1, .int lr])), (aQ, .inr (5, [f_aQ_0, f_aQ_1, f_aQ_2, f_aQ_3, f_aQ_4, f_aQ_5, f_aQ_6, f_aQ_7, .int (-1), f_aQ_9]))] sz)) 0 0 (va_A [(h0, .inr (11, [f_h0_0, f_h0_1, f_h0_2, f_h0_3, f_h0_4, .ref aQ, f_h0_6, f_h0_7, f_h0_8, f_h0_9, f_h0_10, f_h0_11, .ref h1, .int lr])), (aQ, .inr (5, [f_aQ_0, f_aQ_1, f_aQ_2, f_aQ_3, f_aQ_4, f_aQ_5, f_aQ_6, f_aQ_7, .int (-1), f_aQ_9]))] sz) := by
  refine Met.ofW (cc := cX11_fault) (maxL := 1) (ret := (some .int)) (by decide) rfl ?_
  intro p e s m args below meth c s₁ B hml hv
  obtain ⟨rfl, hsz, hP, hK, hD0, hN⟩ := hv
  have hx := B.exec
  have hb := B.bytes
  have hr := B.returns
  have hts := atoms_spec (ws := Cond.code yX11_fault cX11_fault 1 (some .int) :: gW) B.pre
  have htl : ∀ w ∈ gW, w.before _ s = true := fun w h => hts w (List.mem_cons_of_mem _ h)
  have hown : s.vm.findClass RX11 = some m.cls := findClass_of_methodNamed B.named
  have hlocks := B.notSynchronized
  subst hsz
  have hD := hD0.self (sz := s.heap.size)
  generalize hAe : va_A [(h0, .inr (11, [f_h0_0, f_h0_1, f_h0_2, f_h0_3, f_h0_4, .ref aQ, f_h0_6, f_h0_7, f_h0_8, f_h0_9, f_h0_10, f_h0_11, .ref h1, .int lr])), (aQ, .inr (5, [f_aQ_0, f_aQ_1, f_aQ_2, f_aQ_3, f_aQ_4, f_aQ_5, f_aQ_6, f_aQ_7, .int (-1), f_aQ_9]))] s.heap.size = A at hD ⊢
  have hA : ∀ q : Nat, s.heap.size ≤ q → A q := fun q h => by rw [← hAe]; exact Or.inr h
  have hS : va_S A s.heap s.heap [] := va_S.rf
  have hl := lv_entry ([.ref h0]) (n := 1) (Nat.le_of_ble_eq_true rfl)
  rw [lg_entry_eq]
  generalize (lg_sl ([.ref h0]) ++ List.replicate (1 - (lg_sl ([.ref h0])).length) Slot.unset).toArray = ls at hl ⊢
  have hl : lv_has ls 1 [(0, .ref h0)] := hl
  refine lv_aload_n hx hb dX11_fault_0 rfl (lv_at hl 0 rfl) ?_
  refine va_get (ci := 11) (v := .ref aQ) (C := RX11) (T := TX11) (N := 14) hx hb htl inX11 hown hK hP 0 rfl rfl 5 (by decide) (htl _ fl_RX11_42) (fun _ h9 => h9) rfl dX11_fault_1 ?_
  refine va_get (ci := 5) (v := .int (-1)) (C := RX5) (T := TX5) (N := 10) hx hb htl inX5 hown hK hP 1 rfl rfl 8 (by decide) (htl _ fl_RX11_240) (fun _ h9 => h9) rfl dX11_fault_4 ?_
  exact W.iret (v := (-1)) hx hb hr (fun t ht hW => ⟨⟨(-1), (), rfl, rfl, ⟨fun k q h => by simp at h, va_K.moved hW.alike hK, ⟨fun i j p q h => by simp at h, fun k q h => by simp at h⟩⟩⟩, hS.F ht⟩) hS.2.2 dX11_fault_7

def sp_X11_stopped : Int32 := (-1)
set_option maxHeartbeats 1000000 in
set_option maxRecDepth 100000 in
theorem c_X11_stopped (l : Launch) (G : va_G) (cs : Nat → ClassId) (h0 : Nat) (f_h0_0 : Value) (f_h0_1 : Value) (f_h0_2 : Value) (f_h0_3 : Value) (f_h0_4 : Value) (f_h0_5 : Value) (f_h0_6 : Value) (f_h0_7 : Value) (f_h0_8 : Value) (f_h0_9 : Value) (f_h0_10 : Value) (h1 : Nat) (lr : Int32) (sz : Nat) : Met l yX11_stopped (Cond.code yX11_stopped cX11_stopped 1 (some .int) :: gW) ({ frames := 0, cells := 0, slots := 0, locals := 0 }) (va_Pc [.ref h0] (Pre G cs [(h0, .inr (11, [f_h0_0, f_h0_1, f_h0_2, f_h0_3, f_h0_4, f_h0_5, f_h0_6, f_h0_7, f_h0_8, f_h0_9, f_h0_10, .int (-1), .ref h1, .int lr]))] sz)) (va_Qi (fun r (u : Unit) => r = sp_X11_stopped) (fun (u : Unit) t => Aft G cs (va_A [(h0, .inr (11, [f_h0_0, f_h0_1, f_h0_2, f_h0_3, f_h0_4, f_h0_5, f_h0_6, f_h0_7, f_h0_8, f_h0_9, f_h0_10, .int (-1), .ref h1, .int lr]))] sz) [] t) (va_A [(h0, .inr (11, [f_h0_0, f_h0_1, f_h0_2, f_h0_3, f_h0_4, f_h0_5, f_h0_6, f_h0_7, f_h0_8, f_h0_9, f_h0_10, .int (-1), .ref h1, .int lr]))] sz)) 0 0 (va_A [(h0, .inr (11, [f_h0_0, f_h0_1, f_h0_2, f_h0_3, f_h0_4, f_h0_5, f_h0_6, f_h0_7, f_h0_8, f_h0_9, f_h0_10, .int (-1), .ref h1, .int lr]))] sz) := by
  refine Met.ofW (cc := cX11_stopped) (maxL := 1) (ret := (some .int)) (by decide) rfl ?_
  intro p e s m args below meth c s₁ B hml hv
  obtain ⟨rfl, hsz, hP, hK, hD0, hN⟩ := hv
  have hx := B.exec
  have hb := B.bytes
  have hr := B.returns
  have hts := atoms_spec (ws := Cond.code yX11_stopped cX11_stopped 1 (some .int) :: gW) B.pre
  have htl : ∀ w ∈ gW, w.before _ s = true := fun w h => hts w (List.mem_cons_of_mem _ h)
  have hown : s.vm.findClass RX11 = some m.cls := findClass_of_methodNamed B.named
  have hlocks := B.notSynchronized
  subst hsz
  have hD := hD0.self (sz := s.heap.size)
  generalize hAe : va_A [(h0, .inr (11, [f_h0_0, f_h0_1, f_h0_2, f_h0_3, f_h0_4, f_h0_5, f_h0_6, f_h0_7, f_h0_8, f_h0_9, f_h0_10, .int (-1), .ref h1, .int lr]))] s.heap.size = A at hD ⊢
  have hA : ∀ q : Nat, s.heap.size ≤ q → A q := fun q h => by rw [← hAe]; exact Or.inr h
  have hS : va_S A s.heap s.heap [] := va_S.rf
  have hl := lv_entry ([.ref h0]) (n := 1) (Nat.le_of_ble_eq_true rfl)
  rw [lg_entry_eq]
  generalize (lg_sl ([.ref h0]) ++ List.replicate (1 - (lg_sl ([.ref h0])).length) Slot.unset).toArray = ls at hl ⊢
  have hl : lv_has ls 1 [(0, .ref h0)] := hl
  refine lv_aload_n hx hb dX11_stopped_0 rfl (lv_at hl 0 rfl) ?_
  refine va_get (ci := 11) (v := .int (-1)) (C := RX11) (T := TX11) (N := 14) hx hb htl inX11 hown hK hP 0 rfl rfl 11 (by decide) (htl _ fl_RX11_71) (fun _ h9 => h9) rfl dX11_stopped_1 ?_
  exact W.iret (v := (-1)) hx hb hr (fun t ht hW => ⟨⟨(-1), (), rfl, rfl, ⟨fun k q h => by simp at h, va_K.moved hW.alike hK, ⟨fun i j p q h => by simp at h, fun k q h => by simp at h⟩⟩⟩, hS.F ht⟩) hS.2.2 dX11_stopped_4

def sp_X11_force (a : Int32) : Int32 := if (sp_X10_hasLaw a) = 0 then (-2) else (-1)
set_option maxHeartbeats 1000000 in
set_option maxRecDepth 100000 in
theorem c_X11_force (l : Launch) (G : va_G) (cs : Nat → ClassId) (h0 : Nat) (a : Int32) (f_h0_0 : Value) (aS : Nat) (f_h0_2 : Value) (f_h0_3 : Value) (f_h0_4 : Value) (f_h0_5 : Value) (f_h0_6 : Value) (f_h0_7 : Value) (f_h0_8 : Value) (f_h0_9 : Value) (f_h0_10 : Value) (f_h0_11 : Value) (h1 : Nat) (lr : Int32) (rfs : Nat → Int32) (aW : Nat) (aD : Nat) (f_aS_2 : Value) (f_aS_3 : Value) (f_aS_4 : Value) (f_aW_0 : Value) (f_aW_1 : Value) (f_aW_2 : Value) (f_aW_3 : Value) (f_aW_4 : Value) (sz : Nat) : Met l yX11_force (Cond.code yX11_force cX11_force 4 (some .int) :: gW) ({ frames := 1, cells := 0, slots := 0, locals := 21 }) (va_Pc [.ref h0, .int a] (Pre G cs [(h0, .inr (11, [f_h0_0, .ref aS, f_h0_2, f_h0_3, f_h0_4, f_h0_5, f_h0_6, f_h0_7, f_h0_8, f_h0_9, f_h0_10, f_h0_11, .ref h1, .int lr])), (h1, .inl (cs 0, 7, .inl rfs)), (aS, .inr (7, [.ref aW, .ref aD, f_aS_2, f_aS_3, f_aS_4])), (aW, .inr (10, [f_aW_0, f_aW_1, f_aW_2, f_aW_3, f_aW_4, .int 0, .int (-1)]))] sz)) (va_Qi (fun r (u : Unit) => r = sp_X11_force a) (fun (u : Unit) t => Aft G cs (va_A [(h0, .inr (11, [f_h0_0, .ref aS, f_h0_2, f_h0_3, f_h0_4, f_h0_5, f_h0_6, f_h0_7, f_h0_8, f_h0_9, f_h0_10, f_h0_11, .ref h1, .int lr])), (h1, .inl (cs 0, 7, .inl rfs)), (aS, .inr (7, [.ref aW, .ref aD, f_aS_2, f_aS_3, f_aS_4])), (aW, .inr (10, [f_aW_0, f_aW_1, f_aW_2, f_aW_3, f_aW_4, .int 0, .int (-1)]))] sz) [] t) (va_A [(h0, .inr (11, [f_h0_0, .ref aS, f_h0_2, f_h0_3, f_h0_4, f_h0_5, f_h0_6, f_h0_7, f_h0_8, f_h0_9, f_h0_10, f_h0_11, .ref h1, .int lr])), (h1, .inl (cs 0, 7, .inl rfs)), (aS, .inr (7, [.ref aW, .ref aD, f_aS_2, f_aS_3, f_aS_4])), (aW, .inr (10, [f_aW_0, f_aW_1, f_aW_2, f_aW_3, f_aW_4, .int 0, .int (-1)]))] sz)) 0 0 (va_A [(h0, .inr (11, [f_h0_0, .ref aS, f_h0_2, f_h0_3, f_h0_4, f_h0_5, f_h0_6, f_h0_7, f_h0_8, f_h0_9, f_h0_10, f_h0_11, .ref h1, .int lr])), (h1, .inl (cs 0, 7, .inl rfs)), (aS, .inr (7, [.ref aW, .ref aD, f_aS_2, f_aS_3, f_aS_4])), (aW, .inr (10, [f_aW_0, f_aW_1, f_aW_2, f_aW_3, f_aW_4, .int 0, .int (-1)]))] sz) := by
  refine Met.ofW (cc := cX11_force) (maxL := 4) (ret := (some .int)) (by decide) rfl ?_
  intro p e s m args below meth c s₁ B hml hv
  obtain ⟨rfl, hsz, hP, hK, hD0, hN⟩ := hv
  have hx := B.exec
  have hb := B.bytes
  have hr := B.returns
  have hts := atoms_spec (ws := Cond.code yX11_force cX11_force 4 (some .int) :: gW) B.pre
  have htl : ∀ w ∈ gW, w.before _ s = true := fun w h => hts w (List.mem_cons_of_mem _ h)
  have hown : s.vm.findClass RX11 = some m.cls := findClass_of_methodNamed B.named
  have hlocks := B.notSynchronized
  subst hsz
  have hD := hD0.self (sz := s.heap.size)
  generalize hAe : va_A [(h0, .inr (11, [f_h0_0, .ref aS, f_h0_2, f_h0_3, f_h0_4, f_h0_5, f_h0_6, f_h0_7, f_h0_8, f_h0_9, f_h0_10, f_h0_11, .ref h1, .int lr])), (h1, .inl (cs 0, 7, .inl rfs)), (aS, .inr (7, [.ref aW, .ref aD, f_aS_2, f_aS_3, f_aS_4])), (aW, .inr (10, [f_aW_0, f_aW_1, f_aW_2, f_aW_3, f_aW_4, .int 0, .int (-1)]))] s.heap.size = A at hD ⊢
  have hA : ∀ q : Nat, s.heap.size ≤ q → A q := fun q h => by rw [← hAe]; exact Or.inr h
  have hS : va_S A s.heap s.heap [] := va_S.rf
  have hl := lv_entry ([.ref h0, .int a]) (n := 4) (Nat.le_of_ble_eq_true rfl)
  rw [lg_entry_eq]
  generalize (lg_sl ([.ref h0, .int a]) ++ List.replicate (4 - (lg_sl ([.ref h0, .int a])).length) Slot.unset).toArray = ls at hl ⊢
  have hl : lv_has ls 4 [(0, .ref h0), (1, .int a)] := hl
  refine lv_aload_n hx hb dX11_force_0 rfl (lv_at hl 0 rfl) ?_
  refine va_get (ci := 11) (v := .ref aS) (C := RX11) (T := TX11) (N := 14) hx hb htl inX11 hown hK hP 0 rfl rfl 1 (by decide) (htl _ fl_RX11_21) (fun _ h9 => h9) rfl dX11_force_1 ?_
  refine va_get (ci := 7) (v := .ref aW) (C := RX7) (T := TX7) (N := 5) hx hb htl inX7 hown hK hP 2 rfl rfl 0 (by decide) (htl _ fl_RX11_78) (fun _ h9 => h9) rfl dX11_force_4 ?_
  refine lv_astore_n (lv' := [(2, .ref aW), (0, .ref h0), (1, .int a)]) hx hb dX11_force_7 rfl hl (by decide) rfl (fun ls hl => ?_)
  refine lv_aload_n hx hb dX11_force_8 rfl (lv_at hl 0 rfl) ?_
  refine lv_iload_n hx hb dX11_force_9 rfl (lv_at hl 2 rfl) ?_
  refine vp_callSi (mkVr (rest := []) ⟨hx, hb, hml, hown, htl⟩ hN hK hP (c_X10_hasLaw l G cs aW a f_aW_0 f_aW_1 f_aW_2 f_aW_3 f_aW_4 (.int (-1))) [3] rfl 0 10 rfl rfl (cV 1 htl lk_RX11_243 mI_X10_hasLaw mS_X10_hasLaw mN_RX10 mC_X10_hasLaw ok_X10_hasLaw rfl rfl ⟨(Nat.le_of_ble_eq_true rfl), (Nat.le_of_ble_eq_true rfl)⟩) rfl hl.1 rfl (Nat.le_of_ble_eq_true rfl) dX11_force_10 ⟨(Nat.le_of_ble_eq_true rfl), (Nat.le_of_ble_eq_true rfl)⟩) (fun r hw => ?_)
  obtain ⟨rfl, hz_1⟩ := hw
  refine lv_if_ne (tgt := 23) hx hb dX11_force_13 (by decide) (fun c_13 => ?_) (fun c_13 => ?_)
  · refine lv_aload_n hx hb dX11_force_23 rfl (lv_at hl 0 rfl) ?_
    refine va_get (ci := 10) (v := .int (-1)) (C := RX10) (T := TX10) (N := 7) hx hb htl inX10 hown hK hP 3 rfl rfl 6 (by decide) (htl _ fl_RX11_246) (fun _ h9 => h9) rfl dX11_force_24 ?_
    refine lv_istore_n (lv' := [(3, .int (-1)), (2, .ref aW), (0, .ref h0), (1, .int a)]) hx hb dX11_force_27 rfl hl (by decide) rfl (fun ls hl => ?_)
    refine lv_aload_n hx hb dX11_force_28 rfl (lv_at hl 1 rfl) ?_
    refine lv_iload_n hx hb dX11_force_29 rfl (lv_at hl 3 rfl) ?_
    refine va_put (ci := 10) (v := .int a) (ty := .int) (C := RX10) (T := TX10) (N := 7) hx hb htl inX10 tyX10 tyX10_ok nmX10 hown hK hP hD hS 3 rfl rfl 6 (by decide) (htl _ fl_RX11_246) (fun _ h9 => h9) rfl (by decide +kernel) (by first | rfl | decide) (by first | rfl | decide) (Nat.le_of_ble_eq_true rfl) dX11_force_30 (fun H locs hP hD hS => ?_)
    have hP : va_P G vwCl [(h0, .inr (11, [f_h0_0, .ref aS, f_h0_2, f_h0_3, f_h0_4, f_h0_5, f_h0_6, f_h0_7, f_h0_8, f_h0_9, f_h0_10, f_h0_11, .ref h1, .int lr])), (h1, .inl (cs 0, 7, .inl rfs)), (aS, .inr (7, [.ref aW, .ref aD, f_aS_2, f_aS_3, f_aS_4])), (aW, .inr (10, [f_aW_0, f_aW_1, f_aW_2, f_aW_3, f_aW_4, .int 0, .int a]))] H := hP
    have hD : va_D A [(h0, .inr (11, [f_h0_0, .ref aS, f_h0_2, f_h0_3, f_h0_4, f_h0_5, f_h0_6, f_h0_7, f_h0_8, f_h0_9, f_h0_10, f_h0_11, .ref h1, .int lr])), (h1, .inl (cs 0, 7, .inl rfs)), (aS, .inr (7, [.ref aW, .ref aD, f_aS_2, f_aS_3, f_aS_4])), (aW, .inr (10, [f_aW_0, f_aW_1, f_aW_2, f_aW_3, f_aW_4, .int 0, .int a]))] := hD
    refine lv_aload_n hx hb dX11_force_33 rfl (lv_at hl 2 rfl) ?_
    refine lv_iconst (v := 0) hx hb dX11_force_34 (by decide) ?_
    refine va_put (ci := 11) (v := .int 0) (ty := .int) (C := RX11) (T := TX11) (N := 14) hx hb htl inX11 tyX11 tyX11_ok nmX11 hown hK hP hD hS 0 rfl rfl 13 (by decide) (htl _ fl_RX11_249) (fun _ h9 => h9) rfl (by decide +kernel) (by first | rfl | decide) (by first | rfl | decide) (Nat.le_of_ble_eq_true rfl) dX11_force_35 (fun H locs hP hD hS => ?_)
    have hP : va_P G vwCl [(h0, .inr (11, [f_h0_0, .ref aS, f_h0_2, f_h0_3, f_h0_4, f_h0_5, f_h0_6, f_h0_7, f_h0_8, f_h0_9, f_h0_10, f_h0_11, .ref h1, .int 0])), (h1, .inl (cs 0, 7, .inl rfs)), (aS, .inr (7, [.ref aW, .ref aD, f_aS_2, f_aS_3, f_aS_4])), (aW, .inr (10, [f_aW_0, f_aW_1, f_aW_2, f_aW_3, f_aW_4, .int 0, .int a]))] H := hP
    have hD : va_D A [(h0, .inr (11, [f_h0_0, .ref aS, f_h0_2, f_h0_3, f_h0_4, f_h0_5, f_h0_6, f_h0_7, f_h0_8, f_h0_9, f_h0_10, f_h0_11, .ref h1, .int 0])), (h1, .inl (cs 0, 7, .inl rfs)), (aS, .inr (7, [.ref aW, .ref aD, f_aS_2, f_aS_3, f_aS_4])), (aW, .inr (10, [f_aW_0, f_aW_1, f_aW_2, f_aW_3, f_aW_4, .int 0, .int a]))] := hD
    refine lv_iload_n hx hb dX11_force_38 rfl (lv_at hl 0 rfl) ?_
    exact W.iret (v := (-1)) hx hb hr (fun t ht hW => ⟨⟨(-1), (), rfl, (by unfold sp_X11_force; rw [if_neg c_13]), ⟨fun k q h => by simp at h, va_K.moved hW.alike hK, ⟨fun i j p q h => by simp at h, fun k q h => by simp at h⟩⟩⟩, hS.F ht⟩) hS.2.2 dX11_force_39
  · refine lv_aload_n hx hb dX11_force_16 rfl (lv_at hl 1 rfl) ?_
    refine lv_bipush (v := (-2)) hx hb dX11_force_17 (by decide) ?_
    refine mi (wr := [(aS, .inr (7, [.ref aW, .ref aD, f_aS_2, f_aS_3, f_aS_4])), (aW, .inr (10, [f_aW_0, f_aW_1, f_aW_2, f_aW_3, f_aW_4, .int 0, .int (-1)]))]) (mkV (rest := []) ⟨hx, hb, hml, hown, htl⟩ hN hK hP hD (c_X11_settle l G cs h0 (-2) f_h0_0 (.ref aS) f_h0_2 f_h0_3 f_h0_4 f_h0_5 f_h0_6 f_h0_7 f_h0_8 f_h0_9 f_h0_10 f_h0_11 h1 lr (rfs) _ (by decide)) [0, 1] rfl rfl 0 11 rfl rfl (cV 1 htl lk_RX11_91 mI_X11_settle mS_X11_settle mN_RX11 mC_X11_settle ok_X11_settle rfl rfl ⟨(Nat.le_of_ble_eq_true rfl), (Nat.le_of_ble_eq_true rfl)⟩) rfl hl.1 rfl (Nat.le_of_ble_eq_true rfl) dX11_force_19 ⟨(Nat.le_of_ble_eq_true rfl), (Nat.le_of_ble_eq_true rfl)⟩) hP hD hS hA [0, 1] [2, 3] rfl rfl rfl (by decide) (fun r u_19 H locs hw hP hD hS => ?_)
    have hP : va_P G vwCl [(aS, .inr (7, [.ref aW, .ref aD, f_aS_2, f_aS_3, f_aS_4])), (aW, .inr (10, [f_aW_0, f_aW_1, f_aW_2, f_aW_3, f_aW_4, .int 0, .int (-1)]))] H := hP
    have hD : va_D A [(aS, .inr (7, [.ref aW, .ref aD, f_aS_2, f_aS_3, f_aS_4])), (aW, .inr (10, [f_aW_0, f_aW_1, f_aW_2, f_aW_3, f_aW_4, .int 0, .int (-1)]))] := hD
    obtain rfl : r = (-2) := hw.trans (by unfold sp_X11_settle; (try rw [if_neg (by decide), if_neg (by decide)]) <;> first | rfl | decide)
    exact W.iret (v := (-2)) hx hb hr (fun t ht hW => ⟨⟨(-2), (), rfl, (by unfold sp_X11_force; rw [if_pos c_13]), ⟨fun k q h => by simp at h, va_K.moved hW.alike hK, ⟨fun i j p q h => by simp at h, fun k q h => by simp at h⟩⟩⟩, hS.F ht⟩) hS.2.2 dX11_force_22

def sp_X11_asks : Int32 := (-1)
set_option maxHeartbeats 1000000 in
set_option maxRecDepth 100000 in
theorem c_X11_asks (l : Launch) (G : va_G) (cs : Nat → ClassId) (h0 : Nat) (a : Int32) (b : Int32) (d : Int32) (f_h0_0 : Value) (aS : Nat) (f_h0_2 : Value) (f_h0_3 : Value) (f_h0_4 : Value) (f_h0_5 : Value) (f_h0_6 : Value) (f_h0_7 : Value) (f_h0_8 : Value) (f_h0_9 : Value) (f_h0_10 : Value) (f_h0_11 : Value) (h1 : Nat) (lr : Int32) (aW : Nat) (aD : Nat) (f_aS_2 : Value) (f_aS_3 : Value) (f_aS_4 : Value) (f_aW_0 : Value) (aC : Nat) (f_aW_2 : Value) (f_aW_3 : Value) (f_aW_4 : Value) (f_aW_5 : Value) (f_aW_6 : Value) (f_aC_0 : Value) (f_aC_1 : Value) (sz : Nat) : Met l yX11_asks (Cond.code yX11_asks cX11_asks 5 (some .int) :: gW) ({ frames := 1, cells := 0, slots := 0, locals := 21 }) (va_Pc [.ref h0, .int a, .int b, .int d] (Pre G cs [(h0, .inr (11, [f_h0_0, .ref aS, f_h0_2, f_h0_3, f_h0_4, f_h0_5, f_h0_6, f_h0_7, f_h0_8, f_h0_9, f_h0_10, f_h0_11, .ref h1, .int lr])), (aS, .inr (7, [.ref aW, .ref aD, f_aS_2, f_aS_3, f_aS_4])), (aW, .inr (10, [f_aW_0, .ref aC, f_aW_2, f_aW_3, f_aW_4, f_aW_5, f_aW_6])), (aC, .inr (1, [f_aC_0, f_aC_1, .int 0]))] sz)) (va_Qi (fun r (u : Unit) => r = sp_X11_asks) (fun (u : Unit) t => Aft G cs (va_A [(h0, .inr (11, [f_h0_0, .ref aS, f_h0_2, f_h0_3, f_h0_4, f_h0_5, f_h0_6, f_h0_7, f_h0_8, f_h0_9, f_h0_10, f_h0_11, .ref h1, .int lr])), (aS, .inr (7, [.ref aW, .ref aD, f_aS_2, f_aS_3, f_aS_4])), (aW, .inr (10, [f_aW_0, .ref aC, f_aW_2, f_aW_3, f_aW_4, f_aW_5, f_aW_6])), (aC, .inr (1, [f_aC_0, f_aC_1, .int 0]))] sz) [] t) (va_A [(h0, .inr (11, [f_h0_0, .ref aS, f_h0_2, f_h0_3, f_h0_4, f_h0_5, f_h0_6, f_h0_7, f_h0_8, f_h0_9, f_h0_10, f_h0_11, .ref h1, .int lr])), (aS, .inr (7, [.ref aW, .ref aD, f_aS_2, f_aS_3, f_aS_4])), (aW, .inr (10, [f_aW_0, .ref aC, f_aW_2, f_aW_3, f_aW_4, f_aW_5, f_aW_6])), (aC, .inr (1, [f_aC_0, f_aC_1, .int 0]))] sz)) 0 0 (va_A [(h0, .inr (11, [f_h0_0, .ref aS, f_h0_2, f_h0_3, f_h0_4, f_h0_5, f_h0_6, f_h0_7, f_h0_8, f_h0_9, f_h0_10, f_h0_11, .ref h1, .int lr])), (aS, .inr (7, [.ref aW, .ref aD, f_aS_2, f_aS_3, f_aS_4])), (aW, .inr (10, [f_aW_0, .ref aC, f_aW_2, f_aW_3, f_aW_4, f_aW_5, f_aW_6])), (aC, .inr (1, [f_aC_0, f_aC_1, .int 0]))] sz) := by
  refine Met.ofW (cc := cX11_asks) (maxL := 5) (ret := (some .int)) (by decide) rfl ?_
  intro p e s m args below meth c s₁ B hml hv
  obtain ⟨rfl, hsz, hP, hK, hD0, hN⟩ := hv
  have hx := B.exec
  have hb := B.bytes
  have hr := B.returns
  have hts := atoms_spec (ws := Cond.code yX11_asks cX11_asks 5 (some .int) :: gW) B.pre
  have htl : ∀ w ∈ gW, w.before _ s = true := fun w h => hts w (List.mem_cons_of_mem _ h)
  have hown : s.vm.findClass RX11 = some m.cls := findClass_of_methodNamed B.named
  have hlocks := B.notSynchronized
  subst hsz
  have hD := hD0.self (sz := s.heap.size)
  generalize hAe : va_A [(h0, .inr (11, [f_h0_0, .ref aS, f_h0_2, f_h0_3, f_h0_4, f_h0_5, f_h0_6, f_h0_7, f_h0_8, f_h0_9, f_h0_10, f_h0_11, .ref h1, .int lr])), (aS, .inr (7, [.ref aW, .ref aD, f_aS_2, f_aS_3, f_aS_4])), (aW, .inr (10, [f_aW_0, .ref aC, f_aW_2, f_aW_3, f_aW_4, f_aW_5, f_aW_6])), (aC, .inr (1, [f_aC_0, f_aC_1, .int 0]))] s.heap.size = A at hD ⊢
  have hA : ∀ q : Nat, s.heap.size ≤ q → A q := fun q h => by rw [← hAe]; exact Or.inr h
  have hS : va_S A s.heap s.heap [] := va_S.rf
  have hl := lv_entry ([.ref h0, .int a, .int b, .int d]) (n := 5) (Nat.le_of_ble_eq_true rfl)
  rw [lg_entry_eq]
  generalize (lg_sl ([.ref h0, .int a, .int b, .int d]) ++ List.replicate (5 - (lg_sl ([.ref h0, .int a, .int b, .int d])).length) Slot.unset).toArray = ls at hl ⊢
  have hl : lv_has ls 5 [(0, .ref h0), (1, .int a), (2, .int b), (3, .int d)] := hl
  refine lv_aload_n hx hb dX11_asks_0 rfl (lv_at hl 0 rfl) ?_
  refine va_get (ci := 11) (v := .ref aS) (C := RX11) (T := TX11) (N := 14) hx hb htl inX11 hown hK hP 0 rfl rfl 1 (by decide) (htl _ fl_RX11_21) (fun _ h9 => h9) rfl dX11_asks_1 ?_
  refine va_get (ci := 7) (v := .ref aW) (C := RX7) (T := TX7) (N := 5) hx hb htl inX7 hown hK hP 1 rfl rfl 0 (by decide) (htl _ fl_RX11_78) (fun _ h9 => h9) rfl dX11_asks_4 ?_
  refine lv_astore (lv' := [(4, .ref aW), (0, .ref h0), (1, .int a), (2, .int b), (3, .int d)]) hx hb dX11_asks_7 hl (by decide) rfl (fun ls hl => ?_)
  refine lv_iload_n hx hb dX11_asks_9 rfl (lv_at hl 2 rfl) ?_
  refine lv_aload hx hb dX11_asks_10 (lv_at hl 0 rfl) ?_
  refine va_get (ci := 10) (v := .ref aC) (C := RX10) (T := TX10) (N := 7) hx hb htl inX10 hown hK hP 2 rfl rfl 1 (by decide) (htl _ fl_RX11_134) (fun _ h9 => h9) rfl dX11_asks_12 ?_
  refine va_get (ci := 1) (v := .int 0) (C := RX1) (T := TX1) (N := 3) hx hb htl inX1 hown hK hP 3 rfl rfl 2 (by decide) (htl _ fl_RX11_137) (fun _ h9 => h9) rfl dX11_asks_15 ?_
  refine vp_callSi (mkSr (rest := []) ⟨hx, hb, hml, hown, htl⟩ hN hK (c_X11_isWithin l G cs a 0) (cS 2 htl lk_RX11_82 mT_X11_isWithin mN_RX11 mC_X11_isWithin ok_X11_isWithin rfl rfl ⟨(Nat.le_of_ble_eq_true rfl), (Nat.le_of_ble_eq_true rfl)⟩) rfl hl.1 rfl (Nat.le_of_ble_eq_true rfl) dX11_asks_18 ⟨(Nat.le_of_ble_eq_true rfl), (Nat.le_of_ble_eq_true rfl)⟩) (fun r hw => ?_)
  obtain rfl : r = 0 := hw.1.trans (iw_0 _)
  refine lv_if_eq (tgt := 33) hx hb dX11_asks_21 (by decide) (fun _ => ?_) (fun h => absurd (by decide) h)
  refine lv_iconst (v := (-1)) hx hb dX11_asks_33 (by decide) ?_
  exact W.iret (v := (-1)) hx hb hr (fun t ht hW => ⟨⟨(-1), (), rfl, rfl, ⟨fun k q h => by simp at h, va_K.moved hW.alike hK, ⟨fun i j p q h => by simp at h, fun k q h => by simp at h⟩⟩⟩, hS.F ht⟩) hS.2.2 dX11_asks_34

def sp_X11_loud (a : Int32) (b : Int32) : Int32 := if (sp_X11_isWithin a 40) = 0 then (-100000) else (if (sp_X11_isWithin b 8) = 0 then (-100000) else (20 - ((sp_X11_stepsTo a b) * 2)))
set_option maxHeartbeats 1000000 in
set_option maxRecDepth 100000 in
theorem c_X11_loud (l : Launch) (G : va_G) (cs : Nat → ClassId) (h0 : Nat) (a : Int32) (b : Int32) (aA : Nat) (aS : Nat) (f_h0_2 : Value) (f_h0_3 : Value) (f_h0_4 : Value) (f_h0_5 : Value) (f_h0_6 : Value) (f_h0_7 : Value) (f_h0_8 : Value) (f_h0_9 : Value) (f_h0_10 : Value) (f_h0_11 : Value) (h1 : Nat) (lr : Int32) (aW : Nat) (aD : Nat) (f_aS_2 : Value) (f_aS_3 : Value) (f_aS_4 : Value) (aR : Nat) (f_aW_1 : Value) (f_aW_2 : Value) (f_aW_3 : Value) (f_aW_4 : Value) (f_aW_5 : Value) (aK : Nat) (f_aR_1 : Value) (f_aR_2 : Value) (f_aR_3 : Value) (f_aA_0 : Value) (f_aA_1 : Value) (f_aA_2 : Value) (f_aA_3 : Value) (f_aA_4 : Value) (f_aA_5 : Value) (f_aA_6 : Value) (f_aA_7 : Value) (f_aA_8 : Value) (sz : Nat) : Met l yX11_loud (Cond.code yX11_loud cX11_loud 5 (some .int) :: gW) ({ frames := 3, cells := 0, slots := 0, locals := 68 }) (va_Pc [.ref h0, .int a, .int b] (Pre G cs [(h0, .inr (11, [.ref aA, .ref aS, f_h0_2, f_h0_3, f_h0_4, f_h0_5, f_h0_6, f_h0_7, f_h0_8, f_h0_9, f_h0_10, f_h0_11, .ref h1, .int lr])), (aS, .inr (7, [.ref aW, .ref aD, f_aS_2, f_aS_3, f_aS_4])), (aW, .inr (10, [.ref aR, f_aW_1, f_aW_2, f_aW_3, f_aW_4, f_aW_5, .int (-1)])), (aR, .inr (6, [.ref aK, f_aR_1, f_aR_2, f_aR_3])), (aK, .inl (cs 0, 40, .inl (fun _ => 0))), (aA, .inr (0, [f_aA_0, f_aA_1, f_aA_2, f_aA_3, f_aA_4, f_aA_5, f_aA_6, f_aA_7, f_aA_8]))] sz)) (va_Qi (fun r (u : Unit) => r = sp_X11_loud a b) (fun (u : Unit) t => Aft G cs (va_A [(h0, .inr (11, [.ref aA, .ref aS, f_h0_2, f_h0_3, f_h0_4, f_h0_5, f_h0_6, f_h0_7, f_h0_8, f_h0_9, f_h0_10, f_h0_11, .ref h1, .int lr])), (aS, .inr (7, [.ref aW, .ref aD, f_aS_2, f_aS_3, f_aS_4])), (aW, .inr (10, [.ref aR, f_aW_1, f_aW_2, f_aW_3, f_aW_4, f_aW_5, .int (-1)])), (aR, .inr (6, [.ref aK, f_aR_1, f_aR_2, f_aR_3])), (aK, .inl (cs 0, 40, .inl (fun _ => 0))), (aA, .inr (0, [f_aA_0, f_aA_1, f_aA_2, f_aA_3, f_aA_4, f_aA_5, f_aA_6, f_aA_7, f_aA_8]))] sz) [] t) (va_A [(h0, .inr (11, [.ref aA, .ref aS, f_h0_2, f_h0_3, f_h0_4, f_h0_5, f_h0_6, f_h0_7, f_h0_8, f_h0_9, f_h0_10, f_h0_11, .ref h1, .int lr])), (aS, .inr (7, [.ref aW, .ref aD, f_aS_2, f_aS_3, f_aS_4])), (aW, .inr (10, [.ref aR, f_aW_1, f_aW_2, f_aW_3, f_aW_4, f_aW_5, .int (-1)])), (aR, .inr (6, [.ref aK, f_aR_1, f_aR_2, f_aR_3])), (aK, .inl (cs 0, 40, .inl (fun _ => 0))), (aA, .inr (0, [f_aA_0, f_aA_1, f_aA_2, f_aA_3, f_aA_4, f_aA_5, f_aA_6, f_aA_7, f_aA_8]))] sz)) 0 0 (va_A [(h0, .inr (11, [.ref aA, .ref aS, f_h0_2, f_h0_3, f_h0_4, f_h0_5, f_h0_6, f_h0_7, f_h0_8, f_h0_9, f_h0_10, f_h0_11, .ref h1, .int lr])), (aS, .inr (7, [.ref aW, .ref aD, f_aS_2, f_aS_3, f_aS_4])), (aW, .inr (10, [.ref aR, f_aW_1, f_aW_2, f_aW_3, f_aW_4, f_aW_5, .int (-1)])), (aR, .inr (6, [.ref aK, f_aR_1, f_aR_2, f_aR_3])), (aK, .inl (cs 0, 40, .inl (fun _ => 0))), (aA, .inr (0, [f_aA_0, f_aA_1, f_aA_2, f_aA_3, f_aA_4, f_aA_5, f_aA_6, f_aA_7, f_aA_8]))] sz) := by
  refine Met.ofW (cc := cX11_loud) (maxL := 5) (ret := (some .int)) (by decide) rfl ?_
  intro p e s m args below meth c s₁ B hml hv
  obtain ⟨rfl, hsz, hP, hK, hD0, hN⟩ := hv
  have hx := B.exec
  have hb := B.bytes
  have hr := B.returns
  have hts := atoms_spec (ws := Cond.code yX11_loud cX11_loud 5 (some .int) :: gW) B.pre
  have htl : ∀ w ∈ gW, w.before _ s = true := fun w h => hts w (List.mem_cons_of_mem _ h)
  have hown : s.vm.findClass RX11 = some m.cls := findClass_of_methodNamed B.named
  have hlocks := B.notSynchronized
  subst hsz
  have hD := hD0.self (sz := s.heap.size)
  generalize hAe : va_A [(h0, .inr (11, [.ref aA, .ref aS, f_h0_2, f_h0_3, f_h0_4, f_h0_5, f_h0_6, f_h0_7, f_h0_8, f_h0_9, f_h0_10, f_h0_11, .ref h1, .int lr])), (aS, .inr (7, [.ref aW, .ref aD, f_aS_2, f_aS_3, f_aS_4])), (aW, .inr (10, [.ref aR, f_aW_1, f_aW_2, f_aW_3, f_aW_4, f_aW_5, .int (-1)])), (aR, .inr (6, [.ref aK, f_aR_1, f_aR_2, f_aR_3])), (aK, .inl (cs 0, 40, .inl (fun _ => 0))), (aA, .inr (0, [f_aA_0, f_aA_1, f_aA_2, f_aA_3, f_aA_4, f_aA_5, f_aA_6, f_aA_7, f_aA_8]))] s.heap.size = A at hD ⊢
  have hA : ∀ q : Nat, s.heap.size ≤ q → A q := fun q h => by rw [← hAe]; exact Or.inr h
  have hS : va_S A s.heap s.heap [] := va_S.rf
  have hl := lv_entry ([.ref h0, .int a, .int b]) (n := 5) (Nat.le_of_ble_eq_true rfl)
  rw [lg_entry_eq]
  generalize (lg_sl ([.ref h0, .int a, .int b]) ++ List.replicate (5 - (lg_sl ([.ref h0, .int a, .int b])).length) Slot.unset).toArray = ls at hl ⊢
  have hl : lv_has ls 5 [(0, .ref h0), (1, .int a), (2, .int b)] := hl
  refine lv_iload_n hx hb dX11_loud_0 rfl (lv_at hl 1 rfl) ?_
  refine lv_bipush (v := 40) hx hb dX11_loud_1 (by decide) ?_
  refine vp_callSi (mkSr (rest := []) ⟨hx, hb, hml, hown, htl⟩ hN hK (c_X11_isWithin l G cs a 40) (cS 2 htl lk_RX11_82 mT_X11_isWithin mN_RX11 mC_X11_isWithin ok_X11_isWithin rfl rfl ⟨(Nat.le_of_ble_eq_true rfl), (Nat.le_of_ble_eq_true rfl)⟩) rfl hl.1 rfl (Nat.le_of_ble_eq_true rfl) dX11_loud_3 ⟨(Nat.le_of_ble_eq_true rfl), (Nat.le_of_ble_eq_true rfl)⟩) (fun r hw => ?_)
  obtain ⟨rfl, hz_1⟩ := hw
  refine lv_if_eq (tgt := 18) hx hb dX11_loud_6 (by decide) (fun c_6 => ?_) (fun c_6 => ?_)
  · refine lv_ldcw hx hb hown (htl _ ct_RX11_261) dX11_loud_18 ?_
    exact W.iret (v := (-100000)) hx hb hr (fun t ht hW => ⟨⟨(-100000), (), rfl, (by unfold sp_X11_loud; rw [if_pos c_6]), ⟨fun k q h => by simp at h, va_K.moved hW.alike hK, ⟨fun i j p q h => by simp at h, fun k q h => by simp at h⟩⟩⟩, hS.F ht⟩) hS.2.2 dX11_loud_21
  · refine lv_iload_n hx hb dX11_loud_9 rfl (lv_at hl 2 rfl) ?_
    refine lv_bipush (v := 8) hx hb dX11_loud_10 (by decide) ?_
    refine vp_callSi (mkSr (rest := []) ⟨hx, hb, hml, hown, htl⟩ hN hK (c_X11_isWithin l G cs b 8) (cS 2 htl lk_RX11_82 mT_X11_isWithin mN_RX11 mC_X11_isWithin ok_X11_isWithin rfl rfl ⟨(Nat.le_of_ble_eq_true rfl), (Nat.le_of_ble_eq_true rfl)⟩) rfl hl.1 rfl (Nat.le_of_ble_eq_true rfl) dX11_loud_12 ⟨(Nat.le_of_ble_eq_true rfl), (Nat.le_of_ble_eq_true rfl)⟩) (fun r hw => ?_)
    obtain ⟨rfl, hz_2⟩ := hw
    refine lv_if_ne (tgt := 22) hx hb dX11_loud_15 (by decide) (fun c_15 => ?_) (fun c_15 => ?_)
    · refine lv_aload_n hx hb dX11_loud_22 rfl (lv_at hl 0 rfl) ?_
      refine va_get (ci := 11) (v := .ref aS) (C := RX11) (T := TX11) (N := 14) hx hb htl inX11 hown hK hP 0 rfl rfl 1 (by decide) (htl _ fl_RX11_21) (fun _ h9 => h9) rfl dX11_loud_23 ?_
      refine va_get (ci := 7) (v := .ref aW) (C := RX7) (T := TX7) (N := 5) hx hb htl inX7 hown hK hP 1 rfl rfl 0 (by decide) (htl _ fl_RX11_78) (fun _ h9 => h9) rfl dX11_loud_26 ?_
      refine lv_astore_n (lv' := [(3, .ref aW), (0, .ref h0), (1, .int a), (2, .int b)]) hx hb dX11_loud_29 rfl hl (by decide) rfl (fun ls hl => ?_)
      refine lv_aload_n hx hb dX11_loud_30 rfl (lv_at hl 1 rfl) ?_
      refine va_get (ci := 11) (v := .ref aA) (C := RX11) (T := TX11) (N := 14) hx hb htl inX11 hown hK hP 0 rfl rfl 0 (by decide) (htl _ fl_RX11_10) (fun _ h9 => h9) rfl dX11_loud_31 ?_
      refine lv_aload_n hx hb dX11_loud_34 rfl (lv_at hl 0 rfl) ?_
      refine lv_aload_n hx hb dX11_loud_35 rfl (lv_at hl 0 rfl) ?_
      refine va_csr (mkVr (rest := [.ref aW, .ref aA]) ⟨hx, hb, hml, hown, htl⟩ hN hK hP (c_X10_lawInForce l G cs aW (.ref aR) f_aW_1 f_aW_2 f_aW_3 f_aW_4 f_aW_5) [2] rfl 0 10 rfl rfl (cV 0 htl lk_RX11_116 mI_X10_lawInForce mS_X10_lawInForce mN_RX10 mC_X10_lawInForce ok_X10_lawInForce rfl rfl ⟨(Nat.le_of_ble_eq_true rfl), (Nat.le_of_ble_eq_true rfl)⟩) rfl hl.1 rfl (Nat.le_of_ble_eq_true rfl) dX11_loud_36 ⟨(Nat.le_of_ble_eq_true rfl), (Nat.le_of_ble_eq_true rfl)⟩) (fun r hw => ?_)
      clear hw
      refine W.eq (g2 := F0 m 39 ls [.null, .ref aW, .ref aA]) rfl ?_
      refine mv (wr := [(h0, .inr (11, [.ref aA, .ref aS, f_h0_2, f_h0_3, f_h0_4, f_h0_5, f_h0_6, f_h0_7, f_h0_8, f_h0_9, f_h0_10, f_h0_11, .ref h1, .int lr])), (aS, .inr (7, [.ref aW, .ref aD, f_aS_2, f_aS_3, f_aS_4])), (aW, .inr (10, [.ref aR, f_aW_1, f_aW_2, f_aW_3, f_aW_4, f_aW_5, .int (-1)])), (aR, .inr (6, [.ref aK, f_aR_1, f_aR_2, f_aR_3])), (aK, .inl (cs 0, 40, .inl (fun _ => 0)))]) (mkV (rest := []) ⟨hx, hb, hml, hown, htl⟩ hN hK hP hD (c_X0_turnTo l G cs aA aW f_aA_0 f_aA_1 f_aA_2 f_aA_3 f_aA_4 f_aA_5 f_aA_6 f_aA_7 f_aA_8 _) [5] rfl rfl 0 0 rfl rfl (cV 2 htl lk_RX11_120 mI_X0_turnTo mS_X0_turnTo mN_RX0 mC_X0_turnTo ok_X0_turnTo rfl rfl ⟨(Nat.le_of_ble_eq_true rfl), (Nat.le_of_ble_eq_true rfl)⟩) rfl hl.1 rfl (Nat.le_of_ble_eq_true rfl) dX11_loud_39 ⟨(Nat.le_of_ble_eq_true rfl), (Nat.le_of_ble_eq_true rfl)⟩) hP hD hS hA [5] [0, 1, 2, 3, 4] rfl rfl rfl (by decide) (fun u_39 H locs hw hP hD hS => ?_)
      have hP : va_P G vwCl [(h0, .inr (11, [.ref aA, .ref aS, f_h0_2, f_h0_3, f_h0_4, f_h0_5, f_h0_6, f_h0_7, f_h0_8, f_h0_9, f_h0_10, f_h0_11, .ref h1, .int lr])), (aS, .inr (7, [.ref aW, .ref aD, f_aS_2, f_aS_3, f_aS_4])), (aW, .inr (10, [.ref aR, f_aW_1, f_aW_2, f_aW_3, f_aW_4, f_aW_5, .int (-1)])), (aR, .inr (6, [.ref aK, f_aR_1, f_aR_2, f_aR_3])), (aK, .inl (cs 0, 40, .inl (fun _ => 0))), (aA, .inr (0, [f_aA_0, .ref aW, .null, f_aA_3, f_aA_4, f_aA_5, f_aA_6, f_aA_7, f_aA_8]))] H := hP
      have hD : va_D A [(h0, .inr (11, [.ref aA, .ref aS, f_h0_2, f_h0_3, f_h0_4, f_h0_5, f_h0_6, f_h0_7, f_h0_8, f_h0_9, f_h0_10, f_h0_11, .ref h1, .int lr])), (aS, .inr (7, [.ref aW, .ref aD, f_aS_2, f_aS_3, f_aS_4])), (aW, .inr (10, [.ref aR, f_aW_1, f_aW_2, f_aW_3, f_aW_4, f_aW_5, .int (-1)])), (aR, .inr (6, [.ref aK, f_aR_1, f_aR_2, f_aR_3])), (aK, .inl (cs 0, 40, .inl (fun _ => 0))), (aA, .inr (0, [f_aA_0, .ref aW, .null, f_aA_3, f_aA_4, f_aA_5, f_aA_6, f_aA_7, f_aA_8]))] := hD
      refine lv_aload_n hx hb dX11_loud_42 rfl (lv_at hl 0 rfl) ?_
      refine va_get (ci := 10) (v := .ref aR) (C := RX10) (T := TX10) (N := 7) hx hb htl inX10 hown hK hP 2 rfl rfl 0 (by decide) (htl _ fl_RX11_95) (fun _ h9 => h9) rfl dX11_loud_43 ?_
      refine va_get (ci := 6) (v := .ref aK) (C := RX6) (T := TX6) (N := 4) hx hb htl inX6 hown hK hP 3 rfl rfl 0 (by decide) (htl _ fl_RX11_124) (fun _ h9 => h9) rfl dX11_loud_46 ?_
      refine lv_iload_n hx hb dX11_loud_49 rfl (lv_at hl 2 rfl) ?_
      refine va_iald hx hb hK hP 4 0 rfl rfl (iw_in c_6) dX11_loud_50 ?_
      refine lv_topi (fun xv ex => ?_)
      obtain rfl : xv = 0 := ex.trans (by first | exact pk_us | rfl | decide)
      refine lv_istore (lv' := [(4, .int 0), (3, .ref aW), (0, .ref h0), (1, .int a), (2, .int b)]) hx hb dX11_loud_51 hl (by decide) rfl (fun ls hl => ?_)
      refine lv_aload_n hx hb dX11_loud_53 rfl (lv_at hl 2 rfl) ?_
      refine va_get (ci := 11) (v := .ref aA) (C := RX11) (T := TX11) (N := 14) hx hb htl inX11 hown hK hP 0 rfl rfl 0 (by decide) (htl _ fl_RX11_10) (fun _ h9 => h9) rfl dX11_loud_54 ?_
      refine lv_iload_n hx hb dX11_loud_57 rfl (lv_at hl 3 rfl) ?_
      refine lv_iload hx hb dX11_loud_58 (lv_at hl 0 rfl) ?_
      refine mi (wr := [(h0, .inr (11, [.ref aA, .ref aS, f_h0_2, f_h0_3, f_h0_4, f_h0_5, f_h0_6, f_h0_7, f_h0_8, f_h0_9, f_h0_10, f_h0_11, .ref h1, .int lr])), (aS, .inr (7, [.ref aW, .ref aD, f_aS_2, f_aS_3, f_aS_4])), (aW, .inr (10, [.ref aR, f_aW_1, f_aW_2, f_aW_3, f_aW_4, f_aW_5, .int (-1)])), (aR, .inr (6, [.ref aK, f_aR_1, f_aR_2, f_aR_3])), (aK, .inl (cs 0, 40, .inl (fun _ => 0)))]) (mkV (rest := []) ⟨hx, hb, hml, hown, htl⟩ hN hK hP hD (c_X0_saysOf l G cs aA a 0 f_aA_0 (.ref aW) f_aA_3 f_aA_4 f_aA_5 f_aA_6 f_aA_7 f_aA_8 _) [5] rfl rfl 0 0 rfl rfl (cV 2 htl lk_RX11_127 mI_X0_saysOf mS_X0_saysOf mN_RX0 mC_X0_saysOf ok_X0_saysOf rfl rfl ⟨(Nat.le_of_ble_eq_true rfl), (Nat.le_of_ble_eq_true rfl)⟩) rfl hl.1 rfl (Nat.le_of_ble_eq_true rfl) dX11_loud_60 ⟨(Nat.le_of_ble_eq_true rfl), (Nat.le_of_ble_eq_true rfl)⟩) hP hD hS hA [5] [0, 1, 2, 3, 4] rfl rfl rfl (by decide) (fun r u_60 H locs hw hP hD hS => ?_)
      have hP : va_P G vwCl [(h0, .inr (11, [.ref aA, .ref aS, f_h0_2, f_h0_3, f_h0_4, f_h0_5, f_h0_6, f_h0_7, f_h0_8, f_h0_9, f_h0_10, f_h0_11, .ref h1, .int lr])), (aS, .inr (7, [.ref aW, .ref aD, f_aS_2, f_aS_3, f_aS_4])), (aW, .inr (10, [.ref aR, f_aW_1, f_aW_2, f_aW_3, f_aW_4, f_aW_5, .int (-1)])), (aR, .inr (6, [.ref aK, f_aR_1, f_aR_2, f_aR_3])), (aK, .inl (cs 0, 40, .inl (fun _ => 0))), (aA, .inr (0, [f_aA_0, .ref aW, .null, .int a, .int (-1), .int 0, f_aA_6, f_aA_7, f_aA_8]))] H := hP
      have hD : va_D A [(h0, .inr (11, [.ref aA, .ref aS, f_h0_2, f_h0_3, f_h0_4, f_h0_5, f_h0_6, f_h0_7, f_h0_8, f_h0_9, f_h0_10, f_h0_11, .ref h1, .int lr])), (aS, .inr (7, [.ref aW, .ref aD, f_aS_2, f_aS_3, f_aS_4])), (aW, .inr (10, [.ref aR, f_aW_1, f_aW_2, f_aW_3, f_aW_4, f_aW_5, .int (-1)])), (aR, .inr (6, [.ref aK, f_aR_1, f_aR_2, f_aR_3])), (aK, .inl (cs 0, 40, .inl (fun _ => 0))), (aA, .inr (0, [f_aA_0, .ref aW, .null, .int a, .int (-1), .int 0, f_aA_6, f_aA_7, f_aA_8]))] := hD
      obtain rfl : r = 20 := hw.trans (by first | decide +kernel | rfl)
      refine lv_iload_n hx hb dX11_loud_63 rfl (lv_at hl 3 rfl) ?_
      refine lv_iload_n hx hb dX11_loud_64 rfl (lv_at hl 4 rfl) ?_
      refine vp_callSi (mkSr (rest := [.int 20]) ⟨hx, hb, hml, hown, htl⟩ hN hK (c_X11_stepsTo l G cs a b) (cS 2 htl lk_RX11_262 mT_X11_stepsTo mN_RX11 mC_X11_stepsTo ok_X11_stepsTo rfl rfl ⟨(Nat.le_of_ble_eq_true rfl), (Nat.le_of_ble_eq_true rfl)⟩) rfl hl.1 rfl (Nat.le_of_ble_eq_true rfl) dX11_loud_65 ⟨(Nat.le_of_ble_eq_true rfl), (Nat.le_of_ble_eq_true rfl)⟩) (fun r hw => ?_)
      subst hw
      refine lv_aload_n hx hb dX11_loud_68 rfl (lv_at hl 2 rfl) ?_
      refine va_get (ci := 11) (v := .ref aA) (C := RX11) (T := TX11) (N := 14) hx hb htl inX11 hown hK hP 0 rfl rfl 0 (by decide) (htl _ fl_RX11_10) (fun _ h9 => h9) rfl dX11_loud_69 ?_
      refine lv_iload_n hx hb dX11_loud_72 rfl (lv_at hl 3 rfl) ?_
      refine lv_iload hx hb dX11_loud_73 (lv_at hl 0 rfl) ?_
      refine mi (wr := [(h0, .inr (11, [.ref aA, .ref aS, f_h0_2, f_h0_3, f_h0_4, f_h0_5, f_h0_6, f_h0_7, f_h0_8, f_h0_9, f_h0_10, f_h0_11, .ref h1, .int lr])), (aS, .inr (7, [.ref aW, .ref aD, f_aS_2, f_aS_3, f_aS_4])), (aW, .inr (10, [.ref aR, f_aW_1, f_aW_2, f_aW_3, f_aW_4, f_aW_5, .int (-1)])), (aR, .inr (6, [.ref aK, f_aR_1, f_aR_2, f_aR_3])), (aK, .inl (cs 0, 40, .inl (fun _ => 0)))]) (mkV (rest := [.int (sp_X11_stepsTo a b), .int 20]) ⟨hx, hb, hml, hown, htl⟩ hN hK hP hD (c_X0_losesOf l G cs aA a 0 f_aA_0 (.ref aW) (.int a) (.int (-1)) (.int 0) f_aA_6 f_aA_7 f_aA_8 _) [5] rfl rfl 0 0 rfl rfl (cV 2 htl lk_RX11_131 mI_X0_losesOf mS_X0_losesOf mN_RX0 mC_X0_losesOf ok_X0_losesOf rfl rfl ⟨(Nat.le_of_ble_eq_true rfl), (Nat.le_of_ble_eq_true rfl)⟩) rfl hl.1 rfl (Nat.le_of_ble_eq_true rfl) dX11_loud_75 ⟨(Nat.le_of_ble_eq_true rfl), (Nat.le_of_ble_eq_true rfl)⟩) hP hD hS hA [5] [0, 1, 2, 3, 4] rfl rfl rfl (by decide) (fun r u_75 H locs hw hP hD hS => ?_)
      have hP : va_P G vwCl [(h0, .inr (11, [.ref aA, .ref aS, f_h0_2, f_h0_3, f_h0_4, f_h0_5, f_h0_6, f_h0_7, f_h0_8, f_h0_9, f_h0_10, f_h0_11, .ref h1, .int lr])), (aS, .inr (7, [.ref aW, .ref aD, f_aS_2, f_aS_3, f_aS_4])), (aW, .inr (10, [.ref aR, f_aW_1, f_aW_2, f_aW_3, f_aW_4, f_aW_5, .int (-1)])), (aR, .inr (6, [.ref aK, f_aR_1, f_aR_2, f_aR_3])), (aK, .inl (cs 0, 40, .inl (fun _ => 0))), (aA, .inr (0, [f_aA_0, .ref aW, .null, .int a, .int (-1), .int 0, f_aA_6, f_aA_7, f_aA_8]))] H := hP
      have hD : va_D A [(h0, .inr (11, [.ref aA, .ref aS, f_h0_2, f_h0_3, f_h0_4, f_h0_5, f_h0_6, f_h0_7, f_h0_8, f_h0_9, f_h0_10, f_h0_11, .ref h1, .int lr])), (aS, .inr (7, [.ref aW, .ref aD, f_aS_2, f_aS_3, f_aS_4])), (aW, .inr (10, [.ref aR, f_aW_1, f_aW_2, f_aW_3, f_aW_4, f_aW_5, .int (-1)])), (aR, .inr (6, [.ref aK, f_aR_1, f_aR_2, f_aR_3])), (aK, .inl (cs 0, 40, .inl (fun _ => 0))), (aA, .inr (0, [f_aA_0, .ref aW, .null, .int a, .int (-1), .int 0, f_aA_6, f_aA_7, f_aA_8]))] := hD
      obtain rfl : r = 2 := hw.trans (by first | decide +kernel | rfl)
      refine lv_imul hx hb dX11_loud_78 ?_
      refine lv_isub hx hb dX11_loud_79 ?_
      exact W.iret (v := (20 - ((sp_X11_stepsTo a b) * 2))) hx hb hr (fun t ht hW => ⟨⟨(20 - ((sp_X11_stepsTo a b) * 2)), (), rfl, (by unfold sp_X11_loud; rw [if_neg c_6, if_neg c_15]), ⟨fun k q h => by simp at h, va_K.moved hW.alike hK, ⟨fun i j p q h => by simp at h, fun k q h => by simp at h⟩⟩⟩, hS.F ht⟩) hS.2.2 dX11_loud_80
    · refine lv_ldcw hx hb hown (htl _ ct_RX11_261) dX11_loud_18 ?_
      exact W.iret (v := (-100000)) hx hb hr (fun t ht hW => ⟨⟨(-100000), (), rfl, (by unfold sp_X11_loud; rw [if_neg c_6, if_pos c_15]), ⟨fun k q h => by simp at h, va_K.moved hW.alike hK, ⟨fun i j p q h => by simp at h, fun k q h => by simp at h⟩⟩⟩, hS.F ht⟩) hS.2.2 dX11_loud_21

def sp_X11_din (a : Int32) : Int32 := if (sp_X11_isWithin a 8) = 0 then (-1) else 0
set_option maxHeartbeats 1000000 in
set_option maxRecDepth 100000 in
theorem c_X11_din (l : Launch) (G : va_G) (cs : Nat → ClassId) (h0 : Nat) (a : Int32) (f_h0_0 : Value) (aS : Nat) (f_h0_2 : Value) (f_h0_3 : Value) (f_h0_4 : Value) (f_h0_5 : Value) (f_h0_6 : Value) (f_h0_7 : Value) (f_h0_8 : Value) (f_h0_9 : Value) (f_h0_10 : Value) (f_h0_11 : Value) (h1 : Nat) (lr : Int32) (aW : Nat) (aD : Nat) (f_aS_2 : Value) (f_aS_3 : Value) (f_aS_4 : Value) (f_aW_0 : Value) (f_aW_1 : Value) (aF : Nat) (f_aW_3 : Value) (f_aW_4 : Value) (f_aW_5 : Value) (f_aW_6 : Value) (f_aF_0 : Value) (f_aF_1 : Value) (f_aF_2 : Value) (f_aF_3 : Value) (f_aF_4 : Value) (f_aF_7 : Value) (f_aF_8 : Value) (f_aF_9 : Value) (f_aF_10 : Value) (f_aF_11 : Value) (f_aF_12 : Value) (sz : Nat) : Met l yX11_din (Cond.code yX11_din cX11_din 2 (some .int) :: gW) ({ frames := 1, cells := 0, slots := 0, locals := 25 }) (va_Pc [.ref h0, .int a] (Pre G cs [(h0, .inr (11, [f_h0_0, .ref aS, f_h0_2, f_h0_3, f_h0_4, f_h0_5, f_h0_6, f_h0_7, f_h0_8, f_h0_9, f_h0_10, f_h0_11, .ref h1, .int lr])), (aS, .inr (7, [.ref aW, .ref aD, f_aS_2, f_aS_3, f_aS_4])), (aW, .inr (10, [f_aW_0, f_aW_1, .ref aF, f_aW_3, f_aW_4, f_aW_5, f_aW_6])), (aF, .inr (4, [f_aF_0, f_aF_1, f_aF_2, f_aF_3, f_aF_4, .int 0, .int 0, f_aF_7, f_aF_8, f_aF_9, f_aF_10, f_aF_11, f_aF_12]))] sz)) (va_Qi (fun r (u : Unit) => r = sp_X11_din a) (fun (u : Unit) t => Aft G cs (va_A [(h0, .inr (11, [f_h0_0, .ref aS, f_h0_2, f_h0_3, f_h0_4, f_h0_5, f_h0_6, f_h0_7, f_h0_8, f_h0_9, f_h0_10, f_h0_11, .ref h1, .int lr])), (aS, .inr (7, [.ref aW, .ref aD, f_aS_2, f_aS_3, f_aS_4])), (aW, .inr (10, [f_aW_0, f_aW_1, .ref aF, f_aW_3, f_aW_4, f_aW_5, f_aW_6])), (aF, .inr (4, [f_aF_0, f_aF_1, f_aF_2, f_aF_3, f_aF_4, .int 0, .int 0, f_aF_7, f_aF_8, f_aF_9, f_aF_10, f_aF_11, f_aF_12]))] sz) [] t) (va_A [(h0, .inr (11, [f_h0_0, .ref aS, f_h0_2, f_h0_3, f_h0_4, f_h0_5, f_h0_6, f_h0_7, f_h0_8, f_h0_9, f_h0_10, f_h0_11, .ref h1, .int lr])), (aS, .inr (7, [.ref aW, .ref aD, f_aS_2, f_aS_3, f_aS_4])), (aW, .inr (10, [f_aW_0, f_aW_1, .ref aF, f_aW_3, f_aW_4, f_aW_5, f_aW_6])), (aF, .inr (4, [f_aF_0, f_aF_1, f_aF_2, f_aF_3, f_aF_4, .int 0, .int 0, f_aF_7, f_aF_8, f_aF_9, f_aF_10, f_aF_11, f_aF_12]))] sz)) 0 0 (va_A [(h0, .inr (11, [f_h0_0, .ref aS, f_h0_2, f_h0_3, f_h0_4, f_h0_5, f_h0_6, f_h0_7, f_h0_8, f_h0_9, f_h0_10, f_h0_11, .ref h1, .int lr])), (aS, .inr (7, [.ref aW, .ref aD, f_aS_2, f_aS_3, f_aS_4])), (aW, .inr (10, [f_aW_0, f_aW_1, .ref aF, f_aW_3, f_aW_4, f_aW_5, f_aW_6])), (aF, .inr (4, [f_aF_0, f_aF_1, f_aF_2, f_aF_3, f_aF_4, .int 0, .int 0, f_aF_7, f_aF_8, f_aF_9, f_aF_10, f_aF_11, f_aF_12]))] sz) := by
  refine Met.ofW (cc := cX11_din) (maxL := 2) (ret := (some .int)) (by decide) rfl ?_
  intro p e s m args below meth c s₁ B hml hv
  obtain ⟨rfl, hsz, hP, hK, hD0, hN⟩ := hv
  have hx := B.exec
  have hb := B.bytes
  have hr := B.returns
  have hts := atoms_spec (ws := Cond.code yX11_din cX11_din 2 (some .int) :: gW) B.pre
  have htl : ∀ w ∈ gW, w.before _ s = true := fun w h => hts w (List.mem_cons_of_mem _ h)
  have hown : s.vm.findClass RX11 = some m.cls := findClass_of_methodNamed B.named
  have hlocks := B.notSynchronized
  subst hsz
  have hD := hD0.self (sz := s.heap.size)
  generalize hAe : va_A [(h0, .inr (11, [f_h0_0, .ref aS, f_h0_2, f_h0_3, f_h0_4, f_h0_5, f_h0_6, f_h0_7, f_h0_8, f_h0_9, f_h0_10, f_h0_11, .ref h1, .int lr])), (aS, .inr (7, [.ref aW, .ref aD, f_aS_2, f_aS_3, f_aS_4])), (aW, .inr (10, [f_aW_0, f_aW_1, .ref aF, f_aW_3, f_aW_4, f_aW_5, f_aW_6])), (aF, .inr (4, [f_aF_0, f_aF_1, f_aF_2, f_aF_3, f_aF_4, .int 0, .int 0, f_aF_7, f_aF_8, f_aF_9, f_aF_10, f_aF_11, f_aF_12]))] s.heap.size = A at hD ⊢
  have hA : ∀ q : Nat, s.heap.size ≤ q → A q := fun q h => by rw [← hAe]; exact Or.inr h
  have hS : va_S A s.heap s.heap [] := va_S.rf
  have hl := lv_entry ([.ref h0, .int a]) (n := 2) (Nat.le_of_ble_eq_true rfl)
  rw [lg_entry_eq]
  generalize (lg_sl ([.ref h0, .int a]) ++ List.replicate (2 - (lg_sl ([.ref h0, .int a])).length) Slot.unset).toArray = ls at hl ⊢
  have hl : lv_has ls 2 [(0, .ref h0), (1, .int a)] := hl
  refine lv_iload_n hx hb dX11_din_0 rfl (lv_at hl 1 rfl) ?_
  refine lv_bipush (v := 8) hx hb dX11_din_1 (by decide) ?_
  refine vp_callSi (mkSr (rest := []) ⟨hx, hb, hml, hown, htl⟩ hN hK (c_X11_isWithin l G cs a 8) (cS 2 htl lk_RX11_82 mT_X11_isWithin mN_RX11 mC_X11_isWithin ok_X11_isWithin rfl rfl ⟨(Nat.le_of_ble_eq_true rfl), (Nat.le_of_ble_eq_true rfl)⟩) rfl hl.1 rfl (Nat.le_of_ble_eq_true rfl) dX11_din_3 ⟨(Nat.le_of_ble_eq_true rfl), (Nat.le_of_ble_eq_true rfl)⟩) (fun r hw => ?_)
  obtain ⟨rfl, hz_1⟩ := hw
  refine lv_if_eq (tgt := 27) hx hb dX11_din_6 (by decide) (fun c_6 => ?_) (fun c_6 => ?_)
  · refine lv_iconst (v := (-1)) hx hb dX11_din_27 (by decide) ?_
    exact W.iret (v := (-1)) hx hb hr (fun t ht hW => ⟨⟨(-1), (), rfl, (by unfold sp_X11_din; rw [if_pos c_6]), ⟨fun k q h => by simp at h, va_K.moved hW.alike hK, ⟨fun i j p q h => by simp at h, fun k q h => by simp at h⟩⟩⟩, hS.F ht⟩) hS.2.2 dX11_din_28
  · refine lv_aload_n hx hb dX11_din_9 rfl (lv_at hl 0 rfl) ?_
    refine va_get (ci := 11) (v := .ref aS) (C := RX11) (T := TX11) (N := 14) hx hb htl inX11 hown hK hP 0 rfl rfl 1 (by decide) (htl _ fl_RX11_21) (fun _ h9 => h9) rfl dX11_din_10 ?_
    refine va_get (ci := 7) (v := .ref aW) (C := RX7) (T := TX7) (N := 5) hx hb htl inX7 hown hK hP 1 rfl rfl 0 (by decide) (htl _ fl_RX11_78) (fun _ h9 => h9) rfl dX11_din_13 ?_
    refine va_get (ci := 10) (v := .ref aF) (C := RX10) (T := TX10) (N := 7) hx hb htl inX10 hown hK hP 2 rfl rfl 2 (by decide) (htl _ fl_RX11_156) (fun _ h9 => h9) rfl dX11_din_16 ?_
    refine lv_iload_n hx hb dX11_din_19 rfl (lv_at hl 1 rfl) ?_
    refine lv_iconst (v := 0) hx hb dX11_din_20 (by decide) ?_
    refine vp_callSi (mkVr (rest := []) ⟨hx, hb, hml, hown, htl⟩ hN hK hP (c_X4_noiseIn l G cs aF a 0 f_aF_0 f_aF_1 f_aF_2 f_aF_3 f_aF_4 f_aF_7 f_aF_8 f_aF_9 f_aF_10 f_aF_11 f_aF_12) [3] rfl 0 4 rfl rfl (cV 2 htl lk_RX11_265 mI_X4_noiseIn mS_X4_noiseIn mN_RX4 mC_X4_noiseIn ok_X4_noiseIn rfl rfl ⟨(Nat.le_of_ble_eq_true rfl), (Nat.le_of_ble_eq_true rfl)⟩) rfl hl.1 rfl (Nat.le_of_ble_eq_true rfl) dX11_din_21 ⟨(Nat.le_of_ble_eq_true rfl), (Nat.le_of_ble_eq_true rfl)⟩) (fun r hw => ?_)
    obtain rfl : r = 0 := hw.trans (by first | decide +kernel | rfl)
    refine lv_goto (tgt := 28) hx hb dX11_din_24 (by decide) ?_
    exact W.iret (v := 0) hx hb hr (fun t ht hW => ⟨⟨0, (), rfl, (by unfold sp_X11_din; rw [if_neg c_6]), ⟨fun k q h => by simp at h, va_K.moved hW.alike hK, ⟨fun i j p q h => by simp at h, fun k q h => by simp at h⟩⟩⟩, hS.F ht⟩) hS.2.2 dX11_din_28

def sp_X11_hears : Int64 := (-1)
set_option maxHeartbeats 1000000 in
set_option maxRecDepth 100000 in
theorem c_X11_hears (l : Launch) (G : va_G) (cs : Nat → ClassId) (h0 : Nat) (a : Int32) (f_h0_0 : Value) (aS : Nat) (f_h0_2 : Value) (f_h0_3 : Value) (f_h0_4 : Value) (f_h0_5 : Value) (f_h0_6 : Value) (f_h0_7 : Value) (f_h0_8 : Value) (f_h0_9 : Value) (f_h0_10 : Value) (f_h0_11 : Value) (h1 : Nat) (lr : Int32) (aW : Nat) (aD : Nat) (f_aS_2 : Value) (f_aS_3 : Value) (f_aS_4 : Value) (f_aW_0 : Value) (f_aW_1 : Value) (aF : Nat) (f_aW_3 : Value) (f_aW_4 : Value) (f_aW_5 : Value) (f_aW_6 : Value) (f_aF_0 : Value) (f_aF_1 : Value) (f_aF_3 : Value) (f_aF_4 : Value) (f_aF_5 : Value) (f_aF_6 : Value) (f_aF_7 : Value) (f_aF_8 : Value) (f_aF_9 : Value) (f_aF_10 : Value) (f_aF_11 : Value) (f_aF_12 : Value) (sz : Nat) : Met l yX11_hears (Cond.code yX11_hears cX11_hears 3 (some .long) :: gW) ({ frames := 1, cells := 0, slots := 0, locals := 21 }) (va_Pc [.ref h0, .int a] (Pre G cs [(h0, .inr (11, [f_h0_0, .ref aS, f_h0_2, f_h0_3, f_h0_4, f_h0_5, f_h0_6, f_h0_7, f_h0_8, f_h0_9, f_h0_10, f_h0_11, .ref h1, .int lr])), (aS, .inr (7, [.ref aW, .ref aD, f_aS_2, f_aS_3, f_aS_4])), (aW, .inr (10, [f_aW_0, f_aW_1, .ref aF, f_aW_3, f_aW_4, f_aW_5, f_aW_6])), (aF, .inr (4, [f_aF_0, f_aF_1, .int 0, f_aF_3, f_aF_4, f_aF_5, f_aF_6, f_aF_7, f_aF_8, f_aF_9, f_aF_10, f_aF_11, f_aF_12]))] sz)) (va_Ql (fun r (u : Unit) => r = sp_X11_hears) (fun (u : Unit) t => Aft G cs (va_A [(h0, .inr (11, [f_h0_0, .ref aS, f_h0_2, f_h0_3, f_h0_4, f_h0_5, f_h0_6, f_h0_7, f_h0_8, f_h0_9, f_h0_10, f_h0_11, .ref h1, .int lr])), (aS, .inr (7, [.ref aW, .ref aD, f_aS_2, f_aS_3, f_aS_4])), (aW, .inr (10, [f_aW_0, f_aW_1, .ref aF, f_aW_3, f_aW_4, f_aW_5, f_aW_6])), (aF, .inr (4, [f_aF_0, f_aF_1, .int 0, f_aF_3, f_aF_4, f_aF_5, f_aF_6, f_aF_7, f_aF_8, f_aF_9, f_aF_10, f_aF_11, f_aF_12]))] sz) [] t) (va_A [(h0, .inr (11, [f_h0_0, .ref aS, f_h0_2, f_h0_3, f_h0_4, f_h0_5, f_h0_6, f_h0_7, f_h0_8, f_h0_9, f_h0_10, f_h0_11, .ref h1, .int lr])), (aS, .inr (7, [.ref aW, .ref aD, f_aS_2, f_aS_3, f_aS_4])), (aW, .inr (10, [f_aW_0, f_aW_1, .ref aF, f_aW_3, f_aW_4, f_aW_5, f_aW_6])), (aF, .inr (4, [f_aF_0, f_aF_1, .int 0, f_aF_3, f_aF_4, f_aF_5, f_aF_6, f_aF_7, f_aF_8, f_aF_9, f_aF_10, f_aF_11, f_aF_12]))] sz)) 0 0 (va_A [(h0, .inr (11, [f_h0_0, .ref aS, f_h0_2, f_h0_3, f_h0_4, f_h0_5, f_h0_6, f_h0_7, f_h0_8, f_h0_9, f_h0_10, f_h0_11, .ref h1, .int lr])), (aS, .inr (7, [.ref aW, .ref aD, f_aS_2, f_aS_3, f_aS_4])), (aW, .inr (10, [f_aW_0, f_aW_1, .ref aF, f_aW_3, f_aW_4, f_aW_5, f_aW_6])), (aF, .inr (4, [f_aF_0, f_aF_1, .int 0, f_aF_3, f_aF_4, f_aF_5, f_aF_6, f_aF_7, f_aF_8, f_aF_9, f_aF_10, f_aF_11, f_aF_12]))] sz) := by
  refine Met.ofW (cc := cX11_hears) (maxL := 3) (ret := (some .long)) (by decide) rfl ?_
  intro p e s m args below meth c s₁ B hml hv
  obtain ⟨rfl, hsz, hP, hK, hD0, hN⟩ := hv
  have hx := B.exec
  have hb := B.bytes
  have hr := B.returns
  have hts := atoms_spec (ws := Cond.code yX11_hears cX11_hears 3 (some .long) :: gW) B.pre
  have htl : ∀ w ∈ gW, w.before _ s = true := fun w h => hts w (List.mem_cons_of_mem _ h)
  have hown : s.vm.findClass RX11 = some m.cls := findClass_of_methodNamed B.named
  have hlocks := B.notSynchronized
  subst hsz
  have hD := hD0.self (sz := s.heap.size)
  generalize hAe : va_A [(h0, .inr (11, [f_h0_0, .ref aS, f_h0_2, f_h0_3, f_h0_4, f_h0_5, f_h0_6, f_h0_7, f_h0_8, f_h0_9, f_h0_10, f_h0_11, .ref h1, .int lr])), (aS, .inr (7, [.ref aW, .ref aD, f_aS_2, f_aS_3, f_aS_4])), (aW, .inr (10, [f_aW_0, f_aW_1, .ref aF, f_aW_3, f_aW_4, f_aW_5, f_aW_6])), (aF, .inr (4, [f_aF_0, f_aF_1, .int 0, f_aF_3, f_aF_4, f_aF_5, f_aF_6, f_aF_7, f_aF_8, f_aF_9, f_aF_10, f_aF_11, f_aF_12]))] s.heap.size = A at hD ⊢
  have hA : ∀ q : Nat, s.heap.size ≤ q → A q := fun q h => by rw [← hAe]; exact Or.inr h
  have hS : va_S A s.heap s.heap [] := va_S.rf
  have hl := lv_entry ([.ref h0, .int a]) (n := 3) (Nat.le_of_ble_eq_true rfl)
  rw [lg_entry_eq]
  generalize (lg_sl ([.ref h0, .int a]) ++ List.replicate (3 - (lg_sl ([.ref h0, .int a])).length) Slot.unset).toArray = ls at hl ⊢
  have hl : lv_has ls 3 [(0, .ref h0), (1, .int a)] := hl
  refine lv_aload_n hx hb dX11_hears_0 rfl (lv_at hl 0 rfl) ?_
  refine va_get (ci := 11) (v := .ref aS) (C := RX11) (T := TX11) (N := 14) hx hb htl inX11 hown hK hP 0 rfl rfl 1 (by decide) (htl _ fl_RX11_21) (fun _ h9 => h9) rfl dX11_hears_1 ?_
  refine va_get (ci := 7) (v := .ref aW) (C := RX7) (T := TX7) (N := 5) hx hb htl inX7 hown hK hP 1 rfl rfl 0 (by decide) (htl _ fl_RX11_78) (fun _ h9 => h9) rfl dX11_hears_4 ?_
  refine lv_astore_n (lv' := [(2, .ref aW), (0, .ref h0), (1, .int a)]) hx hb dX11_hears_7 rfl hl (by decide) rfl (fun ls hl => ?_)
  refine lv_iload_n hx hb dX11_hears_8 rfl (lv_at hl 2 rfl) ?_
  refine lv_aload_n hx hb dX11_hears_9 rfl (lv_at hl 0 rfl) ?_
  refine va_get (ci := 10) (v := .ref aF) (C := RX10) (T := TX10) (N := 7) hx hb htl inX10 hown hK hP 2 rfl rfl 2 (by decide) (htl _ fl_RX11_156) (fun _ h9 => h9) rfl dX11_hears_10 ?_
  refine va_get (ci := 4) (v := .int 0) (C := RX4) (T := TX4) (N := 13) hx hb htl inX4 hown hK hP 3 rfl rfl 2 (by decide) (htl _ fl_RX11_160) (fun _ h9 => h9) rfl dX11_hears_13 ?_
  refine vp_callSi (mkSr (rest := []) ⟨hx, hb, hml, hown, htl⟩ hN hK (c_X11_isWithin l G cs a 0) (cS 2 htl lk_RX11_82 mT_X11_isWithin mN_RX11 mC_X11_isWithin ok_X11_isWithin rfl rfl ⟨(Nat.le_of_ble_eq_true rfl), (Nat.le_of_ble_eq_true rfl)⟩) rfl hl.1 rfl (Nat.le_of_ble_eq_true rfl) dX11_hears_16 ⟨(Nat.le_of_ble_eq_true rfl), (Nat.le_of_ble_eq_true rfl)⟩) (fun r hw => ?_)
  obtain rfl : r = 0 := hw.1.trans (iw_0 _)
  refine lv_if_ne (tgt := 26) hx hb dX11_hears_19 (by decide) (fun h => absurd (by decide) h) (fun _ => ?_)
  refine lv_ldc2 hx hb hown (htl _ ct_RX11_268) dX11_hears_22 ?_
  exact W.lret (v := (-1)) hx hb hr (fun t ht hW => ⟨⟨(-1), (), rfl, rfl, ⟨fun k q h => by simp at h, va_K.moved hW.alike hK, ⟨fun i j p q h => by simp at h, fun k q h => by simp at h⟩⟩⟩, hS.F ht⟩) hS.2.2 dX11_hears_25

def sp_X11_dig (b : Int32) : Int32 := if b < 0 then (-1) else (if b ≤ 2 then (-2) else (-1))
set_option maxHeartbeats 1000000 in
set_option maxRecDepth 100000 in
theorem c_X11_dig (l : Launch) (G : va_G) (cs : Nat → ClassId) (h0 : Nat) (a : Int32) (b : Int32) (f_h0_0 : Value) (aS : Nat) (f_h0_2 : Value) (f_h0_3 : Value) (f_h0_4 : Value) (f_h0_5 : Value) (f_h0_6 : Value) (f_h0_7 : Value) (f_h0_8 : Value) (f_h0_9 : Value) (f_h0_10 : Value) (f_h0_11 : Value) (h1 : Nat) (lr : Int32) (rfs : Nat → Int32) (aW : Nat) (aD : Nat) (f_aS_2 : Value) (f_aS_3 : Value) (f_aS_4 : Value) (f_aW_0 : Value) (aC : Nat) (f_aW_2 : Value) (f_aW_3 : Value) (f_aW_4 : Value) (f_aW_5 : Value) (f_aW_6 : Value) (f_aC_0 : Value) (f_aC_1 : Value) (sz : Nat) : Met l yX11_dig (Cond.code yX11_dig cX11_dig 3 (some .int) :: gW) ({ frames := 2, cells := 0, slots := 0, locals := 47 }) (va_Pc [.ref h0, .int a, .int b] (Pre G cs [(h0, .inr (11, [f_h0_0, .ref aS, f_h0_2, f_h0_3, f_h0_4, f_h0_5, f_h0_6, f_h0_7, f_h0_8, f_h0_9, f_h0_10, f_h0_11, .ref h1, .int lr])), (h1, .inl (cs 0, 7, .inl rfs)), (aS, .inr (7, [.ref aW, .ref aD, f_aS_2, f_aS_3, f_aS_4])), (aW, .inr (10, [f_aW_0, .ref aC, f_aW_2, f_aW_3, f_aW_4, f_aW_5, f_aW_6])), (aC, .inr (1, [f_aC_0, f_aC_1, .int 0]))] sz)) (va_Qi (fun r (u : Unit) => r = sp_X11_dig b) (fun (u : Unit) t => Aft G cs (va_A [(h0, .inr (11, [f_h0_0, .ref aS, f_h0_2, f_h0_3, f_h0_4, f_h0_5, f_h0_6, f_h0_7, f_h0_8, f_h0_9, f_h0_10, f_h0_11, .ref h1, .int lr])), (h1, .inl (cs 0, 7, .inl rfs)), (aS, .inr (7, [.ref aW, .ref aD, f_aS_2, f_aS_3, f_aS_4])), (aW, .inr (10, [f_aW_0, .ref aC, f_aW_2, f_aW_3, f_aW_4, f_aW_5, f_aW_6])), (aC, .inr (1, [f_aC_0, f_aC_1, .int 0]))] sz) [] t) (va_A [(h0, .inr (11, [f_h0_0, .ref aS, f_h0_2, f_h0_3, f_h0_4, f_h0_5, f_h0_6, f_h0_7, f_h0_8, f_h0_9, f_h0_10, f_h0_11, .ref h1, .int lr])), (h1, .inl (cs 0, 7, .inl rfs)), (aS, .inr (7, [.ref aW, .ref aD, f_aS_2, f_aS_3, f_aS_4])), (aW, .inr (10, [f_aW_0, .ref aC, f_aW_2, f_aW_3, f_aW_4, f_aW_5, f_aW_6])), (aC, .inr (1, [f_aC_0, f_aC_1, .int 0]))] sz)) 0 0 (va_A [(h0, .inr (11, [f_h0_0, .ref aS, f_h0_2, f_h0_3, f_h0_4, f_h0_5, f_h0_6, f_h0_7, f_h0_8, f_h0_9, f_h0_10, f_h0_11, .ref h1, .int lr])), (h1, .inl (cs 0, 7, .inl rfs)), (aS, .inr (7, [.ref aW, .ref aD, f_aS_2, f_aS_3, f_aS_4])), (aW, .inr (10, [f_aW_0, .ref aC, f_aW_2, f_aW_3, f_aW_4, f_aW_5, f_aW_6])), (aC, .inr (1, [f_aC_0, f_aC_1, .int 0]))] sz) := by
  refine Met.ofW (cc := cX11_dig) (maxL := 3) (ret := (some .int)) (by decide) rfl ?_
  intro p e s m args below meth c s₁ B hml hv
  obtain ⟨rfl, hsz, hP, hK, hD0, hN⟩ := hv
  have hx := B.exec
  have hb := B.bytes
  have hr := B.returns
  have hts := atoms_spec (ws := Cond.code yX11_dig cX11_dig 3 (some .int) :: gW) B.pre
  have htl : ∀ w ∈ gW, w.before _ s = true := fun w h => hts w (List.mem_cons_of_mem _ h)
  have hown : s.vm.findClass RX11 = some m.cls := findClass_of_methodNamed B.named
  have hlocks := B.notSynchronized
  subst hsz
  have hD := hD0.self (sz := s.heap.size)
  generalize hAe : va_A [(h0, .inr (11, [f_h0_0, .ref aS, f_h0_2, f_h0_3, f_h0_4, f_h0_5, f_h0_6, f_h0_7, f_h0_8, f_h0_9, f_h0_10, f_h0_11, .ref h1, .int lr])), (h1, .inl (cs 0, 7, .inl rfs)), (aS, .inr (7, [.ref aW, .ref aD, f_aS_2, f_aS_3, f_aS_4])), (aW, .inr (10, [f_aW_0, .ref aC, f_aW_2, f_aW_3, f_aW_4, f_aW_5, f_aW_6])), (aC, .inr (1, [f_aC_0, f_aC_1, .int 0]))] s.heap.size = A at hD ⊢
  have hA : ∀ q : Nat, s.heap.size ≤ q → A q := fun q h => by rw [← hAe]; exact Or.inr h
  have hS : va_S A s.heap s.heap [] := va_S.rf
  have hl := lv_entry ([.ref h0, .int a, .int b]) (n := 3) (Nat.le_of_ble_eq_true rfl)
  rw [lg_entry_eq]
  generalize (lg_sl ([.ref h0, .int a, .int b]) ++ List.replicate (3 - (lg_sl ([.ref h0, .int a, .int b])).length) Slot.unset).toArray = ls at hl ⊢
  have hl : lv_has ls 3 [(0, .ref h0), (1, .int a), (2, .int b)] := hl
  refine lv_aload_n hx hb dX11_dig_0 rfl (lv_at hl 0 rfl) ?_
  refine lv_aload_n hx hb dX11_dig_1 rfl (lv_at hl 0 rfl) ?_
  refine va_get (ci := 11) (v := .ref aS) (C := RX11) (T := TX11) (N := 14) hx hb htl inX11 hown hK hP 0 rfl rfl 1 (by decide) (htl _ fl_RX11_21) (fun _ h9 => h9) rfl dX11_dig_2 ?_
  refine lv_iload_n hx hb dX11_dig_5 rfl (lv_at hl 1 rfl) ?_
  refine lv_iload_n hx hb dX11_dig_6 rfl (lv_at hl 2 rfl) ?_
  refine vp_callSi (mkVr (rest := [.ref h0]) ⟨hx, hb, hml, hown, htl⟩ hN hK hP (c_X7_tryDig l G cs aS a b aW (.ref aD) f_aS_2 f_aS_3 f_aS_4 f_aW_0 aC f_aW_2 f_aW_3 f_aW_4 f_aW_5 f_aW_6 f_aC_0 f_aC_1) [2, 3, 4] rfl 0 7 rfl rfl (cV 2 htl lk_RX11_277 mI_X7_tryDig mS_X7_tryDig mN_RX7 mC_X7_tryDig ok_X7_tryDig rfl rfl ⟨(Nat.le_of_ble_eq_true rfl), (Nat.le_of_ble_eq_true rfl)⟩) rfl hl.1 rfl (Nat.le_of_ble_eq_true rfl) dX11_dig_7 ⟨(Nat.le_of_ble_eq_true rfl), (Nat.le_of_ble_eq_true rfl)⟩) (fun r hw => ?_)
  by_cases k_1 : b < 0
  · obtain rfl : r = (-1) := hw.trans (by unfold sp_X7_tryDig; rw [if_pos k_1])
    refine mi (wr := [(aS, .inr (7, [.ref aW, .ref aD, f_aS_2, f_aS_3, f_aS_4])), (aW, .inr (10, [f_aW_0, .ref aC, f_aW_2, f_aW_3, f_aW_4, f_aW_5, f_aW_6])), (aC, .inr (1, [f_aC_0, f_aC_1, .int 0]))]) (mkV (rest := []) ⟨hx, hb, hml, hown, htl⟩ hN hK hP hD (c_X11_settle l G cs h0 (-1) f_h0_0 (.ref aS) f_h0_2 f_h0_3 f_h0_4 f_h0_5 f_h0_6 f_h0_7 f_h0_8 f_h0_9 f_h0_10 f_h0_11 h1 lr (rfs) _ (by decide)) [0, 1] rfl rfl 0 11 rfl rfl (cV 1 htl lk_RX11_91 mI_X11_settle mS_X11_settle mN_RX11 mC_X11_settle ok_X11_settle rfl rfl ⟨(Nat.le_of_ble_eq_true rfl), (Nat.le_of_ble_eq_true rfl)⟩) rfl hl.1 rfl (Nat.le_of_ble_eq_true rfl) dX11_dig_10 ⟨(Nat.le_of_ble_eq_true rfl), (Nat.le_of_ble_eq_true rfl)⟩) hP hD hS hA [0, 1] [2, 3, 4] rfl rfl rfl (by decide) (fun r u_10 H locs hw hP hD hS => ?_)
    have hP : va_P G vwCl [(aS, .inr (7, [.ref aW, .ref aD, f_aS_2, f_aS_3, f_aS_4])), (aW, .inr (10, [f_aW_0, .ref aC, f_aW_2, f_aW_3, f_aW_4, f_aW_5, f_aW_6])), (aC, .inr (1, [f_aC_0, f_aC_1, .int 0]))] H := hP
    have hD : va_D A [(aS, .inr (7, [.ref aW, .ref aD, f_aS_2, f_aS_3, f_aS_4])), (aW, .inr (10, [f_aW_0, .ref aC, f_aW_2, f_aW_3, f_aW_4, f_aW_5, f_aW_6])), (aC, .inr (1, [f_aC_0, f_aC_1, .int 0]))] := hD
    obtain rfl : r = (-1) := hw.trans (by unfold sp_X11_settle; (try rw [if_neg (by decide), if_neg (by decide)]) <;> first | rfl | decide)
    exact W.iret (v := (-1)) hx hb hr (fun t ht hW => ⟨⟨(-1), (), rfl, (by unfold sp_X11_dig; rw [if_pos k_1]), ⟨fun k q h => by simp at h, va_K.moved hW.alike hK, ⟨fun i j p q h => by simp at h, fun k q h => by simp at h⟩⟩⟩, hS.F ht⟩) hS.2.2 dX11_dig_13
  · by_cases k_2 : b ≤ 2
    · obtain rfl : r = (-2) := hw.trans (by unfold sp_X7_tryDig; rw [if_neg k_1, if_pos k_2])
      refine mi (wr := [(aS, .inr (7, [.ref aW, .ref aD, f_aS_2, f_aS_3, f_aS_4])), (aW, .inr (10, [f_aW_0, .ref aC, f_aW_2, f_aW_3, f_aW_4, f_aW_5, f_aW_6])), (aC, .inr (1, [f_aC_0, f_aC_1, .int 0]))]) (mkV (rest := []) ⟨hx, hb, hml, hown, htl⟩ hN hK hP hD (c_X11_settle l G cs h0 (-2) f_h0_0 (.ref aS) f_h0_2 f_h0_3 f_h0_4 f_h0_5 f_h0_6 f_h0_7 f_h0_8 f_h0_9 f_h0_10 f_h0_11 h1 lr (rfs) _ (by decide)) [0, 1] rfl rfl 0 11 rfl rfl (cV 1 htl lk_RX11_91 mI_X11_settle mS_X11_settle mN_RX11 mC_X11_settle ok_X11_settle rfl rfl ⟨(Nat.le_of_ble_eq_true rfl), (Nat.le_of_ble_eq_true rfl)⟩) rfl hl.1 rfl (Nat.le_of_ble_eq_true rfl) dX11_dig_10 ⟨(Nat.le_of_ble_eq_true rfl), (Nat.le_of_ble_eq_true rfl)⟩) hP hD hS hA [0, 1] [2, 3, 4] rfl rfl rfl (by decide) (fun r u_10 H locs hw hP hD hS => ?_)
      have hP : va_P G vwCl [(aS, .inr (7, [.ref aW, .ref aD, f_aS_2, f_aS_3, f_aS_4])), (aW, .inr (10, [f_aW_0, .ref aC, f_aW_2, f_aW_3, f_aW_4, f_aW_5, f_aW_6])), (aC, .inr (1, [f_aC_0, f_aC_1, .int 0]))] H := hP
      have hD : va_D A [(aS, .inr (7, [.ref aW, .ref aD, f_aS_2, f_aS_3, f_aS_4])), (aW, .inr (10, [f_aW_0, .ref aC, f_aW_2, f_aW_3, f_aW_4, f_aW_5, f_aW_6])), (aC, .inr (1, [f_aC_0, f_aC_1, .int 0]))] := hD
      obtain rfl : r = (-2) := hw.trans (by unfold sp_X11_settle; (try rw [if_neg (by decide), if_neg (by decide)]) <;> first | rfl | decide)
      exact W.iret (v := (-2)) hx hb hr (fun t ht hW => ⟨⟨(-2), (), rfl, (by unfold sp_X11_dig; rw [if_neg k_1, if_pos k_2]), ⟨fun k q h => by simp at h, va_K.moved hW.alike hK, ⟨fun i j p q h => by simp at h, fun k q h => by simp at h⟩⟩⟩, hS.F ht⟩) hS.2.2 dX11_dig_13
    · obtain rfl : r = (-1) := hw.trans (by unfold sp_X7_tryDig; rw [if_neg k_1, if_neg k_2])
      refine mi (wr := [(aS, .inr (7, [.ref aW, .ref aD, f_aS_2, f_aS_3, f_aS_4])), (aW, .inr (10, [f_aW_0, .ref aC, f_aW_2, f_aW_3, f_aW_4, f_aW_5, f_aW_6])), (aC, .inr (1, [f_aC_0, f_aC_1, .int 0]))]) (mkV (rest := []) ⟨hx, hb, hml, hown, htl⟩ hN hK hP hD (c_X11_settle l G cs h0 (-1) f_h0_0 (.ref aS) f_h0_2 f_h0_3 f_h0_4 f_h0_5 f_h0_6 f_h0_7 f_h0_8 f_h0_9 f_h0_10 f_h0_11 h1 lr (rfs) _ (by decide)) [0, 1] rfl rfl 0 11 rfl rfl (cV 1 htl lk_RX11_91 mI_X11_settle mS_X11_settle mN_RX11 mC_X11_settle ok_X11_settle rfl rfl ⟨(Nat.le_of_ble_eq_true rfl), (Nat.le_of_ble_eq_true rfl)⟩) rfl hl.1 rfl (Nat.le_of_ble_eq_true rfl) dX11_dig_10 ⟨(Nat.le_of_ble_eq_true rfl), (Nat.le_of_ble_eq_true rfl)⟩) hP hD hS hA [0, 1] [2, 3, 4] rfl rfl rfl (by decide) (fun r u_10 H locs hw hP hD hS => ?_)
      have hP : va_P G vwCl [(aS, .inr (7, [.ref aW, .ref aD, f_aS_2, f_aS_3, f_aS_4])), (aW, .inr (10, [f_aW_0, .ref aC, f_aW_2, f_aW_3, f_aW_4, f_aW_5, f_aW_6])), (aC, .inr (1, [f_aC_0, f_aC_1, .int 0]))] H := hP
      have hD : va_D A [(aS, .inr (7, [.ref aW, .ref aD, f_aS_2, f_aS_3, f_aS_4])), (aW, .inr (10, [f_aW_0, .ref aC, f_aW_2, f_aW_3, f_aW_4, f_aW_5, f_aW_6])), (aC, .inr (1, [f_aC_0, f_aC_1, .int 0]))] := hD
      obtain rfl : r = (-1) := hw.trans (by unfold sp_X11_settle; (try rw [if_neg (by decide), if_neg (by decide)]) <;> first | rfl | decide)
      exact W.iret (v := (-1)) hx hb hr (fun t ht hW => ⟨⟨(-1), (), rfl, (by unfold sp_X11_dig; rw [if_neg k_1, if_neg k_2]), ⟨fun k q h => by simp at h, va_K.moved hW.alike hK, ⟨fun i j p q h => by simp at h, fun k q h => by simp at h⟩⟩⟩, hS.F ht⟩) hS.2.2 dX11_dig_13

def sp_X11_haul : Int32 := (-2)
set_option maxHeartbeats 1000000 in
set_option maxRecDepth 100000 in
theorem c_X11_haul (l : Launch) (G : va_G) (cs : Nat → ClassId) (h0 : Nat) (a : Int32) (f_h0_0 : Value) (aS : Nat) (f_h0_2 : Value) (f_h0_3 : Value) (f_h0_4 : Value) (f_h0_5 : Value) (f_h0_6 : Value) (f_h0_7 : Value) (f_h0_8 : Value) (f_h0_9 : Value) (f_h0_10 : Value) (f_h0_11 : Value) (h1 : Nat) (lr : Int32) (rfs : Nat → Int32) (aW : Nat) (aD : Nat) (f_aS_2 : Value) (f_aS_3 : Value) (f_aS_4 : Value) (f_aW_0 : Value) (aC : Nat) (f_aW_2 : Value) (f_aW_3 : Value) (f_aW_4 : Value) (f_aW_5 : Value) (f_aW_6 : Value) (f_aC_0 : Value) (f_aC_1 : Value) (sz : Nat) : Met l yX11_haul (Cond.code yX11_haul cX11_haul 2 (some .int) :: gW) ({ frames := 2, cells := 0, slots := 0, locals := 46 }) (va_Pc [.ref h0, .int a] (Pre G cs [(h0, .inr (11, [f_h0_0, .ref aS, f_h0_2, f_h0_3, f_h0_4, f_h0_5, f_h0_6, f_h0_7, f_h0_8, f_h0_9, f_h0_10, f_h0_11, .ref h1, .int lr])), (h1, .inl (cs 0, 7, .inl rfs)), (aS, .inr (7, [.ref aW, .ref aD, f_aS_2, f_aS_3, f_aS_4])), (aW, .inr (10, [f_aW_0, .ref aC, f_aW_2, f_aW_3, f_aW_4, f_aW_5, f_aW_6])), (aC, .inr (1, [f_aC_0, f_aC_1, .int 0]))] sz)) (va_Qi (fun r (u : Unit) => r = sp_X11_haul) (fun (u : Unit) t => Aft G cs (va_A [(h0, .inr (11, [f_h0_0, .ref aS, f_h0_2, f_h0_3, f_h0_4, f_h0_5, f_h0_6, f_h0_7, f_h0_8, f_h0_9, f_h0_10, f_h0_11, .ref h1, .int lr])), (h1, .inl (cs 0, 7, .inl rfs)), (aS, .inr (7, [.ref aW, .ref aD, f_aS_2, f_aS_3, f_aS_4])), (aW, .inr (10, [f_aW_0, .ref aC, f_aW_2, f_aW_3, f_aW_4, f_aW_5, f_aW_6])), (aC, .inr (1, [f_aC_0, f_aC_1, .int 0]))] sz) [] t) (va_A [(h0, .inr (11, [f_h0_0, .ref aS, f_h0_2, f_h0_3, f_h0_4, f_h0_5, f_h0_6, f_h0_7, f_h0_8, f_h0_9, f_h0_10, f_h0_11, .ref h1, .int lr])), (h1, .inl (cs 0, 7, .inl rfs)), (aS, .inr (7, [.ref aW, .ref aD, f_aS_2, f_aS_3, f_aS_4])), (aW, .inr (10, [f_aW_0, .ref aC, f_aW_2, f_aW_3, f_aW_4, f_aW_5, f_aW_6])), (aC, .inr (1, [f_aC_0, f_aC_1, .int 0]))] sz)) 0 0 (va_A [(h0, .inr (11, [f_h0_0, .ref aS, f_h0_2, f_h0_3, f_h0_4, f_h0_5, f_h0_6, f_h0_7, f_h0_8, f_h0_9, f_h0_10, f_h0_11, .ref h1, .int lr])), (h1, .inl (cs 0, 7, .inl rfs)), (aS, .inr (7, [.ref aW, .ref aD, f_aS_2, f_aS_3, f_aS_4])), (aW, .inr (10, [f_aW_0, .ref aC, f_aW_2, f_aW_3, f_aW_4, f_aW_5, f_aW_6])), (aC, .inr (1, [f_aC_0, f_aC_1, .int 0]))] sz) := by
  refine Met.ofW (cc := cX11_haul) (maxL := 2) (ret := (some .int)) (by decide) rfl ?_
  intro p e s m args below meth c s₁ B hml hv
  obtain ⟨rfl, hsz, hP, hK, hD0, hN⟩ := hv
  have hx := B.exec
  have hb := B.bytes
  have hr := B.returns
  have hts := atoms_spec (ws := Cond.code yX11_haul cX11_haul 2 (some .int) :: gW) B.pre
  have htl : ∀ w ∈ gW, w.before _ s = true := fun w h => hts w (List.mem_cons_of_mem _ h)
  have hown : s.vm.findClass RX11 = some m.cls := findClass_of_methodNamed B.named
  have hlocks := B.notSynchronized
  subst hsz
  have hD := hD0.self (sz := s.heap.size)
  generalize hAe : va_A [(h0, .inr (11, [f_h0_0, .ref aS, f_h0_2, f_h0_3, f_h0_4, f_h0_5, f_h0_6, f_h0_7, f_h0_8, f_h0_9, f_h0_10, f_h0_11, .ref h1, .int lr])), (h1, .inl (cs 0, 7, .inl rfs)), (aS, .inr (7, [.ref aW, .ref aD, f_aS_2, f_aS_3, f_aS_4])), (aW, .inr (10, [f_aW_0, .ref aC, f_aW_2, f_aW_3, f_aW_4, f_aW_5, f_aW_6])), (aC, .inr (1, [f_aC_0, f_aC_1, .int 0]))] s.heap.size = A at hD ⊢
  have hA : ∀ q : Nat, s.heap.size ≤ q → A q := fun q h => by rw [← hAe]; exact Or.inr h
  have hS : va_S A s.heap s.heap [] := va_S.rf
  have hl := lv_entry ([.ref h0, .int a]) (n := 2) (Nat.le_of_ble_eq_true rfl)
  rw [lg_entry_eq]
  generalize (lg_sl ([.ref h0, .int a]) ++ List.replicate (2 - (lg_sl ([.ref h0, .int a])).length) Slot.unset).toArray = ls at hl ⊢
  have hl : lv_has ls 2 [(0, .ref h0), (1, .int a)] := hl
  refine lv_aload_n hx hb dX11_haul_0 rfl (lv_at hl 0 rfl) ?_
  refine lv_aload_n hx hb dX11_haul_1 rfl (lv_at hl 0 rfl) ?_
  refine va_get (ci := 11) (v := .ref aS) (C := RX11) (T := TX11) (N := 14) hx hb htl inX11 hown hK hP 0 rfl rfl 1 (by decide) (htl _ fl_RX11_21) (fun _ h9 => h9) rfl dX11_haul_2 ?_
  refine lv_iload_n hx hb dX11_haul_5 rfl (lv_at hl 1 rfl) ?_
  refine vp_callSi (mkVr (rest := [.ref h0]) ⟨hx, hb, hml, hown, htl⟩ hN hK hP (c_X7_tryHaul l G cs aS a aW (.ref aD) f_aS_2 f_aS_3 f_aS_4 f_aW_0 aC f_aW_2 f_aW_3 f_aW_4 f_aW_5 f_aW_6 f_aC_0 f_aC_1) [2, 3, 4] rfl 0 7 rfl rfl (cV 1 htl lk_RX11_280 mI_X7_tryHaul mS_X7_tryHaul mN_RX7 mC_X7_tryHaul ok_X7_tryHaul rfl rfl ⟨(Nat.le_of_ble_eq_true rfl), (Nat.le_of_ble_eq_true rfl)⟩) rfl hl.1 rfl (Nat.le_of_ble_eq_true rfl) dX11_haul_6 ⟨(Nat.le_of_ble_eq_true rfl), (Nat.le_of_ble_eq_true rfl)⟩) (fun r hw => ?_)
  obtain rfl : r = (-2) := hw.trans (by first | decide +kernel | rfl)
  refine mi (wr := [(aS, .inr (7, [.ref aW, .ref aD, f_aS_2, f_aS_3, f_aS_4])), (aW, .inr (10, [f_aW_0, .ref aC, f_aW_2, f_aW_3, f_aW_4, f_aW_5, f_aW_6])), (aC, .inr (1, [f_aC_0, f_aC_1, .int 0]))]) (mkV (rest := []) ⟨hx, hb, hml, hown, htl⟩ hN hK hP hD (c_X11_settle l G cs h0 (-2) f_h0_0 (.ref aS) f_h0_2 f_h0_3 f_h0_4 f_h0_5 f_h0_6 f_h0_7 f_h0_8 f_h0_9 f_h0_10 f_h0_11 h1 lr (rfs) _ (by decide)) [0, 1] rfl rfl 0 11 rfl rfl (cV 1 htl lk_RX11_91 mI_X11_settle mS_X11_settle mN_RX11 mC_X11_settle ok_X11_settle rfl rfl ⟨(Nat.le_of_ble_eq_true rfl), (Nat.le_of_ble_eq_true rfl)⟩) rfl hl.1 rfl (Nat.le_of_ble_eq_true rfl) dX11_haul_9 ⟨(Nat.le_of_ble_eq_true rfl), (Nat.le_of_ble_eq_true rfl)⟩) hP hD hS hA [0, 1] [2, 3, 4] rfl rfl rfl (by decide) (fun r u_9 H locs hw hP hD hS => ?_)
  have hP : va_P G vwCl [(aS, .inr (7, [.ref aW, .ref aD, f_aS_2, f_aS_3, f_aS_4])), (aW, .inr (10, [f_aW_0, .ref aC, f_aW_2, f_aW_3, f_aW_4, f_aW_5, f_aW_6])), (aC, .inr (1, [f_aC_0, f_aC_1, .int 0]))] H := hP
  have hD : va_D A [(aS, .inr (7, [.ref aW, .ref aD, f_aS_2, f_aS_3, f_aS_4])), (aW, .inr (10, [f_aW_0, .ref aC, f_aW_2, f_aW_3, f_aW_4, f_aW_5, f_aW_6])), (aC, .inr (1, [f_aC_0, f_aC_1, .int 0]))] := hD
  obtain rfl : r = (-2) := hw.trans (by unfold sp_X11_settle; (try rw [if_neg (by decide), if_neg (by decide)]) <;> first | rfl | decide)
  exact W.iret (v := (-2)) hx hb hr (fun t ht hW => ⟨⟨(-2), (), rfl, rfl, ⟨fun k q h => by simp at h, va_K.moved hW.alike hK, ⟨fun i j p q h => by simp at h, fun k q h => by simp at h⟩⟩⟩, hS.F ht⟩) hS.2.2 dX11_haul_12

def sp_X11_hush : Int32 := (-2)
set_option maxHeartbeats 1000000 in
set_option maxRecDepth 100000 in
theorem c_X11_hush (l : Launch) (G : va_G) (cs : Nat → ClassId) (h0 : Nat) (a : Int32) (f_h0_0 : Value) (aS : Nat) (f_h0_2 : Value) (f_h0_3 : Value) (f_h0_4 : Value) (f_h0_5 : Value) (f_h0_6 : Value) (f_h0_7 : Value) (f_h0_8 : Value) (f_h0_9 : Value) (f_h0_10 : Value) (f_h0_11 : Value) (h1 : Nat) (lr : Int32) (rfs : Nat → Int32) (aW : Nat) (aD : Nat) (f_aS_2 : Value) (f_aS_3 : Value) (f_aS_4 : Value) (f_aW_0 : Value) (f_aW_1 : Value) (aF : Nat) (f_aW_3 : Value) (f_aW_4 : Value) (f_aW_5 : Value) (f_aW_6 : Value) (f_aF_0 : Value) (f_aF_1 : Value) (f_aF_2 : Value) (f_aF_3 : Value) (f_aF_4 : Value) (f_aF_6 : Value) (f_aF_7 : Value) (f_aF_8 : Value) (f_aF_9 : Value) (f_aF_10 : Value) (f_aF_11 : Value) (f_aF_12 : Value) (sz : Nat) : Met l yX11_hush (Cond.code yX11_hush cX11_hush 2 (some .int) :: gW) ({ frames := 2, cells := 0, slots := 0, locals := 43 }) (va_Pc [.ref h0, .int a] (Pre G cs [(h0, .inr (11, [f_h0_0, .ref aS, f_h0_2, f_h0_3, f_h0_4, f_h0_5, f_h0_6, f_h0_7, f_h0_8, f_h0_9, f_h0_10, f_h0_11, .ref h1, .int lr])), (h1, .inl (cs 0, 7, .inl rfs)), (aS, .inr (7, [.ref aW, .ref aD, f_aS_2, f_aS_3, f_aS_4])), (aW, .inr (10, [f_aW_0, f_aW_1, .ref aF, f_aW_3, f_aW_4, f_aW_5, f_aW_6])), (aF, .inr (4, [f_aF_0, f_aF_1, f_aF_2, f_aF_3, f_aF_4, .int 0, f_aF_6, f_aF_7, f_aF_8, f_aF_9, f_aF_10, f_aF_11, f_aF_12]))] sz)) (va_Qi (fun r (u : Unit) => r = sp_X11_hush) (fun (u : Unit) t => Aft G cs (va_A [(h0, .inr (11, [f_h0_0, .ref aS, f_h0_2, f_h0_3, f_h0_4, f_h0_5, f_h0_6, f_h0_7, f_h0_8, f_h0_9, f_h0_10, f_h0_11, .ref h1, .int lr])), (h1, .inl (cs 0, 7, .inl rfs)), (aS, .inr (7, [.ref aW, .ref aD, f_aS_2, f_aS_3, f_aS_4])), (aW, .inr (10, [f_aW_0, f_aW_1, .ref aF, f_aW_3, f_aW_4, f_aW_5, f_aW_6])), (aF, .inr (4, [f_aF_0, f_aF_1, f_aF_2, f_aF_3, f_aF_4, .int 0, f_aF_6, f_aF_7, f_aF_8, f_aF_9, f_aF_10, f_aF_11, f_aF_12]))] sz) [] t) (va_A [(h0, .inr (11, [f_h0_0, .ref aS, f_h0_2, f_h0_3, f_h0_4, f_h0_5, f_h0_6, f_h0_7, f_h0_8, f_h0_9, f_h0_10, f_h0_11, .ref h1, .int lr])), (h1, .inl (cs 0, 7, .inl rfs)), (aS, .inr (7, [.ref aW, .ref aD, f_aS_2, f_aS_3, f_aS_4])), (aW, .inr (10, [f_aW_0, f_aW_1, .ref aF, f_aW_3, f_aW_4, f_aW_5, f_aW_6])), (aF, .inr (4, [f_aF_0, f_aF_1, f_aF_2, f_aF_3, f_aF_4, .int 0, f_aF_6, f_aF_7, f_aF_8, f_aF_9, f_aF_10, f_aF_11, f_aF_12]))] sz)) 0 0 (va_A [(h0, .inr (11, [f_h0_0, .ref aS, f_h0_2, f_h0_3, f_h0_4, f_h0_5, f_h0_6, f_h0_7, f_h0_8, f_h0_9, f_h0_10, f_h0_11, .ref h1, .int lr])), (h1, .inl (cs 0, 7, .inl rfs)), (aS, .inr (7, [.ref aW, .ref aD, f_aS_2, f_aS_3, f_aS_4])), (aW, .inr (10, [f_aW_0, f_aW_1, .ref aF, f_aW_3, f_aW_4, f_aW_5, f_aW_6])), (aF, .inr (4, [f_aF_0, f_aF_1, f_aF_2, f_aF_3, f_aF_4, .int 0, f_aF_6, f_aF_7, f_aF_8, f_aF_9, f_aF_10, f_aF_11, f_aF_12]))] sz) := by
  refine Met.ofW (cc := cX11_hush) (maxL := 2) (ret := (some .int)) (by decide) rfl ?_
  intro p e s m args below meth c s₁ B hml hv
  obtain ⟨rfl, hsz, hP, hK, hD0, hN⟩ := hv
  have hx := B.exec
  have hb := B.bytes
  have hr := B.returns
  have hts := atoms_spec (ws := Cond.code yX11_hush cX11_hush 2 (some .int) :: gW) B.pre
  have htl : ∀ w ∈ gW, w.before _ s = true := fun w h => hts w (List.mem_cons_of_mem _ h)
  have hown : s.vm.findClass RX11 = some m.cls := findClass_of_methodNamed B.named
  have hlocks := B.notSynchronized
  subst hsz
  have hD := hD0.self (sz := s.heap.size)
  generalize hAe : va_A [(h0, .inr (11, [f_h0_0, .ref aS, f_h0_2, f_h0_3, f_h0_4, f_h0_5, f_h0_6, f_h0_7, f_h0_8, f_h0_9, f_h0_10, f_h0_11, .ref h1, .int lr])), (h1, .inl (cs 0, 7, .inl rfs)), (aS, .inr (7, [.ref aW, .ref aD, f_aS_2, f_aS_3, f_aS_4])), (aW, .inr (10, [f_aW_0, f_aW_1, .ref aF, f_aW_3, f_aW_4, f_aW_5, f_aW_6])), (aF, .inr (4, [f_aF_0, f_aF_1, f_aF_2, f_aF_3, f_aF_4, .int 0, f_aF_6, f_aF_7, f_aF_8, f_aF_9, f_aF_10, f_aF_11, f_aF_12]))] s.heap.size = A at hD ⊢
  have hA : ∀ q : Nat, s.heap.size ≤ q → A q := fun q h => by rw [← hAe]; exact Or.inr h
  have hS : va_S A s.heap s.heap [] := va_S.rf
  have hl := lv_entry ([.ref h0, .int a]) (n := 2) (Nat.le_of_ble_eq_true rfl)
  rw [lg_entry_eq]
  generalize (lg_sl ([.ref h0, .int a]) ++ List.replicate (2 - (lg_sl ([.ref h0, .int a])).length) Slot.unset).toArray = ls at hl ⊢
  have hl : lv_has ls 2 [(0, .ref h0), (1, .int a)] := hl
  refine lv_aload_n hx hb dX11_hush_0 rfl (lv_at hl 0 rfl) ?_
  refine lv_aload_n hx hb dX11_hush_1 rfl (lv_at hl 0 rfl) ?_
  refine va_get (ci := 11) (v := .ref aS) (C := RX11) (T := TX11) (N := 14) hx hb htl inX11 hown hK hP 0 rfl rfl 1 (by decide) (htl _ fl_RX11_21) (fun _ h9 => h9) rfl dX11_hush_2 ?_
  refine lv_iload_n hx hb dX11_hush_5 rfl (lv_at hl 1 rfl) ?_
  refine vp_callSi (mkVr (rest := [.ref h0]) ⟨hx, hb, hml, hown, htl⟩ hN hK hP (c_X7_tryHush l G cs aS a aW (.ref aD) f_aS_2 f_aS_3 f_aS_4 f_aW_0 f_aW_1 aF f_aW_3 f_aW_4 f_aW_5 f_aW_6 f_aF_0 f_aF_1 f_aF_2 f_aF_3 f_aF_4 f_aF_6 f_aF_7 f_aF_8 f_aF_9 f_aF_10 f_aF_11 f_aF_12) [2, 3, 4] rfl 0 7 rfl rfl (cV 1 htl lk_RX11_283 mI_X7_tryHush mS_X7_tryHush mN_RX7 mC_X7_tryHush ok_X7_tryHush rfl rfl ⟨(Nat.le_of_ble_eq_true rfl), (Nat.le_of_ble_eq_true rfl)⟩) rfl hl.1 rfl (Nat.le_of_ble_eq_true rfl) dX11_hush_6 ⟨(Nat.le_of_ble_eq_true rfl), (Nat.le_of_ble_eq_true rfl)⟩) (fun r hw => ?_)
  obtain rfl : r = (-2) := hw.trans (by first | decide +kernel | rfl)
  refine mi (wr := [(aS, .inr (7, [.ref aW, .ref aD, f_aS_2, f_aS_3, f_aS_4])), (aW, .inr (10, [f_aW_0, f_aW_1, .ref aF, f_aW_3, f_aW_4, f_aW_5, f_aW_6])), (aF, .inr (4, [f_aF_0, f_aF_1, f_aF_2, f_aF_3, f_aF_4, .int 0, f_aF_6, f_aF_7, f_aF_8, f_aF_9, f_aF_10, f_aF_11, f_aF_12]))]) (mkV (rest := []) ⟨hx, hb, hml, hown, htl⟩ hN hK hP hD (c_X11_settle l G cs h0 (-2) f_h0_0 (.ref aS) f_h0_2 f_h0_3 f_h0_4 f_h0_5 f_h0_6 f_h0_7 f_h0_8 f_h0_9 f_h0_10 f_h0_11 h1 lr (rfs) _ (by decide)) [0, 1] rfl rfl 0 11 rfl rfl (cV 1 htl lk_RX11_91 mI_X11_settle mS_X11_settle mN_RX11 mC_X11_settle ok_X11_settle rfl rfl ⟨(Nat.le_of_ble_eq_true rfl), (Nat.le_of_ble_eq_true rfl)⟩) rfl hl.1 rfl (Nat.le_of_ble_eq_true rfl) dX11_hush_9 ⟨(Nat.le_of_ble_eq_true rfl), (Nat.le_of_ble_eq_true rfl)⟩) hP hD hS hA [0, 1] [2, 3, 4] rfl rfl rfl (by decide) (fun r u_9 H locs hw hP hD hS => ?_)
  have hP : va_P G vwCl [(aS, .inr (7, [.ref aW, .ref aD, f_aS_2, f_aS_3, f_aS_4])), (aW, .inr (10, [f_aW_0, f_aW_1, .ref aF, f_aW_3, f_aW_4, f_aW_5, f_aW_6])), (aF, .inr (4, [f_aF_0, f_aF_1, f_aF_2, f_aF_3, f_aF_4, .int 0, f_aF_6, f_aF_7, f_aF_8, f_aF_9, f_aF_10, f_aF_11, f_aF_12]))] H := hP
  have hD : va_D A [(aS, .inr (7, [.ref aW, .ref aD, f_aS_2, f_aS_3, f_aS_4])), (aW, .inr (10, [f_aW_0, f_aW_1, .ref aF, f_aW_3, f_aW_4, f_aW_5, f_aW_6])), (aF, .inr (4, [f_aF_0, f_aF_1, f_aF_2, f_aF_3, f_aF_4, .int 0, f_aF_6, f_aF_7, f_aF_8, f_aF_9, f_aF_10, f_aF_11, f_aF_12]))] := hD
  obtain rfl : r = (-2) := hw.trans (by unfold sp_X11_settle; (try rw [if_neg (by decide), if_neg (by decide)]) <;> first | rfl | decide)
  exact W.iret (v := (-2)) hx hb hr (fun t ht hW => ⟨⟨(-2), (), rfl, rfl, ⟨fun k q h => by simp at h, va_K.moved hW.alike hK, ⟨fun i j p q h => by simp at h, fun k q h => by simp at h⟩⟩⟩, hS.F ht⟩) hS.2.2 dX11_hush_12

def sp_X11_lie (b : Int32) : Int32 := if (sp_X11_isWithin b 8) = 0 then (-1) else (-2)
set_option maxHeartbeats 1000000 in
set_option maxRecDepth 100000 in
theorem c_X11_lie (l : Launch) (G : va_G) (cs : Nat → ClassId) (h0 : Nat) (a : Int32) (b : Int32) (f_h0_0 : Value) (aS : Nat) (f_h0_2 : Value) (f_h0_3 : Value) (f_h0_4 : Value) (f_h0_5 : Value) (f_h0_6 : Value) (f_h0_7 : Value) (f_h0_8 : Value) (f_h0_9 : Value) (f_h0_10 : Value) (f_h0_11 : Value) (h1 : Nat) (lr : Int32) (rfs : Nat → Int32) (aW : Nat) (aD : Nat) (f_aS_2 : Value) (f_aS_3 : Value) (f_aS_4 : Value) (f_aW_0 : Value) (f_aW_1 : Value) (aF : Nat) (f_aW_3 : Value) (f_aW_4 : Value) (f_aW_5 : Value) (f_aW_6 : Value) (f_aF_0 : Value) (f_aF_1 : Value) (f_aF_3 : Value) (f_aF_4 : Value) (f_aF_5 : Value) (f_aF_6 : Value) (f_aF_7 : Value) (f_aF_8 : Value) (f_aF_9 : Value) (f_aF_10 : Value) (f_aF_11 : Value) (f_aF_12 : Value) (sz : Nat) : Met l yX11_lie (Cond.code yX11_lie cX11_lie 3 (some .int) :: gW) ({ frames := 2, cells := 0, slots := 0, locals := 44 }) (va_Pc [.ref h0, .int a, .int b] (Pre G cs [(h0, .inr (11, [f_h0_0, .ref aS, f_h0_2, f_h0_3, f_h0_4, f_h0_5, f_h0_6, f_h0_7, f_h0_8, f_h0_9, f_h0_10, f_h0_11, .ref h1, .int lr])), (h1, .inl (cs 0, 7, .inl rfs)), (aS, .inr (7, [.ref aW, .ref aD, f_aS_2, f_aS_3, f_aS_4])), (aW, .inr (10, [f_aW_0, f_aW_1, .ref aF, f_aW_3, f_aW_4, f_aW_5, f_aW_6])), (aF, .inr (4, [f_aF_0, f_aF_1, .int 0, f_aF_3, f_aF_4, f_aF_5, f_aF_6, f_aF_7, f_aF_8, f_aF_9, f_aF_10, f_aF_11, f_aF_12]))] sz)) (va_Qi (fun r (u : Unit) => r = sp_X11_lie b) (fun (u : Unit) t => Aft G cs (va_A [(h0, .inr (11, [f_h0_0, .ref aS, f_h0_2, f_h0_3, f_h0_4, f_h0_5, f_h0_6, f_h0_7, f_h0_8, f_h0_9, f_h0_10, f_h0_11, .ref h1, .int lr])), (h1, .inl (cs 0, 7, .inl rfs)), (aS, .inr (7, [.ref aW, .ref aD, f_aS_2, f_aS_3, f_aS_4])), (aW, .inr (10, [f_aW_0, f_aW_1, .ref aF, f_aW_3, f_aW_4, f_aW_5, f_aW_6])), (aF, .inr (4, [f_aF_0, f_aF_1, .int 0, f_aF_3, f_aF_4, f_aF_5, f_aF_6, f_aF_7, f_aF_8, f_aF_9, f_aF_10, f_aF_11, f_aF_12]))] sz) [] t) (va_A [(h0, .inr (11, [f_h0_0, .ref aS, f_h0_2, f_h0_3, f_h0_4, f_h0_5, f_h0_6, f_h0_7, f_h0_8, f_h0_9, f_h0_10, f_h0_11, .ref h1, .int lr])), (h1, .inl (cs 0, 7, .inl rfs)), (aS, .inr (7, [.ref aW, .ref aD, f_aS_2, f_aS_3, f_aS_4])), (aW, .inr (10, [f_aW_0, f_aW_1, .ref aF, f_aW_3, f_aW_4, f_aW_5, f_aW_6])), (aF, .inr (4, [f_aF_0, f_aF_1, .int 0, f_aF_3, f_aF_4, f_aF_5, f_aF_6, f_aF_7, f_aF_8, f_aF_9, f_aF_10, f_aF_11, f_aF_12]))] sz)) 0 0 (va_A [(h0, .inr (11, [f_h0_0, .ref aS, f_h0_2, f_h0_3, f_h0_4, f_h0_5, f_h0_6, f_h0_7, f_h0_8, f_h0_9, f_h0_10, f_h0_11, .ref h1, .int lr])), (h1, .inl (cs 0, 7, .inl rfs)), (aS, .inr (7, [.ref aW, .ref aD, f_aS_2, f_aS_3, f_aS_4])), (aW, .inr (10, [f_aW_0, f_aW_1, .ref aF, f_aW_3, f_aW_4, f_aW_5, f_aW_6])), (aF, .inr (4, [f_aF_0, f_aF_1, .int 0, f_aF_3, f_aF_4, f_aF_5, f_aF_6, f_aF_7, f_aF_8, f_aF_9, f_aF_10, f_aF_11, f_aF_12]))] sz) := by
  refine Met.ofW (cc := cX11_lie) (maxL := 3) (ret := (some .int)) (by decide) rfl ?_
  intro p e s m args below meth c s₁ B hml hv
  obtain ⟨rfl, hsz, hP, hK, hD0, hN⟩ := hv
  have hx := B.exec
  have hb := B.bytes
  have hr := B.returns
  have hts := atoms_spec (ws := Cond.code yX11_lie cX11_lie 3 (some .int) :: gW) B.pre
  have htl : ∀ w ∈ gW, w.before _ s = true := fun w h => hts w (List.mem_cons_of_mem _ h)
  have hown : s.vm.findClass RX11 = some m.cls := findClass_of_methodNamed B.named
  have hlocks := B.notSynchronized
  subst hsz
  have hD := hD0.self (sz := s.heap.size)
  generalize hAe : va_A [(h0, .inr (11, [f_h0_0, .ref aS, f_h0_2, f_h0_3, f_h0_4, f_h0_5, f_h0_6, f_h0_7, f_h0_8, f_h0_9, f_h0_10, f_h0_11, .ref h1, .int lr])), (h1, .inl (cs 0, 7, .inl rfs)), (aS, .inr (7, [.ref aW, .ref aD, f_aS_2, f_aS_3, f_aS_4])), (aW, .inr (10, [f_aW_0, f_aW_1, .ref aF, f_aW_3, f_aW_4, f_aW_5, f_aW_6])), (aF, .inr (4, [f_aF_0, f_aF_1, .int 0, f_aF_3, f_aF_4, f_aF_5, f_aF_6, f_aF_7, f_aF_8, f_aF_9, f_aF_10, f_aF_11, f_aF_12]))] s.heap.size = A at hD ⊢
  have hA : ∀ q : Nat, s.heap.size ≤ q → A q := fun q h => by rw [← hAe]; exact Or.inr h
  have hS : va_S A s.heap s.heap [] := va_S.rf
  have hl := lv_entry ([.ref h0, .int a, .int b]) (n := 3) (Nat.le_of_ble_eq_true rfl)
  rw [lg_entry_eq]
  generalize (lg_sl ([.ref h0, .int a, .int b]) ++ List.replicate (3 - (lg_sl ([.ref h0, .int a, .int b])).length) Slot.unset).toArray = ls at hl ⊢
  have hl : lv_has ls 3 [(0, .ref h0), (1, .int a), (2, .int b)] := hl
  refine lv_aload_n hx hb dX11_lie_0 rfl (lv_at hl 0 rfl) ?_
  refine lv_aload_n hx hb dX11_lie_1 rfl (lv_at hl 0 rfl) ?_
  refine va_get (ci := 11) (v := .ref aS) (C := RX11) (T := TX11) (N := 14) hx hb htl inX11 hown hK hP 0 rfl rfl 1 (by decide) (htl _ fl_RX11_21) (fun _ h9 => h9) rfl dX11_lie_2 ?_
  refine lv_iload_n hx hb dX11_lie_5 rfl (lv_at hl 1 rfl) ?_
  refine lv_iload_n hx hb dX11_lie_6 rfl (lv_at hl 2 rfl) ?_
  refine vp_callSi (mkVr (rest := [.ref h0]) ⟨hx, hb, hml, hown, htl⟩ hN hK hP (c_X7_tryLie l G cs aS a b aW (.ref aD) f_aS_2 f_aS_3 f_aS_4 f_aW_0 f_aW_1 aF f_aW_3 f_aW_4 f_aW_5 f_aW_6 f_aF_0 f_aF_1 f_aF_3 f_aF_4 f_aF_5 f_aF_6 f_aF_7 f_aF_8 f_aF_9 f_aF_10 f_aF_11 f_aF_12) [2, 3, 4] rfl 0 7 rfl rfl (cV 2 htl lk_RX11_286 mI_X7_tryLie mS_X7_tryLie mN_RX7 mC_X7_tryLie ok_X7_tryLie rfl rfl ⟨(Nat.le_of_ble_eq_true rfl), (Nat.le_of_ble_eq_true rfl)⟩) rfl hl.1 rfl (Nat.le_of_ble_eq_true rfl) dX11_lie_7 ⟨(Nat.le_of_ble_eq_true rfl), (Nat.le_of_ble_eq_true rfl)⟩) (fun r hw => ?_)
  by_cases k_1 : (sp_X11_isWithin b 8) = 0
  · obtain rfl : r = (-1) := hw.trans (by unfold sp_X7_tryLie; rw [if_pos k_1])
    refine mi (wr := [(aS, .inr (7, [.ref aW, .ref aD, f_aS_2, f_aS_3, f_aS_4])), (aW, .inr (10, [f_aW_0, f_aW_1, .ref aF, f_aW_3, f_aW_4, f_aW_5, f_aW_6])), (aF, .inr (4, [f_aF_0, f_aF_1, .int 0, f_aF_3, f_aF_4, f_aF_5, f_aF_6, f_aF_7, f_aF_8, f_aF_9, f_aF_10, f_aF_11, f_aF_12]))]) (mkV (rest := []) ⟨hx, hb, hml, hown, htl⟩ hN hK hP hD (c_X11_settle l G cs h0 (-1) f_h0_0 (.ref aS) f_h0_2 f_h0_3 f_h0_4 f_h0_5 f_h0_6 f_h0_7 f_h0_8 f_h0_9 f_h0_10 f_h0_11 h1 lr (rfs) _ (by decide)) [0, 1] rfl rfl 0 11 rfl rfl (cV 1 htl lk_RX11_91 mI_X11_settle mS_X11_settle mN_RX11 mC_X11_settle ok_X11_settle rfl rfl ⟨(Nat.le_of_ble_eq_true rfl), (Nat.le_of_ble_eq_true rfl)⟩) rfl hl.1 rfl (Nat.le_of_ble_eq_true rfl) dX11_lie_10 ⟨(Nat.le_of_ble_eq_true rfl), (Nat.le_of_ble_eq_true rfl)⟩) hP hD hS hA [0, 1] [2, 3, 4] rfl rfl rfl (by decide) (fun r u_10 H locs hw hP hD hS => ?_)
    have hP : va_P G vwCl [(aS, .inr (7, [.ref aW, .ref aD, f_aS_2, f_aS_3, f_aS_4])), (aW, .inr (10, [f_aW_0, f_aW_1, .ref aF, f_aW_3, f_aW_4, f_aW_5, f_aW_6])), (aF, .inr (4, [f_aF_0, f_aF_1, .int 0, f_aF_3, f_aF_4, f_aF_5, f_aF_6, f_aF_7, f_aF_8, f_aF_9, f_aF_10, f_aF_11, f_aF_12]))] H := hP
    have hD : va_D A [(aS, .inr (7, [.ref aW, .ref aD, f_aS_2, f_aS_3, f_aS_4])), (aW, .inr (10, [f_aW_0, f_aW_1, .ref aF, f_aW_3, f_aW_4, f_aW_5, f_aW_6])), (aF, .inr (4, [f_aF_0, f_aF_1, .int 0, f_aF_3, f_aF_4, f_aF_5, f_aF_6, f_aF_7, f_aF_8, f_aF_9, f_aF_10, f_aF_11, f_aF_12]))] := hD
    obtain rfl : r = (-1) := hw.trans (by unfold sp_X11_settle; (try rw [if_neg (by decide), if_neg (by decide)]) <;> first | rfl | decide)
    exact W.iret (v := (-1)) hx hb hr (fun t ht hW => ⟨⟨(-1), (), rfl, (by unfold sp_X11_lie; rw [if_pos k_1]), ⟨fun k q h => by simp at h, va_K.moved hW.alike hK, ⟨fun i j p q h => by simp at h, fun k q h => by simp at h⟩⟩⟩, hS.F ht⟩) hS.2.2 dX11_lie_13
  · obtain rfl : r = (-2) := hw.trans (by unfold sp_X7_tryLie; rw [if_neg k_1])
    refine mi (wr := [(aS, .inr (7, [.ref aW, .ref aD, f_aS_2, f_aS_3, f_aS_4])), (aW, .inr (10, [f_aW_0, f_aW_1, .ref aF, f_aW_3, f_aW_4, f_aW_5, f_aW_6])), (aF, .inr (4, [f_aF_0, f_aF_1, .int 0, f_aF_3, f_aF_4, f_aF_5, f_aF_6, f_aF_7, f_aF_8, f_aF_9, f_aF_10, f_aF_11, f_aF_12]))]) (mkV (rest := []) ⟨hx, hb, hml, hown, htl⟩ hN hK hP hD (c_X11_settle l G cs h0 (-2) f_h0_0 (.ref aS) f_h0_2 f_h0_3 f_h0_4 f_h0_5 f_h0_6 f_h0_7 f_h0_8 f_h0_9 f_h0_10 f_h0_11 h1 lr (rfs) _ (by decide)) [0, 1] rfl rfl 0 11 rfl rfl (cV 1 htl lk_RX11_91 mI_X11_settle mS_X11_settle mN_RX11 mC_X11_settle ok_X11_settle rfl rfl ⟨(Nat.le_of_ble_eq_true rfl), (Nat.le_of_ble_eq_true rfl)⟩) rfl hl.1 rfl (Nat.le_of_ble_eq_true rfl) dX11_lie_10 ⟨(Nat.le_of_ble_eq_true rfl), (Nat.le_of_ble_eq_true rfl)⟩) hP hD hS hA [0, 1] [2, 3, 4] rfl rfl rfl (by decide) (fun r u_10 H locs hw hP hD hS => ?_)
    have hP : va_P G vwCl [(aS, .inr (7, [.ref aW, .ref aD, f_aS_2, f_aS_3, f_aS_4])), (aW, .inr (10, [f_aW_0, f_aW_1, .ref aF, f_aW_3, f_aW_4, f_aW_5, f_aW_6])), (aF, .inr (4, [f_aF_0, f_aF_1, .int 0, f_aF_3, f_aF_4, f_aF_5, f_aF_6, f_aF_7, f_aF_8, f_aF_9, f_aF_10, f_aF_11, f_aF_12]))] H := hP
    have hD : va_D A [(aS, .inr (7, [.ref aW, .ref aD, f_aS_2, f_aS_3, f_aS_4])), (aW, .inr (10, [f_aW_0, f_aW_1, .ref aF, f_aW_3, f_aW_4, f_aW_5, f_aW_6])), (aF, .inr (4, [f_aF_0, f_aF_1, .int 0, f_aF_3, f_aF_4, f_aF_5, f_aF_6, f_aF_7, f_aF_8, f_aF_9, f_aF_10, f_aF_11, f_aF_12]))] := hD
    obtain rfl : r = (-2) := hw.trans (by unfold sp_X11_settle; (try rw [if_neg (by decide), if_neg (by decide)]) <;> first | rfl | decide)
    exact W.iret (v := (-2)) hx hb hr (fun t ht hW => ⟨⟨(-2), (), rfl, (by unfold sp_X11_lie; rw [if_neg k_1]), ⟨fun k q h => by simp at h, va_K.moved hW.alike hK, ⟨fun i j p q h => by simp at h, fun k q h => by simp at h⟩⟩⟩, hS.F ht⟩) hS.2.2 dX11_lie_13

def sp_X11_undo : Int32 := (-3)
set_option maxHeartbeats 1000000 in
set_option maxRecDepth 100000 in
theorem c_X11_undo (l : Launch) (G : va_G) (cs : Nat → ClassId) (h0 : Nat) (f_h0_0 : Value) (aS : Nat) (f_h0_2 : Value) (f_h0_3 : Value) (f_h0_4 : Value) (f_h0_5 : Value) (f_h0_6 : Value) (f_h0_7 : Value) (f_h0_8 : Value) (f_h0_9 : Value) (f_h0_10 : Value) (f_h0_11 : Value) (h1 : Nat) (lr : Int32) (rfs : Nat → Int32) (aW : Nat) (aD : Nat) (f_aS_2 : Value) (f_aS_3 : Value) (f_aS_4 : Value) (f_aD_0 : Value) (f_aD_1 : Value) (f_aD_2 : Value) (f_aD_3 : Value) (f_aD_4 : Value) (f_aD_6 : Value) (sz : Nat) : Met l yX11_undo (Cond.code yX11_undo cX11_undo 1 (some .int) :: gW) ({ frames := 1, cells := 0, slots := 0, locals := 23 }) (va_Pc [.ref h0] (Pre G cs [(h0, .inr (11, [f_h0_0, .ref aS, f_h0_2, f_h0_3, f_h0_4, f_h0_5, f_h0_6, f_h0_7, f_h0_8, f_h0_9, f_h0_10, f_h0_11, .ref h1, .int lr])), (h1, .inl (cs 0, 7, .inl rfs)), (aS, .inr (7, [.ref aW, .ref aD, f_aS_2, f_aS_3, f_aS_4])), (aD, .inr (2, [f_aD_0, f_aD_1, f_aD_2, f_aD_3, f_aD_4, .int 0, f_aD_6]))] sz)) (va_Qi (fun r (u : Unit) => r = sp_X11_undo) (fun (u : Unit) t => Aft G cs (va_A [(h0, .inr (11, [f_h0_0, .ref aS, f_h0_2, f_h0_3, f_h0_4, f_h0_5, f_h0_6, f_h0_7, f_h0_8, f_h0_9, f_h0_10, f_h0_11, .ref h1, .int lr])), (h1, .inl (cs 0, 7, .inl rfs)), (aS, .inr (7, [.ref aW, .ref aD, f_aS_2, f_aS_3, f_aS_4])), (aD, .inr (2, [f_aD_0, f_aD_1, f_aD_2, f_aD_3, f_aD_4, .int 0, f_aD_6]))] sz) [] t) (va_A [(h0, .inr (11, [f_h0_0, .ref aS, f_h0_2, f_h0_3, f_h0_4, f_h0_5, f_h0_6, f_h0_7, f_h0_8, f_h0_9, f_h0_10, f_h0_11, .ref h1, .int lr])), (h1, .inl (cs 0, 7, .inl rfs)), (aS, .inr (7, [.ref aW, .ref aD, f_aS_2, f_aS_3, f_aS_4])), (aD, .inr (2, [f_aD_0, f_aD_1, f_aD_2, f_aD_3, f_aD_4, .int 0, f_aD_6]))] sz)) 0 0 (va_A [(h0, .inr (11, [f_h0_0, .ref aS, f_h0_2, f_h0_3, f_h0_4, f_h0_5, f_h0_6, f_h0_7, f_h0_8, f_h0_9, f_h0_10, f_h0_11, .ref h1, .int lr])), (h1, .inl (cs 0, 7, .inl rfs)), (aS, .inr (7, [.ref aW, .ref aD, f_aS_2, f_aS_3, f_aS_4])), (aD, .inr (2, [f_aD_0, f_aD_1, f_aD_2, f_aD_3, f_aD_4, .int 0, f_aD_6]))] sz) := by
  refine Met.ofW (cc := cX11_undo) (maxL := 1) (ret := (some .int)) (by decide) rfl ?_
  intro p e s m args below meth c s₁ B hml hv
  obtain ⟨rfl, hsz, hP, hK, hD0, hN⟩ := hv
  have hx := B.exec
  have hb := B.bytes
  have hr := B.returns
  have hts := atoms_spec (ws := Cond.code yX11_undo cX11_undo 1 (some .int) :: gW) B.pre
  have htl : ∀ w ∈ gW, w.before _ s = true := fun w h => hts w (List.mem_cons_of_mem _ h)
  have hown : s.vm.findClass RX11 = some m.cls := findClass_of_methodNamed B.named
  have hlocks := B.notSynchronized
  subst hsz
  have hD := hD0.self (sz := s.heap.size)
  generalize hAe : va_A [(h0, .inr (11, [f_h0_0, .ref aS, f_h0_2, f_h0_3, f_h0_4, f_h0_5, f_h0_6, f_h0_7, f_h0_8, f_h0_9, f_h0_10, f_h0_11, .ref h1, .int lr])), (h1, .inl (cs 0, 7, .inl rfs)), (aS, .inr (7, [.ref aW, .ref aD, f_aS_2, f_aS_3, f_aS_4])), (aD, .inr (2, [f_aD_0, f_aD_1, f_aD_2, f_aD_3, f_aD_4, .int 0, f_aD_6]))] s.heap.size = A at hD ⊢
  have hA : ∀ q : Nat, s.heap.size ≤ q → A q := fun q h => by rw [← hAe]; exact Or.inr h
  have hS : va_S A s.heap s.heap [] := va_S.rf
  have hl := lv_entry ([.ref h0]) (n := 1) (Nat.le_of_ble_eq_true rfl)
  rw [lg_entry_eq]
  generalize (lg_sl ([.ref h0]) ++ List.replicate (1 - (lg_sl ([.ref h0])).length) Slot.unset).toArray = ls at hl ⊢
  have hl : lv_has ls 1 [(0, .ref h0)] := hl
  refine lv_aload_n hx hb dX11_undo_0 rfl (lv_at hl 0 rfl) ?_
  refine lv_aload_n hx hb dX11_undo_1 rfl (lv_at hl 0 rfl) ?_
  refine va_get (ci := 11) (v := .ref aS) (C := RX11) (T := TX11) (N := 14) hx hb htl inX11 hown hK hP 0 rfl rfl 1 (by decide) (htl _ fl_RX11_21) (fun _ h9 => h9) rfl dX11_undo_2 ?_
  refine vp_callSi (mkVr (rest := [.ref h0]) ⟨hx, hb, hml, hown, htl⟩ hN hK hP (c_X7_takeBack l G cs aS (.ref aW) aD f_aS_2 f_aS_3 f_aS_4 f_aD_0 f_aD_1 f_aD_2 f_aD_3 f_aD_4 f_aD_6) [2, 3] rfl 0 7 rfl rfl (cV 0 htl lk_RX11_289 mI_X7_takeBack mS_X7_takeBack mN_RX7 mC_X7_takeBack ok_X7_takeBack rfl rfl ⟨(Nat.le_of_ble_eq_true rfl), (Nat.le_of_ble_eq_true rfl)⟩) rfl hl.1 rfl (Nat.le_of_ble_eq_true rfl) dX11_undo_5 ⟨(Nat.le_of_ble_eq_true rfl), (Nat.le_of_ble_eq_true rfl)⟩) (fun r hw => ?_)
  obtain rfl : r = (-3) := hw.trans (by first | decide +kernel | rfl)
  refine mi (wr := [(aS, .inr (7, [.ref aW, .ref aD, f_aS_2, f_aS_3, f_aS_4])), (aD, .inr (2, [f_aD_0, f_aD_1, f_aD_2, f_aD_3, f_aD_4, .int 0, f_aD_6]))]) (mkV (rest := []) ⟨hx, hb, hml, hown, htl⟩ hN hK hP hD (c_X11_settle l G cs h0 (-3) f_h0_0 (.ref aS) f_h0_2 f_h0_3 f_h0_4 f_h0_5 f_h0_6 f_h0_7 f_h0_8 f_h0_9 f_h0_10 f_h0_11 h1 lr (rfs) _ (by decide)) [0, 1] rfl rfl 0 11 rfl rfl (cV 1 htl lk_RX11_91 mI_X11_settle mS_X11_settle mN_RX11 mC_X11_settle ok_X11_settle rfl rfl ⟨(Nat.le_of_ble_eq_true rfl), (Nat.le_of_ble_eq_true rfl)⟩) rfl hl.1 rfl (Nat.le_of_ble_eq_true rfl) dX11_undo_8 ⟨(Nat.le_of_ble_eq_true rfl), (Nat.le_of_ble_eq_true rfl)⟩) hP hD hS hA [0, 1] [2, 3] rfl rfl rfl (by decide) (fun r u_8 H locs hw hP hD hS => ?_)
  have hP : va_P G vwCl [(aS, .inr (7, [.ref aW, .ref aD, f_aS_2, f_aS_3, f_aS_4])), (aD, .inr (2, [f_aD_0, f_aD_1, f_aD_2, f_aD_3, f_aD_4, .int 0, f_aD_6]))] H := hP
  have hD : va_D A [(aS, .inr (7, [.ref aW, .ref aD, f_aS_2, f_aS_3, f_aS_4])), (aD, .inr (2, [f_aD_0, f_aD_1, f_aD_2, f_aD_3, f_aD_4, .int 0, f_aD_6]))] := hD
  obtain rfl : r = (-3) := hw.trans (by unfold sp_X11_settle; (try rw [if_neg (by decide), if_neg (by decide)]) <;> first | rfl | decide)
  exact W.iret (v := (-3)) hx hb hr (fun t ht hW => ⟨⟨(-3), (), rfl, rfl, ⟨fun k q h => by simp at h, va_K.moved hW.alike hK, ⟨fun i j p q h => by simp at h, fun k q h => by simp at h⟩⟩⟩, hS.F ht⟩) hS.2.2 dX11_undo_11

def sp_X11_down (d : Int32) : Int32 := if d < 0 then (-1) else (-1)
set_option maxHeartbeats 1000000 in
set_option maxRecDepth 100000 in
theorem c_X11_down (l : Launch) (G : va_G) (cs : Nat → ClassId) (h0 : Nat) (a : Int32) (b : Int32) (d : Int32) (f_h0_0 : Value) (aS : Nat) (f_h0_2 : Value) (f_h0_3 : Value) (f_h0_4 : Value) (f_h0_5 : Value) (f_h0_6 : Value) (f_h0_7 : Value) (f_h0_8 : Value) (f_h0_9 : Value) (f_h0_10 : Value) (f_h0_11 : Value) (h1 : Nat) (lr : Int32) (aW : Nat) (aD : Nat) (f_aS_2 : Value) (f_aS_3 : Value) (f_aS_4 : Value) (f_aW_0 : Value) (aC : Nat) (f_aW_2 : Value) (f_aW_3 : Value) (f_aW_4 : Value) (f_aW_5 : Value) (f_aW_6 : Value) (f_aC_0 : Value) (f_aC_1 : Value) (sz : Nat) : Met l yX11_down (Cond.code yX11_down cX11_down 4 (some .int) :: gW) ({ frames := 2, cells := 0, slots := 0, locals := 44 }) (va_Pc [.ref h0, .int a, .int b, .int d] (Pre G cs [(h0, .inr (11, [f_h0_0, .ref aS, f_h0_2, f_h0_3, f_h0_4, f_h0_5, f_h0_6, f_h0_7, f_h0_8, f_h0_9, f_h0_10, f_h0_11, .ref h1, .int lr])), (aS, .inr (7, [.ref aW, .ref aD, f_aS_2, f_aS_3, f_aS_4])), (aW, .inr (10, [f_aW_0, .ref aC, f_aW_2, f_aW_3, f_aW_4, f_aW_5, f_aW_6])), (aC, .inr (1, [f_aC_0, f_aC_1, .int 0]))] sz)) (va_Qi (fun r (u : Unit) => r = sp_X11_down d) (fun (u : Unit) t => Aft G cs (va_A [(h0, .inr (11, [f_h0_0, .ref aS, f_h0_2, f_h0_3, f_h0_4, f_h0_5, f_h0_6, f_h0_7, f_h0_8, f_h0_9, f_h0_10, f_h0_11, .ref h1, .int lr])), (aS, .inr (7, [.ref aW, .ref aD, f_aS_2, f_aS_3, f_aS_4])), (aW, .inr (10, [f_aW_0, .ref aC, f_aW_2, f_aW_3, f_aW_4, f_aW_5, f_aW_6])), (aC, .inr (1, [f_aC_0, f_aC_1, .int 0]))] sz) [] t) (va_A [(h0, .inr (11, [f_h0_0, .ref aS, f_h0_2, f_h0_3, f_h0_4, f_h0_5, f_h0_6, f_h0_7, f_h0_8, f_h0_9, f_h0_10, f_h0_11, .ref h1, .int lr])), (aS, .inr (7, [.ref aW, .ref aD, f_aS_2, f_aS_3, f_aS_4])), (aW, .inr (10, [f_aW_0, .ref aC, f_aW_2, f_aW_3, f_aW_4, f_aW_5, f_aW_6])), (aC, .inr (1, [f_aC_0, f_aC_1, .int 0]))] sz)) 0 0 (va_A [(h0, .inr (11, [f_h0_0, .ref aS, f_h0_2, f_h0_3, f_h0_4, f_h0_5, f_h0_6, f_h0_7, f_h0_8, f_h0_9, f_h0_10, f_h0_11, .ref h1, .int lr])), (aS, .inr (7, [.ref aW, .ref aD, f_aS_2, f_aS_3, f_aS_4])), (aW, .inr (10, [f_aW_0, .ref aC, f_aW_2, f_aW_3, f_aW_4, f_aW_5, f_aW_6])), (aC, .inr (1, [f_aC_0, f_aC_1, .int 0]))] sz) := by
  refine Met.ofW (cc := cX11_down) (maxL := 4) (ret := (some .int)) (by decide) rfl ?_
  intro p e s m args below meth c s₁ B hml hv
  obtain ⟨rfl, hsz, hP, hK, hD0, hN⟩ := hv
  have hx := B.exec
  have hb := B.bytes
  have hr := B.returns
  have hts := atoms_spec (ws := Cond.code yX11_down cX11_down 4 (some .int) :: gW) B.pre
  have htl : ∀ w ∈ gW, w.before _ s = true := fun w h => hts w (List.mem_cons_of_mem _ h)
  have hown : s.vm.findClass RX11 = some m.cls := findClass_of_methodNamed B.named
  have hlocks := B.notSynchronized
  subst hsz
  have hD := hD0.self (sz := s.heap.size)
  generalize hAe : va_A [(h0, .inr (11, [f_h0_0, .ref aS, f_h0_2, f_h0_3, f_h0_4, f_h0_5, f_h0_6, f_h0_7, f_h0_8, f_h0_9, f_h0_10, f_h0_11, .ref h1, .int lr])), (aS, .inr (7, [.ref aW, .ref aD, f_aS_2, f_aS_3, f_aS_4])), (aW, .inr (10, [f_aW_0, .ref aC, f_aW_2, f_aW_3, f_aW_4, f_aW_5, f_aW_6])), (aC, .inr (1, [f_aC_0, f_aC_1, .int 0]))] s.heap.size = A at hD ⊢
  have hA : ∀ q : Nat, s.heap.size ≤ q → A q := fun q h => by rw [← hAe]; exact Or.inr h
  have hS : va_S A s.heap s.heap [] := va_S.rf
  have hl := lv_entry ([.ref h0, .int a, .int b, .int d]) (n := 4) (Nat.le_of_ble_eq_true rfl)
  rw [lg_entry_eq]
  generalize (lg_sl ([.ref h0, .int a, .int b, .int d]) ++ List.replicate (4 - (lg_sl ([.ref h0, .int a, .int b, .int d])).length) Slot.unset).toArray = ls at hl ⊢
  have hl : lv_has ls 4 [(0, .ref h0), (1, .int a), (2, .int b), (3, .int d)] := hl
  refine lv_iload_n hx hb dX11_down_0 rfl (lv_at hl 3 rfl) ?_
  refine lv_if_lt (tgt := 13) hx hb dX11_down_1 (by decide) (fun c_1 => ?_) (fun c_1 => ?_)
  · refine lv_iconst (v := (-1)) hx hb dX11_down_13 (by decide) ?_
    exact W.iret (v := (-1)) hx hb hr (fun t ht hW => ⟨⟨(-1), (), rfl, (by unfold sp_X11_down; rw [if_pos c_1]), ⟨fun k q h => by simp at h, va_K.moved hW.alike hK, ⟨fun i j p q h => by simp at h, fun k q h => by simp at h⟩⟩⟩, hS.F ht⟩) hS.2.2 dX11_down_14
  · refine lv_aload_n hx hb dX11_down_4 rfl (lv_at hl 0 rfl) ?_
    refine lv_iload_n hx hb dX11_down_5 rfl (lv_at hl 1 rfl) ?_
    refine lv_iload_n hx hb dX11_down_6 rfl (lv_at hl 2 rfl) ?_
    refine vp_callSi (mkVr (rest := []) ⟨hx, hb, hml, hown, htl⟩ hN hK hP (c_X11_findWay l G cs h0 a b f_h0_0 aS f_h0_2 f_h0_3 f_h0_4 f_h0_5 f_h0_6 f_h0_7 f_h0_8 f_h0_9 f_h0_10 f_h0_11 (.ref h1) (.int lr) aW (.ref aD) f_aS_2 f_aS_3 f_aS_4 f_aW_0 aC f_aW_2 f_aW_3 f_aW_4 f_aW_5 f_aW_6 f_aC_0 f_aC_1) [0, 1, 2, 3] rfl 0 11 rfl rfl (cV 2 htl lk_RX11_293 mI_X11_findWay mS_X11_findWay mN_RX11 mC_X11_findWay ok_X11_findWay rfl rfl ⟨(Nat.le_of_ble_eq_true rfl), (Nat.le_of_ble_eq_true rfl)⟩) rfl hl.1 rfl (Nat.le_of_ble_eq_true rfl) dX11_down_7 ⟨(Nat.le_of_ble_eq_true rfl), (Nat.le_of_ble_eq_true rfl)⟩) (fun r hw => ?_)
    obtain rfl : r = 0 := hw.1.trans (by first | decide +kernel | rfl)
    refine lv_if_ne (tgt := 15) hx hb dX11_down_10 (by decide) (fun h => absurd (by decide) h) (fun _ => ?_)
    refine lv_iconst (v := (-1)) hx hb dX11_down_13 (by decide) ?_
    exact W.iret (v := (-1)) hx hb hr (fun t ht hW => ⟨⟨(-1), (), rfl, (by unfold sp_X11_down; rw [if_neg c_1]), ⟨fun k q h => by simp at h, va_K.moved hW.alike hK, ⟨fun i j p q h => by simp at h, fun k q h => by simp at h⟩⟩⟩, hS.F ht⟩) hS.2.2 dX11_down_14

def sp_X11_quiet (a : Int32) (b : Int32) (d : Int32) : Int32 := if a < 0 then (-1) else (if (a >>> ((0 : Int32) &&& 31)) = 0 then (if (sp_X11_isWithin b 40) = 0 then (-1) else (if (sp_X11_isWithin d 2) = 0 then (-1) else (-1))) else (-1))
set_option maxHeartbeats 1000000 in
set_option maxRecDepth 100000 in
theorem c_X11_quiet (l : Launch) (G : va_G) (cs : Nat → ClassId) (h0 : Nat) (a : Int32) (b : Int32) (d : Int32) (f_h0_0 : Value) (aS : Nat) (f_h0_2 : Value) (f_h0_3 : Value) (f_h0_4 : Value) (f_h0_5 : Value) (f_h0_6 : Value) (f_h0_7 : Value) (f_h0_8 : Value) (f_h0_9 : Value) (f_h0_10 : Value) (f_h0_11 : Value) (h1 : Nat) (lr : Int32) (aW : Nat) (aD : Nat) (f_aS_2 : Value) (f_aS_3 : Value) (f_aS_4 : Value) (aR : Nat) (f_aW_1 : Value) (aF : Nat) (f_aW_3 : Value) (f_aW_4 : Value) (f_aW_5 : Value) (f_aW_6 : Value) (f_aF_0 : Value) (f_aF_1 : Value) (f_aF_3 : Value) (f_aF_4 : Value) (f_aF_5 : Value) (f_aF_6 : Value) (f_aF_7 : Value) (f_aF_8 : Value) (f_aF_9 : Value) (f_aF_10 : Value) (f_aF_11 : Value) (f_aF_12 : Value) (aK : Nat) (f_aR_1 : Value) (f_aR_2 : Value) (f_aR_3 : Value) (sz : Nat) : Met l yX11_quiet (Cond.code yX11_quiet cX11_quiet 7 (some .int) :: gW) ({ frames := 1, cells := 0, slots := 0, locals := 21 }) (va_Pc [.ref h0, .int a, .int b, .int d] (Pre G cs [(h0, .inr (11, [f_h0_0, .ref aS, f_h0_2, f_h0_3, f_h0_4, f_h0_5, f_h0_6, f_h0_7, f_h0_8, f_h0_9, f_h0_10, f_h0_11, .ref h1, .int lr])), (aS, .inr (7, [.ref aW, .ref aD, f_aS_2, f_aS_3, f_aS_4])), (aW, .inr (10, [.ref aR, f_aW_1, .ref aF, f_aW_3, f_aW_4, f_aW_5, f_aW_6])), (aF, .inr (4, [f_aF_0, f_aF_1, .int 0, f_aF_3, f_aF_4, f_aF_5, f_aF_6, f_aF_7, f_aF_8, f_aF_9, f_aF_10, f_aF_11, f_aF_12])), (aR, .inr (6, [.ref aK, f_aR_1, f_aR_2, f_aR_3])), (aK, .inl (cs 0, 40, .inl (fun _ => 0)))] sz)) (va_Qi (fun r (u : Unit) => r = sp_X11_quiet a b d) (fun (u : Unit) t => Aft G cs (va_A [(h0, .inr (11, [f_h0_0, .ref aS, f_h0_2, f_h0_3, f_h0_4, f_h0_5, f_h0_6, f_h0_7, f_h0_8, f_h0_9, f_h0_10, f_h0_11, .ref h1, .int lr])), (aS, .inr (7, [.ref aW, .ref aD, f_aS_2, f_aS_3, f_aS_4])), (aW, .inr (10, [.ref aR, f_aW_1, .ref aF, f_aW_3, f_aW_4, f_aW_5, f_aW_6])), (aF, .inr (4, [f_aF_0, f_aF_1, .int 0, f_aF_3, f_aF_4, f_aF_5, f_aF_6, f_aF_7, f_aF_8, f_aF_9, f_aF_10, f_aF_11, f_aF_12])), (aR, .inr (6, [.ref aK, f_aR_1, f_aR_2, f_aR_3])), (aK, .inl (cs 0, 40, .inl (fun _ => 0)))] sz) [] t) (va_A [(h0, .inr (11, [f_h0_0, .ref aS, f_h0_2, f_h0_3, f_h0_4, f_h0_5, f_h0_6, f_h0_7, f_h0_8, f_h0_9, f_h0_10, f_h0_11, .ref h1, .int lr])), (aS, .inr (7, [.ref aW, .ref aD, f_aS_2, f_aS_3, f_aS_4])), (aW, .inr (10, [.ref aR, f_aW_1, .ref aF, f_aW_3, f_aW_4, f_aW_5, f_aW_6])), (aF, .inr (4, [f_aF_0, f_aF_1, .int 0, f_aF_3, f_aF_4, f_aF_5, f_aF_6, f_aF_7, f_aF_8, f_aF_9, f_aF_10, f_aF_11, f_aF_12])), (aR, .inr (6, [.ref aK, f_aR_1, f_aR_2, f_aR_3])), (aK, .inl (cs 0, 40, .inl (fun _ => 0)))] sz)) 0 0 (va_A [(h0, .inr (11, [f_h0_0, .ref aS, f_h0_2, f_h0_3, f_h0_4, f_h0_5, f_h0_6, f_h0_7, f_h0_8, f_h0_9, f_h0_10, f_h0_11, .ref h1, .int lr])), (aS, .inr (7, [.ref aW, .ref aD, f_aS_2, f_aS_3, f_aS_4])), (aW, .inr (10, [.ref aR, f_aW_1, .ref aF, f_aW_3, f_aW_4, f_aW_5, f_aW_6])), (aF, .inr (4, [f_aF_0, f_aF_1, .int 0, f_aF_3, f_aF_4, f_aF_5, f_aF_6, f_aF_7, f_aF_8, f_aF_9, f_aF_10, f_aF_11, f_aF_12])), (aR, .inr (6, [.ref aK, f_aR_1, f_aR_2, f_aR_3])), (aK, .inl (cs 0, 40, .inl (fun _ => 0)))] sz) := by
  refine Met.ofW (cc := cX11_quiet) (maxL := 7) (ret := (some .int)) (by decide) rfl ?_
  intro p e s m args below meth c s₁ B hml hv
  obtain ⟨rfl, hsz, hP, hK, hD0, hN⟩ := hv
  have hx := B.exec
  have hb := B.bytes
  have hr := B.returns
  have hts := atoms_spec (ws := Cond.code yX11_quiet cX11_quiet 7 (some .int) :: gW) B.pre
  have htl : ∀ w ∈ gW, w.before _ s = true := fun w h => hts w (List.mem_cons_of_mem _ h)
  have hown : s.vm.findClass RX11 = some m.cls := findClass_of_methodNamed B.named
  have hlocks := B.notSynchronized
  subst hsz
  have hD := hD0.self (sz := s.heap.size)
  generalize hAe : va_A [(h0, .inr (11, [f_h0_0, .ref aS, f_h0_2, f_h0_3, f_h0_4, f_h0_5, f_h0_6, f_h0_7, f_h0_8, f_h0_9, f_h0_10, f_h0_11, .ref h1, .int lr])), (aS, .inr (7, [.ref aW, .ref aD, f_aS_2, f_aS_3, f_aS_4])), (aW, .inr (10, [.ref aR, f_aW_1, .ref aF, f_aW_3, f_aW_4, f_aW_5, f_aW_6])), (aF, .inr (4, [f_aF_0, f_aF_1, .int 0, f_aF_3, f_aF_4, f_aF_5, f_aF_6, f_aF_7, f_aF_8, f_aF_9, f_aF_10, f_aF_11, f_aF_12])), (aR, .inr (6, [.ref aK, f_aR_1, f_aR_2, f_aR_3])), (aK, .inl (cs 0, 40, .inl (fun _ => 0)))] s.heap.size = A at hD ⊢
  have hA : ∀ q : Nat, s.heap.size ≤ q → A q := fun q h => by rw [← hAe]; exact Or.inr h
  have hS : va_S A s.heap s.heap [] := va_S.rf
  have hl := lv_entry ([.ref h0, .int a, .int b, .int d]) (n := 7) (Nat.le_of_ble_eq_true rfl)
  rw [lg_entry_eq]
  generalize (lg_sl ([.ref h0, .int a, .int b, .int d]) ++ List.replicate (7 - (lg_sl ([.ref h0, .int a, .int b, .int d])).length) Slot.unset).toArray = ls at hl ⊢
  have hl : lv_has ls 7 [(0, .ref h0), (1, .int a), (2, .int b), (3, .int d)] := hl
  refine lv_aload_n hx hb dX11_quiet_0 rfl (lv_at hl 0 rfl) ?_
  refine va_get (ci := 11) (v := .ref aS) (C := RX11) (T := TX11) (N := 14) hx hb htl inX11 hown hK hP 0 rfl rfl 1 (by decide) (htl _ fl_RX11_21) (fun _ h9 => h9) rfl dX11_quiet_1 ?_
  refine va_get (ci := 7) (v := .ref aW) (C := RX7) (T := TX7) (N := 5) hx hb htl inX7 hown hK hP 1 rfl rfl 0 (by decide) (htl _ fl_RX11_78) (fun _ h9 => h9) rfl dX11_quiet_4 ?_
  refine lv_astore (lv' := [(4, .ref aW), (0, .ref h0), (1, .int a), (2, .int b), (3, .int d)]) hx hb dX11_quiet_7 hl (by decide) rfl (fun ls hl => ?_)
  refine lv_iload_n hx hb dX11_quiet_9 rfl (lv_at hl 2 rfl) ?_
  refine lv_if_lt (tgt := 30) hx hb dX11_quiet_10 (by decide) (fun c_10 => ?_) (fun c_10 => ?_)
  · refine lv_iconst (v := 0) hx hb dX11_quiet_30 (by decide) ?_
    refine lv_istore (lv' := [(5, .int 0), (4, .ref aW), (0, .ref h0), (1, .int a), (2, .int b), (3, .int d)]) hx hb dX11_quiet_31 hl (by decide) rfl (fun ls hl => ?_)
    refine lv_iload hx hb dX11_quiet_33 (lv_at hl 0 rfl) ?_
    refine lv_if_eq (tgt := 69) hx hb dX11_quiet_35 (by decide) (fun _ => ?_) (fun h => absurd (by decide) h)
    refine lv_iconst (v := (-1)) hx hb dX11_quiet_69 (by decide) ?_
    exact W.iret (v := (-1)) hx hb hr (fun t ht hW => ⟨⟨(-1), (), rfl, (by unfold sp_X11_quiet; rw [if_pos c_10]), ⟨fun k q h => by simp at h, va_K.moved hW.alike hK, ⟨fun i j p q h => by simp at h, fun k q h => by simp at h⟩⟩⟩, hS.F ht⟩) hS.2.2 dX11_quiet_70
  · refine lv_iload_n hx hb dX11_quiet_13 rfl (lv_at hl 2 rfl) ?_
    refine lv_aload hx hb dX11_quiet_14 (lv_at hl 0 rfl) ?_
    refine va_get (ci := 10) (v := .ref aF) (C := RX10) (T := TX10) (N := 7) hx hb htl inX10 hown hK hP 2 rfl rfl 2 (by decide) (htl _ fl_RX11_156) (fun _ h9 => h9) rfl dX11_quiet_16 ?_
    refine va_get (ci := 4) (v := .int 0) (C := RX4) (T := TX4) (N := 13) hx hb htl inX4 hown hK hP 3 rfl rfl 2 (by decide) (htl _ fl_RX11_160) (fun _ h9 => h9) rfl dX11_quiet_19 ?_
    refine lv_ishr hx hb dX11_quiet_22 ?_
    refine lv_if_ne (tgt := 30) hx hb dX11_quiet_23 (by decide) (fun c_23 => ?_) (fun c_23 => ?_)
    · refine lv_iconst (v := 0) hx hb dX11_quiet_30 (by decide) ?_
      refine lv_istore (lv' := [(5, .int 0), (4, .ref aW), (0, .ref h0), (1, .int a), (2, .int b), (3, .int d)]) hx hb dX11_quiet_31 hl (by decide) rfl (fun ls hl => ?_)
      refine lv_iload hx hb dX11_quiet_33 (lv_at hl 0 rfl) ?_
      refine lv_if_eq (tgt := 69) hx hb dX11_quiet_35 (by decide) (fun _ => ?_) (fun h => absurd (by decide) h)
      refine lv_iconst (v := (-1)) hx hb dX11_quiet_69 (by decide) ?_
      exact W.iret (v := (-1)) hx hb hr (fun t ht hW => ⟨⟨(-1), (), rfl, (by unfold sp_X11_quiet; rw [if_neg c_10, if_neg c_23]), ⟨fun k q h => by simp at h, va_K.moved hW.alike hK, ⟨fun i j p q h => by simp at h, fun k q h => by simp at h⟩⟩⟩, hS.F ht⟩) hS.2.2 dX11_quiet_70
    · refine lv_iconst (v := 1) hx hb dX11_quiet_26 (by decide) ?_
      refine lv_goto (tgt := 31) hx hb dX11_quiet_27 (by decide) ?_
      refine lv_istore (lv' := [(5, .int 1), (4, .ref aW), (0, .ref h0), (1, .int a), (2, .int b), (3, .int d)]) hx hb dX11_quiet_31 hl (by decide) rfl (fun ls hl => ?_)
      refine lv_iload hx hb dX11_quiet_33 (lv_at hl 0 rfl) ?_
      refine lv_if_eq (tgt := 69) hx hb dX11_quiet_35 (by decide) (fun h => absurd h (by decide)) (fun _ => ?_)
      refine lv_iload_n hx hb dX11_quiet_38 rfl (lv_at hl 4 rfl) ?_
      refine lv_bipush (v := 40) hx hb dX11_quiet_39 (by decide) ?_
      refine vp_callSi (mkSr (rest := []) ⟨hx, hb, hml, hown, htl⟩ hN hK (c_X11_isWithin l G cs b 40) (cS 2 htl lk_RX11_82 mT_X11_isWithin mN_RX11 mC_X11_isWithin ok_X11_isWithin rfl rfl ⟨(Nat.le_of_ble_eq_true rfl), (Nat.le_of_ble_eq_true rfl)⟩) rfl hl.1 rfl (Nat.le_of_ble_eq_true rfl) dX11_quiet_41 ⟨(Nat.le_of_ble_eq_true rfl), (Nat.le_of_ble_eq_true rfl)⟩) (fun r hw => ?_)
      obtain ⟨rfl, hz_1⟩ := hw
      refine lv_if_eq (tgt := 69) hx hb dX11_quiet_44 (by decide) (fun c_44 => ?_) (fun c_44 => ?_)
      · refine lv_iconst (v := (-1)) hx hb dX11_quiet_69 (by decide) ?_
        exact W.iret (v := (-1)) hx hb hr (fun t ht hW => ⟨⟨(-1), (), rfl, (by unfold sp_X11_quiet; rw [if_neg c_10, if_pos c_23, if_pos c_44]), ⟨fun k q h => by simp at h, va_K.moved hW.alike hK, ⟨fun i j p q h => by simp at h, fun k q h => by simp at h⟩⟩⟩, hS.F ht⟩) hS.2.2 dX11_quiet_70
      · refine lv_iload_n hx hb dX11_quiet_47 rfl (lv_at hl 5 rfl) ?_
        refine lv_iconst (v := 2) hx hb dX11_quiet_48 (by decide) ?_
        refine vp_callSi (mkSr (rest := []) ⟨hx, hb, hml, hown, htl⟩ hN hK (c_X11_isWithin l G cs d 2) (cS 2 htl lk_RX11_82 mT_X11_isWithin mN_RX11 mC_X11_isWithin ok_X11_isWithin rfl rfl ⟨(Nat.le_of_ble_eq_true rfl), (Nat.le_of_ble_eq_true rfl)⟩) rfl hl.1 rfl (Nat.le_of_ble_eq_true rfl) dX11_quiet_49 ⟨(Nat.le_of_ble_eq_true rfl), (Nat.le_of_ble_eq_true rfl)⟩) (fun r hw => ?_)
        obtain ⟨rfl, hz_2⟩ := hw
        refine lv_if_eq (tgt := 69) hx hb dX11_quiet_52 (by decide) (fun c_52 => ?_) (fun c_52 => ?_)
        · refine lv_iconst (v := (-1)) hx hb dX11_quiet_69 (by decide) ?_
          exact W.iret (v := (-1)) hx hb hr (fun t ht hW => ⟨⟨(-1), (), rfl, (by unfold sp_X11_quiet; rw [if_neg c_10, if_pos c_23, if_neg c_44, if_pos c_52]), ⟨fun k q h => by simp at h, va_K.moved hW.alike hK, ⟨fun i j p q h => by simp at h, fun k q h => by simp at h⟩⟩⟩, hS.F ht⟩) hS.2.2 dX11_quiet_70
        · refine lv_aload hx hb dX11_quiet_55 (lv_at hl 1 rfl) ?_
          refine va_get (ci := 10) (v := .ref aR) (C := RX10) (T := TX10) (N := 7) hx hb htl inX10 hown hK hP 2 rfl rfl 0 (by decide) (htl _ fl_RX11_95) (fun _ h9 => h9) rfl dX11_quiet_57 ?_
          refine va_get (ci := 6) (v := .ref aK) (C := RX6) (T := TX6) (N := 4) hx hb htl inX6 hown hK hP 4 rfl rfl 0 (by decide) (htl _ fl_RX11_124) (fun _ h9 => h9) rfl dX11_quiet_60 ?_
          refine lv_iload_n hx hb dX11_quiet_63 rfl (lv_at hl 4 rfl) ?_
          refine va_iald hx hb hK hP 5 0 rfl rfl (iw_in c_44) dX11_quiet_64 ?_
          refine lv_topi (fun xv ex => ?_)
          obtain rfl : xv = 0 := ex.trans (by first | exact pk_us | rfl | decide)
          refine lv_iconst (v := 3) hx hb dX11_quiet_65 (by decide) ?_
          refine lv_icmp_eq (tgt := 71) hx hb dX11_quiet_66 (by decide) (fun h => absurd h (by decide)) (fun _ => ?_)
          refine lv_iconst (v := (-1)) hx hb dX11_quiet_69 (by decide) ?_
          exact W.iret (v := (-1)) hx hb hr (fun t ht hW => ⟨⟨(-1), (), rfl, (by unfold sp_X11_quiet; rw [if_neg c_10, if_pos c_23, if_neg c_44, if_neg c_52]), ⟨fun k q h => by simp at h, va_K.moved hW.alike hK, ⟨fun i j p q h => by simp at h, fun k q h => by simp at h⟩⟩⟩, hS.F ht⟩) hS.2.2 dX11_quiet_70

def sp_X11_heard (a : Int32) (b : Int32) : Int32 := if (sp_X11_isWithin a 8) = 0 then (-1) else (if (sp_X11_isWithin b 100) = 0 then (-1) else 1)
set_option maxHeartbeats 1000000 in
set_option maxRecDepth 100000 in
theorem c_X11_heard (l : Launch) (G : va_G) (cs : Nat → ClassId) (h0 : Nat) (a : Int32) (b : Int32) (f_h0_0 : Value) (aS : Nat) (f_h0_2 : Value) (f_h0_3 : Value) (f_h0_4 : Value) (f_h0_5 : Value) (f_h0_6 : Value) (f_h0_7 : Value) (f_h0_8 : Value) (f_h0_9 : Value) (f_h0_10 : Value) (f_h0_11 : Value) (h1 : Nat) (lr : Int32) (rfs : Nat → Int32) (aW : Nat) (aD : Nat) (f_aS_2 : Value) (f_aS_3 : Value) (f_aS_4 : Value) (f_aW_0 : Value) (f_aW_1 : Value) (aF : Nat) (f_aW_3 : Value) (f_aW_4 : Value) (f_aW_5 : Value) (f_aW_6 : Value) (f_aF_0 : Value) (f_aF_1 : Value) (f_aF_2 : Value) (f_aF_3 : Value) (f_aF_4 : Value) (f_aF_5 : Value) (f_aF_6 : Value) (aF1 : Nat) (aF2 : Nat) (f_aF_10 : Value) (f_aF_11 : Value) (f_aF_12 : Value) (sz : Nat) : Met l yX11_heard (Cond.code yX11_heard cX11_heard 4 (some .int) :: gW) ({ frames := 1, cells := 0, slots := 0, locals := 22 }) (va_Pc [.ref h0, .int a, .int b] (Pre G cs [(h0, .inr (11, [f_h0_0, .ref aS, f_h0_2, f_h0_3, f_h0_4, f_h0_5, f_h0_6, f_h0_7, f_h0_8, f_h0_9, f_h0_10, f_h0_11, .ref h1, .int lr])), (h1, .inl (cs 0, 7, .inl rfs)), (aS, .inr (7, [.ref aW, .ref aD, f_aS_2, f_aS_3, f_aS_4])), (aW, .inr (10, [f_aW_0, f_aW_1, .ref aF, f_aW_3, f_aW_4, f_aW_5, f_aW_6])), (aF, .inr (4, [f_aF_0, f_aF_1, f_aF_2, f_aF_3, f_aF_4, f_aF_5, f_aF_6, .ref aF1, .ref aF2, .int 0, f_aF_10, f_aF_11, f_aF_12])), (aF1, .inl (cs 0, 8, .inl (fun _ => 0))), (aF2, .inl (cs 0, 8, .inl (fun _ => 0)))] sz)) (va_Qi (fun r (u : Unit) => r = sp_X11_heard a b) (fun (u : Unit) t => Aft G cs (va_A [(h0, .inr (11, [f_h0_0, .ref aS, f_h0_2, f_h0_3, f_h0_4, f_h0_5, f_h0_6, f_h0_7, f_h0_8, f_h0_9, f_h0_10, f_h0_11, .ref h1, .int lr])), (h1, .inl (cs 0, 7, .inl rfs)), (aS, .inr (7, [.ref aW, .ref aD, f_aS_2, f_aS_3, f_aS_4])), (aW, .inr (10, [f_aW_0, f_aW_1, .ref aF, f_aW_3, f_aW_4, f_aW_5, f_aW_6])), (aF, .inr (4, [f_aF_0, f_aF_1, f_aF_2, f_aF_3, f_aF_4, f_aF_5, f_aF_6, .ref aF1, .ref aF2, .int 0, f_aF_10, f_aF_11, f_aF_12])), (aF1, .inl (cs 0, 8, .inl (fun _ => 0))), (aF2, .inl (cs 0, 8, .inl (fun _ => 0)))] sz) [] t) (va_A [(h0, .inr (11, [f_h0_0, .ref aS, f_h0_2, f_h0_3, f_h0_4, f_h0_5, f_h0_6, f_h0_7, f_h0_8, f_h0_9, f_h0_10, f_h0_11, .ref h1, .int lr])), (h1, .inl (cs 0, 7, .inl rfs)), (aS, .inr (7, [.ref aW, .ref aD, f_aS_2, f_aS_3, f_aS_4])), (aW, .inr (10, [f_aW_0, f_aW_1, .ref aF, f_aW_3, f_aW_4, f_aW_5, f_aW_6])), (aF, .inr (4, [f_aF_0, f_aF_1, f_aF_2, f_aF_3, f_aF_4, f_aF_5, f_aF_6, .ref aF1, .ref aF2, .int 0, f_aF_10, f_aF_11, f_aF_12])), (aF1, .inl (cs 0, 8, .inl (fun _ => 0))), (aF2, .inl (cs 0, 8, .inl (fun _ => 0)))] sz)) 0 0 (va_A [(h0, .inr (11, [f_h0_0, .ref aS, f_h0_2, f_h0_3, f_h0_4, f_h0_5, f_h0_6, f_h0_7, f_h0_8, f_h0_9, f_h0_10, f_h0_11, .ref h1, .int lr])), (h1, .inl (cs 0, 7, .inl rfs)), (aS, .inr (7, [.ref aW, .ref aD, f_aS_2, f_aS_3, f_aS_4])), (aW, .inr (10, [f_aW_0, f_aW_1, .ref aF, f_aW_3, f_aW_4, f_aW_5, f_aW_6])), (aF, .inr (4, [f_aF_0, f_aF_1, f_aF_2, f_aF_3, f_aF_4, f_aF_5, f_aF_6, .ref aF1, .ref aF2, .int 0, f_aF_10, f_aF_11, f_aF_12])), (aF1, .inl (cs 0, 8, .inl (fun _ => 0))), (aF2, .inl (cs 0, 8, .inl (fun _ => 0)))] sz) := by
  refine Met.ofW (cc := cX11_heard) (maxL := 4) (ret := (some .int)) (by decide) rfl ?_
  intro p e s m args below meth c s₁ B hml hv
  obtain ⟨rfl, hsz, hP, hK, hD0, hN⟩ := hv
  have hx := B.exec
  have hb := B.bytes
  have hr := B.returns
  have hts := atoms_spec (ws := Cond.code yX11_heard cX11_heard 4 (some .int) :: gW) B.pre
  have htl : ∀ w ∈ gW, w.before _ s = true := fun w h => hts w (List.mem_cons_of_mem _ h)
  have hown : s.vm.findClass RX11 = some m.cls := findClass_of_methodNamed B.named
  have hlocks := B.notSynchronized
  subst hsz
  have hD := hD0.self (sz := s.heap.size)
  generalize hAe : va_A [(h0, .inr (11, [f_h0_0, .ref aS, f_h0_2, f_h0_3, f_h0_4, f_h0_5, f_h0_6, f_h0_7, f_h0_8, f_h0_9, f_h0_10, f_h0_11, .ref h1, .int lr])), (h1, .inl (cs 0, 7, .inl rfs)), (aS, .inr (7, [.ref aW, .ref aD, f_aS_2, f_aS_3, f_aS_4])), (aW, .inr (10, [f_aW_0, f_aW_1, .ref aF, f_aW_3, f_aW_4, f_aW_5, f_aW_6])), (aF, .inr (4, [f_aF_0, f_aF_1, f_aF_2, f_aF_3, f_aF_4, f_aF_5, f_aF_6, .ref aF1, .ref aF2, .int 0, f_aF_10, f_aF_11, f_aF_12])), (aF1, .inl (cs 0, 8, .inl (fun _ => 0))), (aF2, .inl (cs 0, 8, .inl (fun _ => 0)))] s.heap.size = A at hD ⊢
  have hA : ∀ q : Nat, s.heap.size ≤ q → A q := fun q h => by rw [← hAe]; exact Or.inr h
  have hS : va_S A s.heap s.heap [] := va_S.rf
  have hl := lv_entry ([.ref h0, .int a, .int b]) (n := 4) (Nat.le_of_ble_eq_true rfl)
  rw [lg_entry_eq]
  generalize (lg_sl ([.ref h0, .int a, .int b]) ++ List.replicate (4 - (lg_sl ([.ref h0, .int a, .int b])).length) Slot.unset).toArray = ls at hl ⊢
  have hl : lv_has ls 4 [(0, .ref h0), (1, .int a), (2, .int b)] := hl
  refine lv_iload_n hx hb dX11_heard_0 rfl (lv_at hl 1 rfl) ?_
  refine lv_bipush (v := 8) hx hb dX11_heard_1 (by decide) ?_
  refine vp_callSi (mkSr (rest := []) ⟨hx, hb, hml, hown, htl⟩ hN hK (c_X11_isWithin l G cs a 8) (cS 2 htl lk_RX11_82 mT_X11_isWithin mN_RX11 mC_X11_isWithin ok_X11_isWithin rfl rfl ⟨(Nat.le_of_ble_eq_true rfl), (Nat.le_of_ble_eq_true rfl)⟩) rfl hl.1 rfl (Nat.le_of_ble_eq_true rfl) dX11_heard_3 ⟨(Nat.le_of_ble_eq_true rfl), (Nat.le_of_ble_eq_true rfl)⟩) (fun r hw => ?_)
  obtain ⟨rfl, hz_1⟩ := hw
  refine lv_if_eq (tgt := 18) hx hb dX11_heard_6 (by decide) (fun c_6 => ?_) (fun c_6 => ?_)
  · refine lv_aload_n hx hb dX11_heard_18 rfl (lv_at hl 0 rfl) ?_
    refine lv_iconst (v := (-1)) hx hb dX11_heard_19 (by decide) ?_
    refine mi (wr := [(aS, .inr (7, [.ref aW, .ref aD, f_aS_2, f_aS_3, f_aS_4])), (aW, .inr (10, [f_aW_0, f_aW_1, .ref aF, f_aW_3, f_aW_4, f_aW_5, f_aW_6])), (aF, .inr (4, [f_aF_0, f_aF_1, f_aF_2, f_aF_3, f_aF_4, f_aF_5, f_aF_6, .ref aF1, .ref aF2, .int 0, f_aF_10, f_aF_11, f_aF_12])), (aF1, .inl (cs 0, 8, .inl (fun _ => 0))), (aF2, .inl (cs 0, 8, .inl (fun _ => 0)))]) (mkV (rest := []) ⟨hx, hb, hml, hown, htl⟩ hN hK hP hD (c_X11_settle l G cs h0 (-1) f_h0_0 (.ref aS) f_h0_2 f_h0_3 f_h0_4 f_h0_5 f_h0_6 f_h0_7 f_h0_8 f_h0_9 f_h0_10 f_h0_11 h1 lr (rfs) _ (by decide)) [0, 1] rfl rfl 0 11 rfl rfl (cV 1 htl lk_RX11_91 mI_X11_settle mS_X11_settle mN_RX11 mC_X11_settle ok_X11_settle rfl rfl ⟨(Nat.le_of_ble_eq_true rfl), (Nat.le_of_ble_eq_true rfl)⟩) rfl hl.1 rfl (Nat.le_of_ble_eq_true rfl) dX11_heard_20 ⟨(Nat.le_of_ble_eq_true rfl), (Nat.le_of_ble_eq_true rfl)⟩) hP hD hS hA [0, 1] [2, 3, 4, 5, 6] rfl rfl rfl (by decide) (fun r u_20 H locs hw hP hD hS => ?_)
    have hP : va_P G vwCl [(aS, .inr (7, [.ref aW, .ref aD, f_aS_2, f_aS_3, f_aS_4])), (aW, .inr (10, [f_aW_0, f_aW_1, .ref aF, f_aW_3, f_aW_4, f_aW_5, f_aW_6])), (aF, .inr (4, [f_aF_0, f_aF_1, f_aF_2, f_aF_3, f_aF_4, f_aF_5, f_aF_6, .ref aF1, .ref aF2, .int 0, f_aF_10, f_aF_11, f_aF_12])), (aF1, .inl (cs 0, 8, .inl (fun _ => 0))), (aF2, .inl (cs 0, 8, .inl (fun _ => 0)))] H := hP
    have hD : va_D A [(aS, .inr (7, [.ref aW, .ref aD, f_aS_2, f_aS_3, f_aS_4])), (aW, .inr (10, [f_aW_0, f_aW_1, .ref aF, f_aW_3, f_aW_4, f_aW_5, f_aW_6])), (aF, .inr (4, [f_aF_0, f_aF_1, f_aF_2, f_aF_3, f_aF_4, f_aF_5, f_aF_6, .ref aF1, .ref aF2, .int 0, f_aF_10, f_aF_11, f_aF_12])), (aF1, .inl (cs 0, 8, .inl (fun _ => 0))), (aF2, .inl (cs 0, 8, .inl (fun _ => 0)))] := hD
    obtain rfl : r = (-1) := hw.trans (by unfold sp_X11_settle; (try rw [if_neg (by decide), if_neg (by decide)]) <;> first | rfl | decide)
    exact W.iret (v := (-1)) hx hb hr (fun t ht hW => ⟨⟨(-1), (), rfl, (by unfold sp_X11_heard; rw [if_pos c_6]), ⟨fun k q h => by simp at h, va_K.moved hW.alike hK, ⟨fun i j p q h => by simp at h, fun k q h => by simp at h⟩⟩⟩, hS.F ht⟩) hS.2.2 dX11_heard_23
  · refine lv_iload_n hx hb dX11_heard_9 rfl (lv_at hl 2 rfl) ?_
    refine lv_bipush (v := 100) hx hb dX11_heard_10 (by decide) ?_
    refine vp_callSi (mkSr (rest := []) ⟨hx, hb, hml, hown, htl⟩ hN hK (c_X11_isWithin l G cs b 100) (cS 2 htl lk_RX11_82 mT_X11_isWithin mN_RX11 mC_X11_isWithin ok_X11_isWithin rfl rfl ⟨(Nat.le_of_ble_eq_true rfl), (Nat.le_of_ble_eq_true rfl)⟩) rfl hl.1 rfl (Nat.le_of_ble_eq_true rfl) dX11_heard_12 ⟨(Nat.le_of_ble_eq_true rfl), (Nat.le_of_ble_eq_true rfl)⟩) (fun r hw => ?_)
    obtain ⟨rfl, hz_2⟩ := hw
    refine lv_if_ne (tgt := 24) hx hb dX11_heard_15 (by decide) (fun c_15 => ?_) (fun c_15 => ?_)
    · refine lv_aload_n hx hb dX11_heard_24 rfl (lv_at hl 0 rfl) ?_
      refine va_get (ci := 11) (v := .ref aS) (C := RX11) (T := TX11) (N := 14) hx hb htl inX11 hown hK hP 0 rfl rfl 1 (by decide) (htl _ fl_RX11_21) (fun _ h9 => h9) rfl dX11_heard_25 ?_
      refine va_get (ci := 7) (v := .ref aW) (C := RX7) (T := TX7) (N := 5) hx hb htl inX7 hown hK hP 2 rfl rfl 0 (by decide) (htl _ fl_RX11_78) (fun _ h9 => h9) rfl dX11_heard_28 ?_
      refine va_get (ci := 10) (v := .ref aF) (C := RX10) (T := TX10) (N := 7) hx hb htl inX10 hown hK hP 3 rfl rfl 2 (by decide) (htl _ fl_RX11_156) (fun _ h9 => h9) rfl dX11_heard_31 ?_
      refine lv_astore_n (lv' := [(3, .ref aF), (0, .ref h0), (1, .int a), (2, .int b)]) hx hb dX11_heard_34 rfl hl (by decide) rfl (fun ls hl => ?_)
      refine lv_aload_n hx hb dX11_heard_35 rfl (lv_at hl 0 rfl) ?_
      refine va_get (ci := 4) (v := .int 0) (C := RX4) (T := TX4) (N := 13) hx hb htl inX4 hown hK hP 4 rfl rfl 9 (by decide) (htl _ fl_RX11_329) (fun _ h9 => h9) rfl dX11_heard_36 ?_
      refine lv_bipush (v := 8) hx hb dX11_heard_39 (by decide) ?_
      refine lv_icmp_lt (tgt := 51) hx hb dX11_heard_41 (by decide) (fun _ => ?_) (fun h => absurd (by decide) h)
      refine lv_aload_n hx hb dX11_heard_51 rfl (lv_at hl 0 rfl) ?_
      refine lv_iload_n hx hb dX11_heard_52 rfl (lv_at hl 2 rfl) ?_
      refine lv_iload_n hx hb dX11_heard_53 rfl (lv_at hl 3 rfl) ?_
      refine mv (wr := [(h0, .inr (11, [f_h0_0, .ref aS, f_h0_2, f_h0_3, f_h0_4, f_h0_5, f_h0_6, f_h0_7, f_h0_8, f_h0_9, f_h0_10, f_h0_11, .ref h1, .int lr])), (h1, .inl (cs 0, 7, .inl rfs)), (aS, .inr (7, [.ref aW, .ref aD, f_aS_2, f_aS_3, f_aS_4])), (aW, .inr (10, [f_aW_0, f_aW_1, .ref aF, f_aW_3, f_aW_4, f_aW_5, f_aW_6]))]) (mkV (rest := []) ⟨hx, hb, hml, hown, htl⟩ hN hK hP hD (c_X4_addHearsay l G cs aF a b f_aF_0 f_aF_1 f_aF_2 f_aF_3 f_aF_4 f_aF_5 f_aF_6 aF1 aF2 f_aF_10 f_aF_11 f_aF_12 _) [4, 5, 6] rfl rfl 0 4 rfl rfl (cV 2 htl lk_RX11_332 mI_X4_addHearsay mS_X4_addHearsay mN_RX4 mC_X4_addHearsay ok_X4_addHearsay rfl rfl ⟨(Nat.le_of_ble_eq_true rfl), (Nat.le_of_ble_eq_true rfl)⟩) rfl hl.1 rfl (Nat.le_of_ble_eq_true rfl) dX11_heard_54 ⟨(Nat.le_of_ble_eq_true rfl), (Nat.le_of_ble_eq_true rfl)⟩) hP hD hS hA [4, 5, 6] [0, 1, 2, 3] rfl rfl rfl (by decide) (fun u_54 H locs hw hP hD hS => ?_)
      have hP : va_P G vwCl [(h0, .inr (11, [f_h0_0, .ref aS, f_h0_2, f_h0_3, f_h0_4, f_h0_5, f_h0_6, f_h0_7, f_h0_8, f_h0_9, f_h0_10, f_h0_11, .ref h1, .int lr])), (h1, .inl (cs 0, 7, .inl rfs)), (aS, .inr (7, [.ref aW, .ref aD, f_aS_2, f_aS_3, f_aS_4])), (aW, .inr (10, [f_aW_0, f_aW_1, .ref aF, f_aW_3, f_aW_4, f_aW_5, f_aW_6])), (aF, .inr (4, [f_aF_0, f_aF_1, f_aF_2, f_aF_3, f_aF_4, f_aF_5, f_aF_6, .ref aF1, .ref aF2, .int 1, f_aF_10, f_aF_11, f_aF_12])), (aF1, .inl (cs 0, 8, .inl (upd (fun _ => 0) 0 a))), (aF2, .inl (cs 0, 8, .inl (upd (fun _ => 0) 0 b)))] H := hP
      have hD : va_D A [(h0, .inr (11, [f_h0_0, .ref aS, f_h0_2, f_h0_3, f_h0_4, f_h0_5, f_h0_6, f_h0_7, f_h0_8, f_h0_9, f_h0_10, f_h0_11, .ref h1, .int lr])), (h1, .inl (cs 0, 7, .inl rfs)), (aS, .inr (7, [.ref aW, .ref aD, f_aS_2, f_aS_3, f_aS_4])), (aW, .inr (10, [f_aW_0, f_aW_1, .ref aF, f_aW_3, f_aW_4, f_aW_5, f_aW_6])), (aF, .inr (4, [f_aF_0, f_aF_1, f_aF_2, f_aF_3, f_aF_4, f_aF_5, f_aF_6, .ref aF1, .ref aF2, .int 1, f_aF_10, f_aF_11, f_aF_12])), (aF1, .inl (cs 0, 8, .inl (upd (fun _ => 0) 0 a))), (aF2, .inl (cs 0, 8, .inl (upd (fun _ => 0) 0 b)))] := hD
      refine lv_aload_n hx hb dX11_heard_57 rfl (lv_at hl 1 rfl) ?_
      refine lv_aload_n hx hb dX11_heard_58 rfl (lv_at hl 0 rfl) ?_
      refine va_get (ci := 4) (v := .int 1) (C := RX4) (T := TX4) (N := 13) hx hb htl inX4 hown hK hP 4 rfl rfl 9 (by decide) (htl _ fl_RX11_329) (fun _ h9 => h9) rfl dX11_heard_59 ?_
      refine mi (wr := [(aS, .inr (7, [.ref aW, .ref aD, f_aS_2, f_aS_3, f_aS_4])), (aW, .inr (10, [f_aW_0, f_aW_1, .ref aF, f_aW_3, f_aW_4, f_aW_5, f_aW_6])), (aF, .inr (4, [f_aF_0, f_aF_1, f_aF_2, f_aF_3, f_aF_4, f_aF_5, f_aF_6, .ref aF1, .ref aF2, .int 1, f_aF_10, f_aF_11, f_aF_12])), (aF1, .inl (cs 0, 8, .inl (upd (fun _ => 0) 0 a))), (aF2, .inl (cs 0, 8, .inl (upd (fun _ => 0) 0 b)))]) (mkV (rest := []) ⟨hx, hb, hml, hown, htl⟩ hN hK hP hD (c_X11_settle l G cs h0 1 f_h0_0 (.ref aS) f_h0_2 f_h0_3 f_h0_4 f_h0_5 f_h0_6 f_h0_7 f_h0_8 f_h0_9 f_h0_10 f_h0_11 h1 lr (rfs) _ (by decide)) [0, 1] rfl rfl 0 11 rfl rfl (cV 1 htl lk_RX11_91 mI_X11_settle mS_X11_settle mN_RX11 mC_X11_settle ok_X11_settle rfl rfl ⟨(Nat.le_of_ble_eq_true rfl), (Nat.le_of_ble_eq_true rfl)⟩) rfl hl.1 rfl (Nat.le_of_ble_eq_true rfl) dX11_heard_62 ⟨(Nat.le_of_ble_eq_true rfl), (Nat.le_of_ble_eq_true rfl)⟩) hP hD hS hA [0, 1] [2, 3, 4, 5, 6] rfl rfl rfl (by decide) (fun r u_62 H locs hw hP hD hS => ?_)
      have hP : va_P G vwCl [(aS, .inr (7, [.ref aW, .ref aD, f_aS_2, f_aS_3, f_aS_4])), (aW, .inr (10, [f_aW_0, f_aW_1, .ref aF, f_aW_3, f_aW_4, f_aW_5, f_aW_6])), (aF, .inr (4, [f_aF_0, f_aF_1, f_aF_2, f_aF_3, f_aF_4, f_aF_5, f_aF_6, .ref aF1, .ref aF2, .int 1, f_aF_10, f_aF_11, f_aF_12])), (aF1, .inl (cs 0, 8, .inl (upd (fun _ => 0) 0 a))), (aF2, .inl (cs 0, 8, .inl (upd (fun _ => 0) 0 b)))] H := hP
      have hD : va_D A [(aS, .inr (7, [.ref aW, .ref aD, f_aS_2, f_aS_3, f_aS_4])), (aW, .inr (10, [f_aW_0, f_aW_1, .ref aF, f_aW_3, f_aW_4, f_aW_5, f_aW_6])), (aF, .inr (4, [f_aF_0, f_aF_1, f_aF_2, f_aF_3, f_aF_4, f_aF_5, f_aF_6, .ref aF1, .ref aF2, .int 1, f_aF_10, f_aF_11, f_aF_12])), (aF1, .inl (cs 0, 8, .inl (upd (fun _ => 0) 0 a))), (aF2, .inl (cs 0, 8, .inl (upd (fun _ => 0) 0 b)))] := hD
      obtain rfl : r = 1 := hw.trans (by unfold sp_X11_settle; (try rw [if_pos (by decide)]) <;> first | rfl | decide)
      exact W.iret (v := 1) hx hb hr (fun t ht hW => ⟨⟨1, (), rfl, (by unfold sp_X11_heard; rw [if_neg c_6, if_neg c_15]), ⟨fun k q h => by simp at h, va_K.moved hW.alike hK, ⟨fun i j p q h => by simp at h, fun k q h => by simp at h⟩⟩⟩, hS.F ht⟩) hS.2.2 dX11_heard_65
    · refine lv_aload_n hx hb dX11_heard_18 rfl (lv_at hl 0 rfl) ?_
      refine lv_iconst (v := (-1)) hx hb dX11_heard_19 (by decide) ?_
      refine mi (wr := [(aS, .inr (7, [.ref aW, .ref aD, f_aS_2, f_aS_3, f_aS_4])), (aW, .inr (10, [f_aW_0, f_aW_1, .ref aF, f_aW_3, f_aW_4, f_aW_5, f_aW_6])), (aF, .inr (4, [f_aF_0, f_aF_1, f_aF_2, f_aF_3, f_aF_4, f_aF_5, f_aF_6, .ref aF1, .ref aF2, .int 0, f_aF_10, f_aF_11, f_aF_12])), (aF1, .inl (cs 0, 8, .inl (fun _ => 0))), (aF2, .inl (cs 0, 8, .inl (fun _ => 0)))]) (mkV (rest := []) ⟨hx, hb, hml, hown, htl⟩ hN hK hP hD (c_X11_settle l G cs h0 (-1) f_h0_0 (.ref aS) f_h0_2 f_h0_3 f_h0_4 f_h0_5 f_h0_6 f_h0_7 f_h0_8 f_h0_9 f_h0_10 f_h0_11 h1 lr (rfs) _ (by decide)) [0, 1] rfl rfl 0 11 rfl rfl (cV 1 htl lk_RX11_91 mI_X11_settle mS_X11_settle mN_RX11 mC_X11_settle ok_X11_settle rfl rfl ⟨(Nat.le_of_ble_eq_true rfl), (Nat.le_of_ble_eq_true rfl)⟩) rfl hl.1 rfl (Nat.le_of_ble_eq_true rfl) dX11_heard_20 ⟨(Nat.le_of_ble_eq_true rfl), (Nat.le_of_ble_eq_true rfl)⟩) hP hD hS hA [0, 1] [2, 3, 4, 5, 6] rfl rfl rfl (by decide) (fun r u_20 H locs hw hP hD hS => ?_)
      have hP : va_P G vwCl [(aS, .inr (7, [.ref aW, .ref aD, f_aS_2, f_aS_3, f_aS_4])), (aW, .inr (10, [f_aW_0, f_aW_1, .ref aF, f_aW_3, f_aW_4, f_aW_5, f_aW_6])), (aF, .inr (4, [f_aF_0, f_aF_1, f_aF_2, f_aF_3, f_aF_4, f_aF_5, f_aF_6, .ref aF1, .ref aF2, .int 0, f_aF_10, f_aF_11, f_aF_12])), (aF1, .inl (cs 0, 8, .inl (fun _ => 0))), (aF2, .inl (cs 0, 8, .inl (fun _ => 0)))] H := hP
      have hD : va_D A [(aS, .inr (7, [.ref aW, .ref aD, f_aS_2, f_aS_3, f_aS_4])), (aW, .inr (10, [f_aW_0, f_aW_1, .ref aF, f_aW_3, f_aW_4, f_aW_5, f_aW_6])), (aF, .inr (4, [f_aF_0, f_aF_1, f_aF_2, f_aF_3, f_aF_4, f_aF_5, f_aF_6, .ref aF1, .ref aF2, .int 0, f_aF_10, f_aF_11, f_aF_12])), (aF1, .inl (cs 0, 8, .inl (fun _ => 0))), (aF2, .inl (cs 0, 8, .inl (fun _ => 0)))] := hD
      obtain rfl : r = (-1) := hw.trans (by unfold sp_X11_settle; (try rw [if_neg (by decide), if_neg (by decide)]) <;> first | rfl | decide)
      exact W.iret (v := (-1)) hx hb hr (fun t ht hW => ⟨⟨(-1), (), rfl, (by unfold sp_X11_heard; rw [if_neg c_6, if_pos c_15]), ⟨fun k q h => by simp at h, va_K.moved hW.alike hK, ⟨fun i j p q h => by simp at h, fun k q h => by simp at h⟩⟩⟩, hS.F ht⟩) hS.2.2 dX11_heard_23

def sp_X11_forget : Int32 := 0
set_option maxHeartbeats 1000000 in
set_option maxRecDepth 100000 in
theorem c_X11_forget (l : Launch) (G : va_G) (cs : Nat → ClassId) (h0 : Nat) (f_h0_0 : Value) (aS : Nat) (f_h0_2 : Value) (f_h0_3 : Value) (f_h0_4 : Value) (f_h0_5 : Value) (f_h0_6 : Value) (f_h0_7 : Value) (f_h0_8 : Value) (f_h0_9 : Value) (f_h0_10 : Value) (f_h0_11 : Value) (h1 : Nat) (lr : Int32) (aW : Nat) (aD : Nat) (f_aS_2 : Value) (f_aS_3 : Value) (f_aS_4 : Value) (f_aW_0 : Value) (f_aW_1 : Value) (aF : Nat) (f_aW_3 : Value) (f_aW_4 : Value) (f_aW_5 : Value) (f_aW_6 : Value) (f_aF_0 : Value) (f_aF_1 : Value) (f_aF_2 : Value) (f_aF_3 : Value) (f_aF_4 : Value) (f_aF_5 : Value) (f_aF_6 : Value) (f_aF_7 : Value) (f_aF_8 : Value) (f_aF_10 : Value) (f_aF_11 : Value) (sz : Nat) : Met l yX11_forget (Cond.code yX11_forget cX11_forget 3 (some .int) :: gW) ({ frames := 0, cells := 0, slots := 0, locals := 0 }) (va_Pc [.ref h0] (Pre G cs [(h0, .inr (11, [f_h0_0, .ref aS, f_h0_2, f_h0_3, f_h0_4, f_h0_5, f_h0_6, f_h0_7, f_h0_8, f_h0_9, f_h0_10, f_h0_11, .ref h1, .int lr])), (aS, .inr (7, [.ref aW, .ref aD, f_aS_2, f_aS_3, f_aS_4])), (aW, .inr (10, [f_aW_0, f_aW_1, .ref aF, f_aW_3, f_aW_4, f_aW_5, f_aW_6])), (aF, .inr (4, [f_aF_0, f_aF_1, f_aF_2, f_aF_3, f_aF_4, f_aF_5, f_aF_6, f_aF_7, f_aF_8, .int 0, f_aF_10, f_aF_11, .int 0]))] sz)) (va_Qi (fun r (u : Unit) => r = sp_X11_forget) (fun (u : Unit) t => Aft G cs (va_A [(h0, .inr (11, [f_h0_0, .ref aS, f_h0_2, f_h0_3, f_h0_4, f_h0_5, f_h0_6, f_h0_7, f_h0_8, f_h0_9, f_h0_10, f_h0_11, .ref h1, .int lr])), (aS, .inr (7, [.ref aW, .ref aD, f_aS_2, f_aS_3, f_aS_4])), (aW, .inr (10, [f_aW_0, f_aW_1, .ref aF, f_aW_3, f_aW_4, f_aW_5, f_aW_6])), (aF, .inr (4, [f_aF_0, f_aF_1, f_aF_2, f_aF_3, f_aF_4, f_aF_5, f_aF_6, f_aF_7, f_aF_8, .int 0, f_aF_10, f_aF_11, .int 0]))] sz) [] t) (va_A [(h0, .inr (11, [f_h0_0, .ref aS, f_h0_2, f_h0_3, f_h0_4, f_h0_5, f_h0_6, f_h0_7, f_h0_8, f_h0_9, f_h0_10, f_h0_11, .ref h1, .int lr])), (aS, .inr (7, [.ref aW, .ref aD, f_aS_2, f_aS_3, f_aS_4])), (aW, .inr (10, [f_aW_0, f_aW_1, .ref aF, f_aW_3, f_aW_4, f_aW_5, f_aW_6])), (aF, .inr (4, [f_aF_0, f_aF_1, f_aF_2, f_aF_3, f_aF_4, f_aF_5, f_aF_6, f_aF_7, f_aF_8, .int 0, f_aF_10, f_aF_11, .int 0]))] sz)) 0 0 (va_A [(h0, .inr (11, [f_h0_0, .ref aS, f_h0_2, f_h0_3, f_h0_4, f_h0_5, f_h0_6, f_h0_7, f_h0_8, f_h0_9, f_h0_10, f_h0_11, .ref h1, .int lr])), (aS, .inr (7, [.ref aW, .ref aD, f_aS_2, f_aS_3, f_aS_4])), (aW, .inr (10, [f_aW_0, f_aW_1, .ref aF, f_aW_3, f_aW_4, f_aW_5, f_aW_6])), (aF, .inr (4, [f_aF_0, f_aF_1, f_aF_2, f_aF_3, f_aF_4, f_aF_5, f_aF_6, f_aF_7, f_aF_8, .int 0, f_aF_10, f_aF_11, .int 0]))] sz) := by
  refine Met.ofW (cc := cX11_forget) (maxL := 3) (ret := (some .int)) (by decide) rfl ?_
  intro p e s m args below meth c s₁ B hml hv
  obtain ⟨rfl, hsz, hP, hK, hD0, hN⟩ := hv
  have hx := B.exec
  have hb := B.bytes
  have hr := B.returns
  have hts := atoms_spec (ws := Cond.code yX11_forget cX11_forget 3 (some .int) :: gW) B.pre
  have htl : ∀ w ∈ gW, w.before _ s = true := fun w h => hts w (List.mem_cons_of_mem _ h)
  have hown : s.vm.findClass RX11 = some m.cls := findClass_of_methodNamed B.named
  have hlocks := B.notSynchronized
  subst hsz
  have hD := hD0.self (sz := s.heap.size)
  generalize hAe : va_A [(h0, .inr (11, [f_h0_0, .ref aS, f_h0_2, f_h0_3, f_h0_4, f_h0_5, f_h0_6, f_h0_7, f_h0_8, f_h0_9, f_h0_10, f_h0_11, .ref h1, .int lr])), (aS, .inr (7, [.ref aW, .ref aD, f_aS_2, f_aS_3, f_aS_4])), (aW, .inr (10, [f_aW_0, f_aW_1, .ref aF, f_aW_3, f_aW_4, f_aW_5, f_aW_6])), (aF, .inr (4, [f_aF_0, f_aF_1, f_aF_2, f_aF_3, f_aF_4, f_aF_5, f_aF_6, f_aF_7, f_aF_8, .int 0, f_aF_10, f_aF_11, .int 0]))] s.heap.size = A at hD ⊢
  have hA : ∀ q : Nat, s.heap.size ≤ q → A q := fun q h => by rw [← hAe]; exact Or.inr h
  have hS : va_S A s.heap s.heap [] := va_S.rf
  have hl := lv_entry ([.ref h0]) (n := 3) (Nat.le_of_ble_eq_true rfl)
  rw [lg_entry_eq]
  generalize (lg_sl ([.ref h0]) ++ List.replicate (3 - (lg_sl ([.ref h0])).length) Slot.unset).toArray = ls at hl ⊢
  have hl : lv_has ls 3 [(0, .ref h0)] := hl
  refine lv_aload_n hx hb dX11_forget_0 rfl (lv_at hl 0 rfl) ?_
  refine va_get (ci := 11) (v := .ref aS) (C := RX11) (T := TX11) (N := 14) hx hb htl inX11 hown hK hP 0 rfl rfl 1 (by decide) (htl _ fl_RX11_21) (fun _ h9 => h9) rfl dX11_forget_1 ?_
  refine va_get (ci := 7) (v := .ref aW) (C := RX7) (T := TX7) (N := 5) hx hb htl inX7 hown hK hP 1 rfl rfl 0 (by decide) (htl _ fl_RX11_78) (fun _ h9 => h9) rfl dX11_forget_4 ?_
  refine va_get (ci := 10) (v := .ref aF) (C := RX10) (T := TX10) (N := 7) hx hb htl inX10 hown hK hP 2 rfl rfl 2 (by decide) (htl _ fl_RX11_156) (fun _ h9 => h9) rfl dX11_forget_7 ?_
  refine lv_astore_n (lv' := [(1, .ref aF), (0, .ref h0)]) hx hb dX11_forget_10 rfl hl (by decide) rfl (fun ls hl => ?_)
  refine lv_aload_n hx hb dX11_forget_11 rfl (lv_at hl 0 rfl) ?_
  refine va_get (ci := 4) (v := .int 0) (C := RX4) (T := TX4) (N := 13) hx hb htl inX4 hown hK hP 3 rfl rfl 9 (by decide) (htl _ fl_RX11_329) (fun _ h9 => h9) rfl dX11_forget_12 ?_
  refine lv_aload_n hx hb dX11_forget_15 rfl (lv_at hl 0 rfl) ?_
  refine va_get (ci := 4) (v := .int 0) (C := RX4) (T := TX4) (N := 13) hx hb htl inX4 hown hK hP 3 rfl rfl 12 (by decide) (htl _ fl_RX11_335) (fun _ h9 => h9) rfl dX11_forget_16 ?_
  refine lv_iadd hx hb dX11_forget_19 ?_
  refine lv_topi (fun xv ex => ?_)
  obtain rfl : xv = 0 := ex.trans (by first | rfl | decide)
  refine lv_istore_n (lv' := [(2, .int 0), (1, .ref aF), (0, .ref h0)]) hx hb dX11_forget_20 rfl hl (by decide) rfl (fun ls hl => ?_)
  refine lv_aload_n hx hb dX11_forget_21 rfl (lv_at hl 1 rfl) ?_
  refine lv_iconst (v := 0) hx hb dX11_forget_22 (by decide) ?_
  refine va_put (ci := 4) (v := .int 0) (ty := .int) (C := RX4) (T := TX4) (N := 13) hx hb htl inX4 tyX4 tyX4_ok nmX4 hown hK hP hD hS 3 rfl rfl 9 (by decide) (htl _ fl_RX11_329) (fun _ h9 => h9) rfl (by decide +kernel) (by first | rfl | decide) (by first | rfl | decide) (Nat.le_of_ble_eq_true rfl) dX11_forget_23 (fun H locs hP hD hS => ?_)
  have hP : va_P G vwCl [(h0, .inr (11, [f_h0_0, .ref aS, f_h0_2, f_h0_3, f_h0_4, f_h0_5, f_h0_6, f_h0_7, f_h0_8, f_h0_9, f_h0_10, f_h0_11, .ref h1, .int lr])), (aS, .inr (7, [.ref aW, .ref aD, f_aS_2, f_aS_3, f_aS_4])), (aW, .inr (10, [f_aW_0, f_aW_1, .ref aF, f_aW_3, f_aW_4, f_aW_5, f_aW_6])), (aF, .inr (4, [f_aF_0, f_aF_1, f_aF_2, f_aF_3, f_aF_4, f_aF_5, f_aF_6, f_aF_7, f_aF_8, .int 0, f_aF_10, f_aF_11, .int 0]))] H := hP
  have hD : va_D A [(h0, .inr (11, [f_h0_0, .ref aS, f_h0_2, f_h0_3, f_h0_4, f_h0_5, f_h0_6, f_h0_7, f_h0_8, f_h0_9, f_h0_10, f_h0_11, .ref h1, .int lr])), (aS, .inr (7, [.ref aW, .ref aD, f_aS_2, f_aS_3, f_aS_4])), (aW, .inr (10, [f_aW_0, f_aW_1, .ref aF, f_aW_3, f_aW_4, f_aW_5, f_aW_6])), (aF, .inr (4, [f_aF_0, f_aF_1, f_aF_2, f_aF_3, f_aF_4, f_aF_5, f_aF_6, f_aF_7, f_aF_8, .int 0, f_aF_10, f_aF_11, .int 0]))] := hD
  refine lv_aload_n hx hb dX11_forget_26 rfl (lv_at hl 1 rfl) ?_
  refine lv_iconst (v := 0) hx hb dX11_forget_27 (by decide) ?_
  refine va_put (ci := 4) (v := .int 0) (ty := .int) (C := RX4) (T := TX4) (N := 13) hx hb htl inX4 tyX4 tyX4_ok nmX4 hown hK hP hD hS 3 rfl rfl 12 (by decide) (htl _ fl_RX11_335) (fun _ h9 => h9) rfl (by decide +kernel) (by first | rfl | decide) (by first | rfl | decide) (Nat.le_of_ble_eq_true rfl) dX11_forget_28 (fun H locs hP hD hS => ?_)
  have hP : va_P G vwCl [(h0, .inr (11, [f_h0_0, .ref aS, f_h0_2, f_h0_3, f_h0_4, f_h0_5, f_h0_6, f_h0_7, f_h0_8, f_h0_9, f_h0_10, f_h0_11, .ref h1, .int lr])), (aS, .inr (7, [.ref aW, .ref aD, f_aS_2, f_aS_3, f_aS_4])), (aW, .inr (10, [f_aW_0, f_aW_1, .ref aF, f_aW_3, f_aW_4, f_aW_5, f_aW_6])), (aF, .inr (4, [f_aF_0, f_aF_1, f_aF_2, f_aF_3, f_aF_4, f_aF_5, f_aF_6, f_aF_7, f_aF_8, .int 0, f_aF_10, f_aF_11, .int 0]))] H := hP
  have hD : va_D A [(h0, .inr (11, [f_h0_0, .ref aS, f_h0_2, f_h0_3, f_h0_4, f_h0_5, f_h0_6, f_h0_7, f_h0_8, f_h0_9, f_h0_10, f_h0_11, .ref h1, .int lr])), (aS, .inr (7, [.ref aW, .ref aD, f_aS_2, f_aS_3, f_aS_4])), (aW, .inr (10, [f_aW_0, f_aW_1, .ref aF, f_aW_3, f_aW_4, f_aW_5, f_aW_6])), (aF, .inr (4, [f_aF_0, f_aF_1, f_aF_2, f_aF_3, f_aF_4, f_aF_5, f_aF_6, f_aF_7, f_aF_8, .int 0, f_aF_10, f_aF_11, .int 0]))] := hD
  refine lv_iload_n hx hb dX11_forget_31 rfl (lv_at hl 0 rfl) ?_
  exact W.iret (v := 0) hx hb hr (fun t ht hW => ⟨⟨0, (), rfl, rfl, ⟨fun k q h => by simp at h, va_K.moved hW.alike hK, ⟨fun i j p q h => by simp at h, fun k q h => by simp at h⟩⟩⟩, hS.F ht⟩) hS.2.2 dX11_forget_32

def sp_X11_well (a : Int32) (b : Int32) : Int32 := if (sp_X11_isWithin a 64) = 0 then (-1) else (if (sp_X11_isWithin b 2) = 0 then (-1) else 1)
set_option maxHeartbeats 1000000 in
set_option maxRecDepth 100000 in
theorem c_X11_well (l : Launch) (G : va_G) (cs : Nat → ClassId) (h0 : Nat) (a : Int32) (b : Int32) (f_h0_0 : Value) (aS : Nat) (f_h0_2 : Value) (f_h0_3 : Value) (f_h0_4 : Value) (f_h0_5 : Value) (f_h0_6 : Value) (f_h0_7 : Value) (f_h0_8 : Value) (f_h0_9 : Value) (f_h0_10 : Value) (f_h0_11 : Value) (h1 : Nat) (lr : Int32) (rfs : Nat → Int32) (aW : Nat) (aD : Nat) (f_aS_2 : Value) (f_aS_3 : Value) (f_aS_4 : Value) (f_aW_0 : Value) (f_aW_1 : Value) (aF : Nat) (f_aW_3 : Value) (f_aW_4 : Value) (f_aW_5 : Value) (f_aW_6 : Value) (f_aF_0 : Value) (f_aF_1 : Value) (f_aF_2 : Value) (f_aF_3 : Value) (f_aF_4 : Value) (f_aF_5 : Value) (f_aF_6 : Value) (f_aF_7 : Value) (f_aF_8 : Value) (f_aF_9 : Value) (aF1 : Nat) (aF2 : Nat) (sz : Nat) : Met l yX11_well (Cond.code yX11_well cX11_well 4 (some .int) :: gW) ({ frames := 1, cells := 0, slots := 0, locals := 22 }) (va_Pc [.ref h0, .int a, .int b] (Pre G cs [(h0, .inr (11, [f_h0_0, .ref aS, f_h0_2, f_h0_3, f_h0_4, f_h0_5, f_h0_6, f_h0_7, f_h0_8, f_h0_9, f_h0_10, f_h0_11, .ref h1, .int lr])), (h1, .inl (cs 0, 7, .inl rfs)), (aS, .inr (7, [.ref aW, .ref aD, f_aS_2, f_aS_3, f_aS_4])), (aW, .inr (10, [f_aW_0, f_aW_1, .ref aF, f_aW_3, f_aW_4, f_aW_5, f_aW_6])), (aF, .inr (4, [f_aF_0, f_aF_1, f_aF_2, f_aF_3, f_aF_4, f_aF_5, f_aF_6, f_aF_7, f_aF_8, f_aF_9, .ref aF1, .ref aF2, .int 0])), (aF1, .inl (cs 0, 10, .inl (fun _ => 0))), (aF2, .inl (cs 0, 10, .inl (fun _ => 0)))] sz)) (va_Qi (fun r (u : Unit) => r = sp_X11_well a b) (fun (u : Unit) t => Aft G cs (va_A [(h0, .inr (11, [f_h0_0, .ref aS, f_h0_2, f_h0_3, f_h0_4, f_h0_5, f_h0_6, f_h0_7, f_h0_8, f_h0_9, f_h0_10, f_h0_11, .ref h1, .int lr])), (h1, .inl (cs 0, 7, .inl rfs)), (aS, .inr (7, [.ref aW, .ref aD, f_aS_2, f_aS_3, f_aS_4])), (aW, .inr (10, [f_aW_0, f_aW_1, .ref aF, f_aW_3, f_aW_4, f_aW_5, f_aW_6])), (aF, .inr (4, [f_aF_0, f_aF_1, f_aF_2, f_aF_3, f_aF_4, f_aF_5, f_aF_6, f_aF_7, f_aF_8, f_aF_9, .ref aF1, .ref aF2, .int 0])), (aF1, .inl (cs 0, 10, .inl (fun _ => 0))), (aF2, .inl (cs 0, 10, .inl (fun _ => 0)))] sz) [] t) (va_A [(h0, .inr (11, [f_h0_0, .ref aS, f_h0_2, f_h0_3, f_h0_4, f_h0_5, f_h0_6, f_h0_7, f_h0_8, f_h0_9, f_h0_10, f_h0_11, .ref h1, .int lr])), (h1, .inl (cs 0, 7, .inl rfs)), (aS, .inr (7, [.ref aW, .ref aD, f_aS_2, f_aS_3, f_aS_4])), (aW, .inr (10, [f_aW_0, f_aW_1, .ref aF, f_aW_3, f_aW_4, f_aW_5, f_aW_6])), (aF, .inr (4, [f_aF_0, f_aF_1, f_aF_2, f_aF_3, f_aF_4, f_aF_5, f_aF_6, f_aF_7, f_aF_8, f_aF_9, .ref aF1, .ref aF2, .int 0])), (aF1, .inl (cs 0, 10, .inl (fun _ => 0))), (aF2, .inl (cs 0, 10, .inl (fun _ => 0)))] sz)) 0 0 (va_A [(h0, .inr (11, [f_h0_0, .ref aS, f_h0_2, f_h0_3, f_h0_4, f_h0_5, f_h0_6, f_h0_7, f_h0_8, f_h0_9, f_h0_10, f_h0_11, .ref h1, .int lr])), (h1, .inl (cs 0, 7, .inl rfs)), (aS, .inr (7, [.ref aW, .ref aD, f_aS_2, f_aS_3, f_aS_4])), (aW, .inr (10, [f_aW_0, f_aW_1, .ref aF, f_aW_3, f_aW_4, f_aW_5, f_aW_6])), (aF, .inr (4, [f_aF_0, f_aF_1, f_aF_2, f_aF_3, f_aF_4, f_aF_5, f_aF_6, f_aF_7, f_aF_8, f_aF_9, .ref aF1, .ref aF2, .int 0])), (aF1, .inl (cs 0, 10, .inl (fun _ => 0))), (aF2, .inl (cs 0, 10, .inl (fun _ => 0)))] sz) := by
  refine Met.ofW (cc := cX11_well) (maxL := 4) (ret := (some .int)) (by decide) rfl ?_
  intro p e s m args below meth c s₁ B hml hv
  obtain ⟨rfl, hsz, hP, hK, hD0, hN⟩ := hv
  have hx := B.exec
  have hb := B.bytes
  have hr := B.returns
  have hts := atoms_spec (ws := Cond.code yX11_well cX11_well 4 (some .int) :: gW) B.pre
  have htl : ∀ w ∈ gW, w.before _ s = true := fun w h => hts w (List.mem_cons_of_mem _ h)
  have hown : s.vm.findClass RX11 = some m.cls := findClass_of_methodNamed B.named
  have hlocks := B.notSynchronized
  subst hsz
  have hD := hD0.self (sz := s.heap.size)
  generalize hAe : va_A [(h0, .inr (11, [f_h0_0, .ref aS, f_h0_2, f_h0_3, f_h0_4, f_h0_5, f_h0_6, f_h0_7, f_h0_8, f_h0_9, f_h0_10, f_h0_11, .ref h1, .int lr])), (h1, .inl (cs 0, 7, .inl rfs)), (aS, .inr (7, [.ref aW, .ref aD, f_aS_2, f_aS_3, f_aS_4])), (aW, .inr (10, [f_aW_0, f_aW_1, .ref aF, f_aW_3, f_aW_4, f_aW_5, f_aW_6])), (aF, .inr (4, [f_aF_0, f_aF_1, f_aF_2, f_aF_3, f_aF_4, f_aF_5, f_aF_6, f_aF_7, f_aF_8, f_aF_9, .ref aF1, .ref aF2, .int 0])), (aF1, .inl (cs 0, 10, .inl (fun _ => 0))), (aF2, .inl (cs 0, 10, .inl (fun _ => 0)))] s.heap.size = A at hD ⊢
  have hA : ∀ q : Nat, s.heap.size ≤ q → A q := fun q h => by rw [← hAe]; exact Or.inr h
  have hS : va_S A s.heap s.heap [] := va_S.rf
  have hl := lv_entry ([.ref h0, .int a, .int b]) (n := 4) (Nat.le_of_ble_eq_true rfl)
  rw [lg_entry_eq]
  generalize (lg_sl ([.ref h0, .int a, .int b]) ++ List.replicate (4 - (lg_sl ([.ref h0, .int a, .int b])).length) Slot.unset).toArray = ls at hl ⊢
  have hl : lv_has ls 4 [(0, .ref h0), (1, .int a), (2, .int b)] := hl
  refine lv_iload_n hx hb dX11_well_0 rfl (lv_at hl 1 rfl) ?_
  refine lv_bipush (v := 64) hx hb dX11_well_1 (by decide) ?_
  refine vp_callSi (mkSr (rest := []) ⟨hx, hb, hml, hown, htl⟩ hN hK (c_X11_isWithin l G cs a 64) (cS 2 htl lk_RX11_82 mT_X11_isWithin mN_RX11 mC_X11_isWithin ok_X11_isWithin rfl rfl ⟨(Nat.le_of_ble_eq_true rfl), (Nat.le_of_ble_eq_true rfl)⟩) rfl hl.1 rfl (Nat.le_of_ble_eq_true rfl) dX11_well_3 ⟨(Nat.le_of_ble_eq_true rfl), (Nat.le_of_ble_eq_true rfl)⟩) (fun r hw => ?_)
  obtain ⟨rfl, hz_1⟩ := hw
  refine lv_if_eq (tgt := 17) hx hb dX11_well_6 (by decide) (fun c_6 => ?_) (fun c_6 => ?_)
  · refine lv_aload_n hx hb dX11_well_17 rfl (lv_at hl 0 rfl) ?_
    refine lv_iconst (v := (-1)) hx hb dX11_well_18 (by decide) ?_
    refine mi (wr := [(aS, .inr (7, [.ref aW, .ref aD, f_aS_2, f_aS_3, f_aS_4])), (aW, .inr (10, [f_aW_0, f_aW_1, .ref aF, f_aW_3, f_aW_4, f_aW_5, f_aW_6])), (aF, .inr (4, [f_aF_0, f_aF_1, f_aF_2, f_aF_3, f_aF_4, f_aF_5, f_aF_6, f_aF_7, f_aF_8, f_aF_9, .ref aF1, .ref aF2, .int 0])), (aF1, .inl (cs 0, 10, .inl (fun _ => 0))), (aF2, .inl (cs 0, 10, .inl (fun _ => 0)))]) (mkV (rest := []) ⟨hx, hb, hml, hown, htl⟩ hN hK hP hD (c_X11_settle l G cs h0 (-1) f_h0_0 (.ref aS) f_h0_2 f_h0_3 f_h0_4 f_h0_5 f_h0_6 f_h0_7 f_h0_8 f_h0_9 f_h0_10 f_h0_11 h1 lr (rfs) _ (by decide)) [0, 1] rfl rfl 0 11 rfl rfl (cV 1 htl lk_RX11_91 mI_X11_settle mS_X11_settle mN_RX11 mC_X11_settle ok_X11_settle rfl rfl ⟨(Nat.le_of_ble_eq_true rfl), (Nat.le_of_ble_eq_true rfl)⟩) rfl hl.1 rfl (Nat.le_of_ble_eq_true rfl) dX11_well_19 ⟨(Nat.le_of_ble_eq_true rfl), (Nat.le_of_ble_eq_true rfl)⟩) hP hD hS hA [0, 1] [2, 3, 4, 5, 6] rfl rfl rfl (by decide) (fun r u_19 H locs hw hP hD hS => ?_)
    have hP : va_P G vwCl [(aS, .inr (7, [.ref aW, .ref aD, f_aS_2, f_aS_3, f_aS_4])), (aW, .inr (10, [f_aW_0, f_aW_1, .ref aF, f_aW_3, f_aW_4, f_aW_5, f_aW_6])), (aF, .inr (4, [f_aF_0, f_aF_1, f_aF_2, f_aF_3, f_aF_4, f_aF_5, f_aF_6, f_aF_7, f_aF_8, f_aF_9, .ref aF1, .ref aF2, .int 0])), (aF1, .inl (cs 0, 10, .inl (fun _ => 0))), (aF2, .inl (cs 0, 10, .inl (fun _ => 0)))] H := hP
    have hD : va_D A [(aS, .inr (7, [.ref aW, .ref aD, f_aS_2, f_aS_3, f_aS_4])), (aW, .inr (10, [f_aW_0, f_aW_1, .ref aF, f_aW_3, f_aW_4, f_aW_5, f_aW_6])), (aF, .inr (4, [f_aF_0, f_aF_1, f_aF_2, f_aF_3, f_aF_4, f_aF_5, f_aF_6, f_aF_7, f_aF_8, f_aF_9, .ref aF1, .ref aF2, .int 0])), (aF1, .inl (cs 0, 10, .inl (fun _ => 0))), (aF2, .inl (cs 0, 10, .inl (fun _ => 0)))] := hD
    obtain rfl : r = (-1) := hw.trans (by unfold sp_X11_settle; (try rw [if_neg (by decide), if_neg (by decide)]) <;> first | rfl | decide)
    exact W.iret (v := (-1)) hx hb hr (fun t ht hW => ⟨⟨(-1), (), rfl, (by unfold sp_X11_well; rw [if_pos c_6]), ⟨fun k q h => by simp at h, va_K.moved hW.alike hK, ⟨fun i j p q h => by simp at h, fun k q h => by simp at h⟩⟩⟩, hS.F ht⟩) hS.2.2 dX11_well_22
  · refine lv_iload_n hx hb dX11_well_9 rfl (lv_at hl 2 rfl) ?_
    refine lv_iconst (v := 2) hx hb dX11_well_10 (by decide) ?_
    refine vp_callSi (mkSr (rest := []) ⟨hx, hb, hml, hown, htl⟩ hN hK (c_X11_isWithin l G cs b 2) (cS 2 htl lk_RX11_82 mT_X11_isWithin mN_RX11 mC_X11_isWithin ok_X11_isWithin rfl rfl ⟨(Nat.le_of_ble_eq_true rfl), (Nat.le_of_ble_eq_true rfl)⟩) rfl hl.1 rfl (Nat.le_of_ble_eq_true rfl) dX11_well_11 ⟨(Nat.le_of_ble_eq_true rfl), (Nat.le_of_ble_eq_true rfl)⟩) (fun r hw => ?_)
    obtain ⟨rfl, hz_2⟩ := hw
    refine lv_if_ne (tgt := 23) hx hb dX11_well_14 (by decide) (fun c_14 => ?_) (fun c_14 => ?_)
    · refine lv_aload_n hx hb dX11_well_23 rfl (lv_at hl 0 rfl) ?_
      refine va_get (ci := 11) (v := .ref aS) (C := RX11) (T := TX11) (N := 14) hx hb htl inX11 hown hK hP 0 rfl rfl 1 (by decide) (htl _ fl_RX11_21) (fun _ h9 => h9) rfl dX11_well_24 ?_
      refine va_get (ci := 7) (v := .ref aW) (C := RX7) (T := TX7) (N := 5) hx hb htl inX7 hown hK hP 2 rfl rfl 0 (by decide) (htl _ fl_RX11_78) (fun _ h9 => h9) rfl dX11_well_27 ?_
      refine va_get (ci := 10) (v := .ref aF) (C := RX10) (T := TX10) (N := 7) hx hb htl inX10 hown hK hP 3 rfl rfl 2 (by decide) (htl _ fl_RX11_156) (fun _ h9 => h9) rfl dX11_well_30 ?_
      refine lv_astore_n (lv' := [(3, .ref aF), (0, .ref h0), (1, .int a), (2, .int b)]) hx hb dX11_well_33 rfl hl (by decide) rfl (fun ls hl => ?_)
      refine lv_aload_n hx hb dX11_well_34 rfl (lv_at hl 0 rfl) ?_
      refine va_get (ci := 4) (v := .int 0) (C := RX4) (T := TX4) (N := 13) hx hb htl inX4 hown hK hP 4 rfl rfl 12 (by decide) (htl _ fl_RX11_335) (fun _ h9 => h9) rfl dX11_well_35 ?_
      refine lv_bipush (v := 10) hx hb dX11_well_38 (by decide) ?_
      refine lv_icmp_lt (tgt := 50) hx hb dX11_well_40 (by decide) (fun _ => ?_) (fun h => absurd (by decide) h)
      refine lv_aload_n hx hb dX11_well_50 rfl (lv_at hl 0 rfl) ?_
      refine lv_iload_n hx hb dX11_well_51 rfl (lv_at hl 2 rfl) ?_
      refine lv_iload_n hx hb dX11_well_52 rfl (lv_at hl 3 rfl) ?_
      refine mv (wr := [(h0, .inr (11, [f_h0_0, .ref aS, f_h0_2, f_h0_3, f_h0_4, f_h0_5, f_h0_6, f_h0_7, f_h0_8, f_h0_9, f_h0_10, f_h0_11, .ref h1, .int lr])), (h1, .inl (cs 0, 7, .inl rfs)), (aS, .inr (7, [.ref aW, .ref aD, f_aS_2, f_aS_3, f_aS_4])), (aW, .inr (10, [f_aW_0, f_aW_1, .ref aF, f_aW_3, f_aW_4, f_aW_5, f_aW_6]))]) (mkV (rest := []) ⟨hx, hb, hml, hown, htl⟩ hN hK hP hD (c_X4_addWell l G cs aF a b f_aF_0 f_aF_1 f_aF_2 f_aF_3 f_aF_4 f_aF_5 f_aF_6 f_aF_7 f_aF_8 f_aF_9 aF1 aF2 _) [4, 5, 6] rfl rfl 0 4 rfl rfl (cV 2 htl lk_RX11_346 mI_X4_addWell mS_X4_addWell mN_RX4 mC_X4_addWell ok_X4_addWell rfl rfl ⟨(Nat.le_of_ble_eq_true rfl), (Nat.le_of_ble_eq_true rfl)⟩) rfl hl.1 rfl (Nat.le_of_ble_eq_true rfl) dX11_well_53 ⟨(Nat.le_of_ble_eq_true rfl), (Nat.le_of_ble_eq_true rfl)⟩) hP hD hS hA [4, 5, 6] [0, 1, 2, 3] rfl rfl rfl (by decide) (fun u_53 H locs hw hP hD hS => ?_)
      have hP : va_P G vwCl [(h0, .inr (11, [f_h0_0, .ref aS, f_h0_2, f_h0_3, f_h0_4, f_h0_5, f_h0_6, f_h0_7, f_h0_8, f_h0_9, f_h0_10, f_h0_11, .ref h1, .int lr])), (h1, .inl (cs 0, 7, .inl rfs)), (aS, .inr (7, [.ref aW, .ref aD, f_aS_2, f_aS_3, f_aS_4])), (aW, .inr (10, [f_aW_0, f_aW_1, .ref aF, f_aW_3, f_aW_4, f_aW_5, f_aW_6])), (aF, .inr (4, [f_aF_0, f_aF_1, f_aF_2, f_aF_3, f_aF_4, f_aF_5, f_aF_6, f_aF_7, f_aF_8, f_aF_9, .ref aF1, .ref aF2, .int 1])), (aF1, .inl (cs 0, 10, .inl (upd (fun _ => 0) 0 a))), (aF2, .inl (cs 0, 10, .inl (upd (fun _ => 0) 0 b)))] H := hP
      have hD : va_D A [(h0, .inr (11, [f_h0_0, .ref aS, f_h0_2, f_h0_3, f_h0_4, f_h0_5, f_h0_6, f_h0_7, f_h0_8, f_h0_9, f_h0_10, f_h0_11, .ref h1, .int lr])), (h1, .inl (cs 0, 7, .inl rfs)), (aS, .inr (7, [.ref aW, .ref aD, f_aS_2, f_aS_3, f_aS_4])), (aW, .inr (10, [f_aW_0, f_aW_1, .ref aF, f_aW_3, f_aW_4, f_aW_5, f_aW_6])), (aF, .inr (4, [f_aF_0, f_aF_1, f_aF_2, f_aF_3, f_aF_4, f_aF_5, f_aF_6, f_aF_7, f_aF_8, f_aF_9, .ref aF1, .ref aF2, .int 1])), (aF1, .inl (cs 0, 10, .inl (upd (fun _ => 0) 0 a))), (aF2, .inl (cs 0, 10, .inl (upd (fun _ => 0) 0 b)))] := hD
      refine lv_aload_n hx hb dX11_well_56 rfl (lv_at hl 1 rfl) ?_
      refine lv_aload_n hx hb dX11_well_57 rfl (lv_at hl 0 rfl) ?_
      refine va_get (ci := 4) (v := .int 1) (C := RX4) (T := TX4) (N := 13) hx hb htl inX4 hown hK hP 4 rfl rfl 12 (by decide) (htl _ fl_RX11_335) (fun _ h9 => h9) rfl dX11_well_58 ?_
      refine mi (wr := [(aS, .inr (7, [.ref aW, .ref aD, f_aS_2, f_aS_3, f_aS_4])), (aW, .inr (10, [f_aW_0, f_aW_1, .ref aF, f_aW_3, f_aW_4, f_aW_5, f_aW_6])), (aF, .inr (4, [f_aF_0, f_aF_1, f_aF_2, f_aF_3, f_aF_4, f_aF_5, f_aF_6, f_aF_7, f_aF_8, f_aF_9, .ref aF1, .ref aF2, .int 1])), (aF1, .inl (cs 0, 10, .inl (upd (fun _ => 0) 0 a))), (aF2, .inl (cs 0, 10, .inl (upd (fun _ => 0) 0 b)))]) (mkV (rest := []) ⟨hx, hb, hml, hown, htl⟩ hN hK hP hD (c_X11_settle l G cs h0 1 f_h0_0 (.ref aS) f_h0_2 f_h0_3 f_h0_4 f_h0_5 f_h0_6 f_h0_7 f_h0_8 f_h0_9 f_h0_10 f_h0_11 h1 lr (rfs) _ (by decide)) [0, 1] rfl rfl 0 11 rfl rfl (cV 1 htl lk_RX11_91 mI_X11_settle mS_X11_settle mN_RX11 mC_X11_settle ok_X11_settle rfl rfl ⟨(Nat.le_of_ble_eq_true rfl), (Nat.le_of_ble_eq_true rfl)⟩) rfl hl.1 rfl (Nat.le_of_ble_eq_true rfl) dX11_well_61 ⟨(Nat.le_of_ble_eq_true rfl), (Nat.le_of_ble_eq_true rfl)⟩) hP hD hS hA [0, 1] [2, 3, 4, 5, 6] rfl rfl rfl (by decide) (fun r u_61 H locs hw hP hD hS => ?_)
      have hP : va_P G vwCl [(aS, .inr (7, [.ref aW, .ref aD, f_aS_2, f_aS_3, f_aS_4])), (aW, .inr (10, [f_aW_0, f_aW_1, .ref aF, f_aW_3, f_aW_4, f_aW_5, f_aW_6])), (aF, .inr (4, [f_aF_0, f_aF_1, f_aF_2, f_aF_3, f_aF_4, f_aF_5, f_aF_6, f_aF_7, f_aF_8, f_aF_9, .ref aF1, .ref aF2, .int 1])), (aF1, .inl (cs 0, 10, .inl (upd (fun _ => 0) 0 a))), (aF2, .inl (cs 0, 10, .inl (upd (fun _ => 0) 0 b)))] H := hP
      have hD : va_D A [(aS, .inr (7, [.ref aW, .ref aD, f_aS_2, f_aS_3, f_aS_4])), (aW, .inr (10, [f_aW_0, f_aW_1, .ref aF, f_aW_3, f_aW_4, f_aW_5, f_aW_6])), (aF, .inr (4, [f_aF_0, f_aF_1, f_aF_2, f_aF_3, f_aF_4, f_aF_5, f_aF_6, f_aF_7, f_aF_8, f_aF_9, .ref aF1, .ref aF2, .int 1])), (aF1, .inl (cs 0, 10, .inl (upd (fun _ => 0) 0 a))), (aF2, .inl (cs 0, 10, .inl (upd (fun _ => 0) 0 b)))] := hD
      obtain rfl : r = 1 := hw.trans (by unfold sp_X11_settle; (try rw [if_pos (by decide)]) <;> first | rfl | decide)
      exact W.iret (v := 1) hx hb hr (fun t ht hW => ⟨⟨1, (), rfl, (by unfold sp_X11_well; rw [if_neg c_6, if_neg c_14]), ⟨fun k q h => by simp at h, va_K.moved hW.alike hK, ⟨fun i j p q h => by simp at h, fun k q h => by simp at h⟩⟩⟩, hS.F ht⟩) hS.2.2 dX11_well_64
    · refine lv_aload_n hx hb dX11_well_17 rfl (lv_at hl 0 rfl) ?_
      refine lv_iconst (v := (-1)) hx hb dX11_well_18 (by decide) ?_
      refine mi (wr := [(aS, .inr (7, [.ref aW, .ref aD, f_aS_2, f_aS_3, f_aS_4])), (aW, .inr (10, [f_aW_0, f_aW_1, .ref aF, f_aW_3, f_aW_4, f_aW_5, f_aW_6])), (aF, .inr (4, [f_aF_0, f_aF_1, f_aF_2, f_aF_3, f_aF_4, f_aF_5, f_aF_6, f_aF_7, f_aF_8, f_aF_9, .ref aF1, .ref aF2, .int 0])), (aF1, .inl (cs 0, 10, .inl (fun _ => 0))), (aF2, .inl (cs 0, 10, .inl (fun _ => 0)))]) (mkV (rest := []) ⟨hx, hb, hml, hown, htl⟩ hN hK hP hD (c_X11_settle l G cs h0 (-1) f_h0_0 (.ref aS) f_h0_2 f_h0_3 f_h0_4 f_h0_5 f_h0_6 f_h0_7 f_h0_8 f_h0_9 f_h0_10 f_h0_11 h1 lr (rfs) _ (by decide)) [0, 1] rfl rfl 0 11 rfl rfl (cV 1 htl lk_RX11_91 mI_X11_settle mS_X11_settle mN_RX11 mC_X11_settle ok_X11_settle rfl rfl ⟨(Nat.le_of_ble_eq_true rfl), (Nat.le_of_ble_eq_true rfl)⟩) rfl hl.1 rfl (Nat.le_of_ble_eq_true rfl) dX11_well_19 ⟨(Nat.le_of_ble_eq_true rfl), (Nat.le_of_ble_eq_true rfl)⟩) hP hD hS hA [0, 1] [2, 3, 4, 5, 6] rfl rfl rfl (by decide) (fun r u_19 H locs hw hP hD hS => ?_)
      have hP : va_P G vwCl [(aS, .inr (7, [.ref aW, .ref aD, f_aS_2, f_aS_3, f_aS_4])), (aW, .inr (10, [f_aW_0, f_aW_1, .ref aF, f_aW_3, f_aW_4, f_aW_5, f_aW_6])), (aF, .inr (4, [f_aF_0, f_aF_1, f_aF_2, f_aF_3, f_aF_4, f_aF_5, f_aF_6, f_aF_7, f_aF_8, f_aF_9, .ref aF1, .ref aF2, .int 0])), (aF1, .inl (cs 0, 10, .inl (fun _ => 0))), (aF2, .inl (cs 0, 10, .inl (fun _ => 0)))] H := hP
      have hD : va_D A [(aS, .inr (7, [.ref aW, .ref aD, f_aS_2, f_aS_3, f_aS_4])), (aW, .inr (10, [f_aW_0, f_aW_1, .ref aF, f_aW_3, f_aW_4, f_aW_5, f_aW_6])), (aF, .inr (4, [f_aF_0, f_aF_1, f_aF_2, f_aF_3, f_aF_4, f_aF_5, f_aF_6, f_aF_7, f_aF_8, f_aF_9, .ref aF1, .ref aF2, .int 0])), (aF1, .inl (cs 0, 10, .inl (fun _ => 0))), (aF2, .inl (cs 0, 10, .inl (fun _ => 0)))] := hD
      obtain rfl : r = (-1) := hw.trans (by unfold sp_X11_settle; (try rw [if_neg (by decide), if_neg (by decide)]) <;> first | rfl | decide)
      exact W.iret (v := (-1)) hx hb hr (fun t ht hW => ⟨⟨(-1), (), rfl, (by unfold sp_X11_well; rw [if_neg c_6, if_pos c_14]), ⟨fun k q h => by simp at h, va_K.moved hW.alike hK, ⟨fun i j p q h => by simp at h, fun k q h => by simp at h⟩⟩⟩, hS.F ht⟩) hS.2.2 dX11_well_22

def sp_X11_vein (a : Int32) : Int64 := if (sp_X11_isWithin a 40) = 0 then (-1) else (-1)
set_option maxHeartbeats 1000000 in
set_option maxRecDepth 100000 in
theorem c_X11_vein (l : Launch) (G : va_G) (cs : Nat → ClassId) (h0 : Nat) (a : Int32) (b : Int32) (f_h0_0 : Value) (aS : Nat) (f_h0_2 : Value) (f_h0_3 : Value) (f_h0_4 : Value) (f_h0_5 : Value) (f_h0_6 : Value) (f_h0_7 : Value) (f_h0_8 : Value) (f_h0_9 : Value) (f_h0_10 : Value) (f_h0_11 : Value) (h1 : Nat) (lr : Int32) (aW : Nat) (aD : Nat) (f_aS_2 : Value) (f_aS_3 : Value) (f_aS_4 : Value) (aR : Nat) (f_aW_1 : Value) (f_aW_2 : Value) (f_aW_3 : Value) (f_aW_4 : Value) (f_aW_5 : Value) (f_aW_6 : Value) (aK : Nat) (f_aR_1 : Value) (f_aR_2 : Value) (f_aR_3 : Value) (sz : Nat) : Met l yX11_vein (Cond.code yX11_vein cX11_vein 6 (some .long) :: gW) ({ frames := 1, cells := 0, slots := 0, locals := 21 }) (va_Pc [.ref h0, .int a, .int b] (Pre G cs [(h0, .inr (11, [f_h0_0, .ref aS, f_h0_2, f_h0_3, f_h0_4, f_h0_5, f_h0_6, f_h0_7, f_h0_8, f_h0_9, f_h0_10, f_h0_11, .ref h1, .int lr])), (aS, .inr (7, [.ref aW, .ref aD, f_aS_2, f_aS_3, f_aS_4])), (aW, .inr (10, [.ref aR, f_aW_1, f_aW_2, f_aW_3, f_aW_4, f_aW_5, f_aW_6])), (aR, .inr (6, [.ref aK, f_aR_1, f_aR_2, f_aR_3])), (aK, .inl (cs 0, 40, .inl (fun _ => 0)))] sz)) (va_Ql (fun r (u : Unit) => r = sp_X11_vein a) (fun (u : Unit) t => Aft G cs (va_A [(h0, .inr (11, [f_h0_0, .ref aS, f_h0_2, f_h0_3, f_h0_4, f_h0_5, f_h0_6, f_h0_7, f_h0_8, f_h0_9, f_h0_10, f_h0_11, .ref h1, .int lr])), (aS, .inr (7, [.ref aW, .ref aD, f_aS_2, f_aS_3, f_aS_4])), (aW, .inr (10, [.ref aR, f_aW_1, f_aW_2, f_aW_3, f_aW_4, f_aW_5, f_aW_6])), (aR, .inr (6, [.ref aK, f_aR_1, f_aR_2, f_aR_3])), (aK, .inl (cs 0, 40, .inl (fun _ => 0)))] sz) [] t) (va_A [(h0, .inr (11, [f_h0_0, .ref aS, f_h0_2, f_h0_3, f_h0_4, f_h0_5, f_h0_6, f_h0_7, f_h0_8, f_h0_9, f_h0_10, f_h0_11, .ref h1, .int lr])), (aS, .inr (7, [.ref aW, .ref aD, f_aS_2, f_aS_3, f_aS_4])), (aW, .inr (10, [.ref aR, f_aW_1, f_aW_2, f_aW_3, f_aW_4, f_aW_5, f_aW_6])), (aR, .inr (6, [.ref aK, f_aR_1, f_aR_2, f_aR_3])), (aK, .inl (cs 0, 40, .inl (fun _ => 0)))] sz)) 0 0 (va_A [(h0, .inr (11, [f_h0_0, .ref aS, f_h0_2, f_h0_3, f_h0_4, f_h0_5, f_h0_6, f_h0_7, f_h0_8, f_h0_9, f_h0_10, f_h0_11, .ref h1, .int lr])), (aS, .inr (7, [.ref aW, .ref aD, f_aS_2, f_aS_3, f_aS_4])), (aW, .inr (10, [.ref aR, f_aW_1, f_aW_2, f_aW_3, f_aW_4, f_aW_5, f_aW_6])), (aR, .inr (6, [.ref aK, f_aR_1, f_aR_2, f_aR_3])), (aK, .inl (cs 0, 40, .inl (fun _ => 0)))] sz) := by
  refine Met.ofW (cc := cX11_vein) (maxL := 6) (ret := (some .long)) (by decide) rfl ?_
  intro p e s m args below meth c s₁ B hml hv
  obtain ⟨rfl, hsz, hP, hK, hD0, hN⟩ := hv
  have hx := B.exec
  have hb := B.bytes
  have hr := B.returns
  have hts := atoms_spec (ws := Cond.code yX11_vein cX11_vein 6 (some .long) :: gW) B.pre
  have htl : ∀ w ∈ gW, w.before _ s = true := fun w h => hts w (List.mem_cons_of_mem _ h)
  have hown : s.vm.findClass RX11 = some m.cls := findClass_of_methodNamed B.named
  have hlocks := B.notSynchronized
  subst hsz
  have hD := hD0.self (sz := s.heap.size)
  generalize hAe : va_A [(h0, .inr (11, [f_h0_0, .ref aS, f_h0_2, f_h0_3, f_h0_4, f_h0_5, f_h0_6, f_h0_7, f_h0_8, f_h0_9, f_h0_10, f_h0_11, .ref h1, .int lr])), (aS, .inr (7, [.ref aW, .ref aD, f_aS_2, f_aS_3, f_aS_4])), (aW, .inr (10, [.ref aR, f_aW_1, f_aW_2, f_aW_3, f_aW_4, f_aW_5, f_aW_6])), (aR, .inr (6, [.ref aK, f_aR_1, f_aR_2, f_aR_3])), (aK, .inl (cs 0, 40, .inl (fun _ => 0)))] s.heap.size = A at hD ⊢
  have hA : ∀ q : Nat, s.heap.size ≤ q → A q := fun q h => by rw [← hAe]; exact Or.inr h
  have hS : va_S A s.heap s.heap [] := va_S.rf
  have hl := lv_entry ([.ref h0, .int a, .int b]) (n := 6) (Nat.le_of_ble_eq_true rfl)
  rw [lg_entry_eq]
  generalize (lg_sl ([.ref h0, .int a, .int b]) ++ List.replicate (6 - (lg_sl ([.ref h0, .int a, .int b])).length) Slot.unset).toArray = ls at hl ⊢
  have hl : lv_has ls 6 [(0, .ref h0), (1, .int a), (2, .int b)] := hl
  refine lv_aload_n hx hb dX11_vein_0 rfl (lv_at hl 0 rfl) ?_
  refine va_get (ci := 11) (v := .ref aS) (C := RX11) (T := TX11) (N := 14) hx hb htl inX11 hown hK hP 0 rfl rfl 1 (by decide) (htl _ fl_RX11_21) (fun _ h9 => h9) rfl dX11_vein_1 ?_
  refine va_get (ci := 7) (v := .ref aW) (C := RX7) (T := TX7) (N := 5) hx hb htl inX7 hown hK hP 1 rfl rfl 0 (by decide) (htl _ fl_RX11_78) (fun _ h9 => h9) rfl dX11_vein_4 ?_
  refine lv_astore_n (lv' := [(3, .ref aW), (0, .ref h0), (1, .int a), (2, .int b)]) hx hb dX11_vein_7 rfl hl (by decide) rfl (fun ls hl => ?_)
  refine lv_iload_n hx hb dX11_vein_8 rfl (lv_at hl 2 rfl) ?_
  refine lv_bipush (v := 40) hx hb dX11_vein_9 (by decide) ?_
  refine vp_callSi (mkSr (rest := []) ⟨hx, hb, hml, hown, htl⟩ hN hK (c_X11_isWithin l G cs a 40) (cS 2 htl lk_RX11_82 mT_X11_isWithin mN_RX11 mC_X11_isWithin ok_X11_isWithin rfl rfl ⟨(Nat.le_of_ble_eq_true rfl), (Nat.le_of_ble_eq_true rfl)⟩) rfl hl.1 rfl (Nat.le_of_ble_eq_true rfl) dX11_vein_11 ⟨(Nat.le_of_ble_eq_true rfl), (Nat.le_of_ble_eq_true rfl)⟩) (fun r hw => ?_)
  obtain ⟨rfl, hz_1⟩ := hw
  refine lv_if_eq (tgt := 30) hx hb dX11_vein_14 (by decide) (fun c_14 => ?_) (fun c_14 => ?_)
  · refine lv_ldc2 hx hb hown (htl _ ct_RX11_268) dX11_vein_30 ?_
    exact W.lret (v := (-1)) hx hb hr (fun t ht hW => ⟨⟨(-1), (), rfl, (by unfold sp_X11_vein; rw [if_pos c_14]), ⟨fun k q h => by simp at h, va_K.moved hW.alike hK, ⟨fun i j p q h => by simp at h, fun k q h => by simp at h⟩⟩⟩, hS.F ht⟩) hS.2.2 dX11_vein_33
  · refine lv_aload_n hx hb dX11_vein_17 rfl (lv_at hl 0 rfl) ?_
    refine va_get (ci := 10) (v := .ref aR) (C := RX10) (T := TX10) (N := 7) hx hb htl inX10 hown hK hP 2 rfl rfl 0 (by decide) (htl _ fl_RX11_95) (fun _ h9 => h9) rfl dX11_vein_18 ?_
    refine va_get (ci := 6) (v := .ref aK) (C := RX6) (T := TX6) (N := 4) hx hb htl inX6 hown hK hP 3 rfl rfl 0 (by decide) (htl _ fl_RX11_124) (fun _ h9 => h9) rfl dX11_vein_21 ?_
    refine lv_iload_n hx hb dX11_vein_24 rfl (lv_at hl 2 rfl) ?_
    refine va_iald hx hb hK hP 4 0 rfl rfl (iw_in c_14) dX11_vein_25 ?_
    refine lv_topi (fun xv ex => ?_)
    obtain rfl : xv = 0 := ex.trans (by first | exact pk_us | rfl | decide)
    refine lv_iconst (v := 3) hx hb dX11_vein_26 (by decide) ?_
    refine lv_icmp_eq (tgt := 34) hx hb dX11_vein_27 (by decide) (fun h => absurd h (by decide)) (fun _ => ?_)
    refine lv_ldc2 hx hb hown (htl _ ct_RX11_268) dX11_vein_30 ?_
    exact W.lret (v := (-1)) hx hb hr (fun t ht hW => ⟨⟨(-1), (), rfl, (by unfold sp_X11_vein; rw [if_neg c_14]), ⟨fun k q h => by simp at h, va_K.moved hW.alike hK, ⟨fun i j p q h => by simp at h, fun k q h => by simp at h⟩⟩⟩, hS.F ht⟩) hS.2.2 dX11_vein_33

def sp_X11_time (d : Int32) : Int64 := if (sp_X11_isWithin d 201) = 0 then (-1) else (-1)
set_option maxHeartbeats 1000000 in
set_option maxRecDepth 100000 in
theorem c_X11_time (l : Launch) (G : va_G) (cs : Nat → ClassId) (h0 : Nat) (a : Int32) (b : Int32) (d : Int32) (f_h0_0 : Value) (aS : Nat) (f_h0_2 : Value) (f_h0_3 : Value) (f_h0_4 : Value) (f_h0_5 : Value) (f_h0_6 : Value) (f_h0_7 : Value) (f_h0_8 : Value) (f_h0_9 : Value) (f_h0_10 : Value) (f_h0_11 : Value) (h1 : Nat) (lr : Int32) (aW : Nat) (aD : Nat) (f_aS_2 : Value) (f_aS_3 : Value) (f_aS_4 : Value) (f_aW_0 : Value) (aC : Nat) (f_aW_2 : Value) (f_aW_3 : Value) (f_aW_4 : Value) (f_aW_5 : Value) (f_aW_6 : Value) (f_aC_0 : Value) (f_aC_1 : Value) (sz : Nat) : Met l yX11_time (Cond.code yX11_time cX11_time 4 (some .long) :: gW) ({ frames := 2, cells := 0, slots := 0, locals := 44 }) (va_Pc [.ref h0, .int a, .int b, .int d] (Pre G cs [(h0, .inr (11, [f_h0_0, .ref aS, f_h0_2, f_h0_3, f_h0_4, f_h0_5, f_h0_6, f_h0_7, f_h0_8, f_h0_9, f_h0_10, f_h0_11, .ref h1, .int lr])), (aS, .inr (7, [.ref aW, .ref aD, f_aS_2, f_aS_3, f_aS_4])), (aW, .inr (10, [f_aW_0, .ref aC, f_aW_2, f_aW_3, f_aW_4, f_aW_5, f_aW_6])), (aC, .inr (1, [f_aC_0, f_aC_1, .int 0]))] sz)) (va_Ql (fun r (u : Unit) => r = sp_X11_time d) (fun (u : Unit) t => Aft G cs (va_A [(h0, .inr (11, [f_h0_0, .ref aS, f_h0_2, f_h0_3, f_h0_4, f_h0_5, f_h0_6, f_h0_7, f_h0_8, f_h0_9, f_h0_10, f_h0_11, .ref h1, .int lr])), (aS, .inr (7, [.ref aW, .ref aD, f_aS_2, f_aS_3, f_aS_4])), (aW, .inr (10, [f_aW_0, .ref aC, f_aW_2, f_aW_3, f_aW_4, f_aW_5, f_aW_6])), (aC, .inr (1, [f_aC_0, f_aC_1, .int 0]))] sz) [] t) (va_A [(h0, .inr (11, [f_h0_0, .ref aS, f_h0_2, f_h0_3, f_h0_4, f_h0_5, f_h0_6, f_h0_7, f_h0_8, f_h0_9, f_h0_10, f_h0_11, .ref h1, .int lr])), (aS, .inr (7, [.ref aW, .ref aD, f_aS_2, f_aS_3, f_aS_4])), (aW, .inr (10, [f_aW_0, .ref aC, f_aW_2, f_aW_3, f_aW_4, f_aW_5, f_aW_6])), (aC, .inr (1, [f_aC_0, f_aC_1, .int 0]))] sz)) 0 0 (va_A [(h0, .inr (11, [f_h0_0, .ref aS, f_h0_2, f_h0_3, f_h0_4, f_h0_5, f_h0_6, f_h0_7, f_h0_8, f_h0_9, f_h0_10, f_h0_11, .ref h1, .int lr])), (aS, .inr (7, [.ref aW, .ref aD, f_aS_2, f_aS_3, f_aS_4])), (aW, .inr (10, [f_aW_0, .ref aC, f_aW_2, f_aW_3, f_aW_4, f_aW_5, f_aW_6])), (aC, .inr (1, [f_aC_0, f_aC_1, .int 0]))] sz) := by
  refine Met.ofW (cc := cX11_time) (maxL := 4) (ret := (some .long)) (by decide) rfl ?_
  intro p e s m args below meth c s₁ B hml hv
  obtain ⟨rfl, hsz, hP, hK, hD0, hN⟩ := hv
  have hx := B.exec
  have hb := B.bytes
  have hr := B.returns
  have hts := atoms_spec (ws := Cond.code yX11_time cX11_time 4 (some .long) :: gW) B.pre
  have htl : ∀ w ∈ gW, w.before _ s = true := fun w h => hts w (List.mem_cons_of_mem _ h)
  have hown : s.vm.findClass RX11 = some m.cls := findClass_of_methodNamed B.named
  have hlocks := B.notSynchronized
  subst hsz
  have hD := hD0.self (sz := s.heap.size)
  generalize hAe : va_A [(h0, .inr (11, [f_h0_0, .ref aS, f_h0_2, f_h0_3, f_h0_4, f_h0_5, f_h0_6, f_h0_7, f_h0_8, f_h0_9, f_h0_10, f_h0_11, .ref h1, .int lr])), (aS, .inr (7, [.ref aW, .ref aD, f_aS_2, f_aS_3, f_aS_4])), (aW, .inr (10, [f_aW_0, .ref aC, f_aW_2, f_aW_3, f_aW_4, f_aW_5, f_aW_6])), (aC, .inr (1, [f_aC_0, f_aC_1, .int 0]))] s.heap.size = A at hD ⊢
  have hA : ∀ q : Nat, s.heap.size ≤ q → A q := fun q h => by rw [← hAe]; exact Or.inr h
  have hS : va_S A s.heap s.heap [] := va_S.rf
  have hl := lv_entry ([.ref h0, .int a, .int b, .int d]) (n := 4) (Nat.le_of_ble_eq_true rfl)
  rw [lg_entry_eq]
  generalize (lg_sl ([.ref h0, .int a, .int b, .int d]) ++ List.replicate (4 - (lg_sl ([.ref h0, .int a, .int b, .int d])).length) Slot.unset).toArray = ls at hl ⊢
  have hl : lv_has ls 4 [(0, .ref h0), (1, .int a), (2, .int b), (3, .int d)] := hl
  refine lv_iload_n hx hb dX11_time_0 rfl (lv_at hl 3 rfl) ?_
  refine lv_sipush (v := 201) hx hb dX11_time_1 (by decide) ?_
  refine vp_callSi (mkSr (rest := []) ⟨hx, hb, hml, hown, htl⟩ hN hK (c_X11_isWithin l G cs d 201) (cS 2 htl lk_RX11_82 mT_X11_isWithin mN_RX11 mC_X11_isWithin ok_X11_isWithin rfl rfl ⟨(Nat.le_of_ble_eq_true rfl), (Nat.le_of_ble_eq_true rfl)⟩) rfl hl.1 rfl (Nat.le_of_ble_eq_true rfl) dX11_time_4 ⟨(Nat.le_of_ble_eq_true rfl), (Nat.le_of_ble_eq_true rfl)⟩) (fun r hw => ?_)
  obtain ⟨rfl, hz_1⟩ := hw
  refine lv_if_eq (tgt := 19) hx hb dX11_time_7 (by decide) (fun c_7 => ?_) (fun c_7 => ?_)
  · refine lv_ldc2 hx hb hown (htl _ ct_RX11_268) dX11_time_19 ?_
    exact W.lret (v := (-1)) hx hb hr (fun t ht hW => ⟨⟨(-1), (), rfl, (by unfold sp_X11_time; rw [if_pos c_7]), ⟨fun k q h => by simp at h, va_K.moved hW.alike hK, ⟨fun i j p q h => by simp at h, fun k q h => by simp at h⟩⟩⟩, hS.F ht⟩) hS.2.2 dX11_time_22
  · refine lv_aload_n hx hb dX11_time_10 rfl (lv_at hl 0 rfl) ?_
    refine lv_iload_n hx hb dX11_time_11 rfl (lv_at hl 1 rfl) ?_
    refine lv_iload_n hx hb dX11_time_12 rfl (lv_at hl 2 rfl) ?_
    refine vp_callSi (mkVr (rest := []) ⟨hx, hb, hml, hown, htl⟩ hN hK hP (c_X11_findWay l G cs h0 a b f_h0_0 aS f_h0_2 f_h0_3 f_h0_4 f_h0_5 f_h0_6 f_h0_7 f_h0_8 f_h0_9 f_h0_10 f_h0_11 (.ref h1) (.int lr) aW (.ref aD) f_aS_2 f_aS_3 f_aS_4 f_aW_0 aC f_aW_2 f_aW_3 f_aW_4 f_aW_5 f_aW_6 f_aC_0 f_aC_1) [0, 1, 2, 3] rfl 0 11 rfl rfl (cV 2 htl lk_RX11_293 mI_X11_findWay mS_X11_findWay mN_RX11 mC_X11_findWay ok_X11_findWay rfl rfl ⟨(Nat.le_of_ble_eq_true rfl), (Nat.le_of_ble_eq_true rfl)⟩) rfl hl.1 rfl (Nat.le_of_ble_eq_true rfl) dX11_time_13 ⟨(Nat.le_of_ble_eq_true rfl), (Nat.le_of_ble_eq_true rfl)⟩) (fun r hw => ?_)
    obtain rfl : r = 0 := hw.1.trans (by first | decide +kernel | rfl)
    refine lv_if_ne (tgt := 23) hx hb dX11_time_16 (by decide) (fun h => absurd (by decide) h) (fun _ => ?_)
    refine lv_ldc2 hx hb hown (htl _ ct_RX11_268) dX11_time_19 ?_
    exact W.lret (v := (-1)) hx hb hr (fun t ht hW => ⟨⟨(-1), (), rfl, (by unfold sp_X11_time; rw [if_neg c_7]), ⟨fun k q h => by simp at h, va_K.moved hW.alike hK, ⟨fun i j p q h => by simp at h, fun k q h => by simp at h⟩⟩⟩, hS.F ht⟩) hS.2.2 dX11_time_22

def sp_X11_seasons (a : Int32) (b : Int32) : Int32 := if (sp_X11_isWithin a 1000001) = 0 then (-1) else (if b < 1 then (-1) else (if b ≤ 60 then (-3) else (-1)))
set_option maxHeartbeats 1000000 in
set_option maxRecDepth 100000 in
theorem c_X11_seasons (l : Launch) (G : va_G) (cs : Nat → ClassId) (h0 : Nat) (a : Int32) (b : Int32) (f_h0_0 : Value) (aS : Nat) (f_h0_2 : Value) (f_h0_3 : Value) (f_h0_4 : Value) (f_h0_5 : Value) (f_h0_6 : Value) (f_h0_7 : Value) (f_h0_8 : Value) (f_h0_9 : Value) (f_h0_10 : Value) (f_h0_11 : Value) (h1 : Nat) (lr : Int32) (rfs : Nat → Int32) (aW : Nat) (aD : Nat) (f_aS_2 : Value) (f_aS_3 : Value) (f_aS_4 : Value) (f_aW_0 : Value) (aC : Nat) (f_aW_2 : Value) (f_aW_3 : Value) (f_aW_4 : Value) (f_aW_5 : Value) (f_aW_6 : Value) (f_aC_0 : Value) (f_aC_1 : Value) (sz : Nat) : Met l yX11_seasons (Cond.code yX11_seasons cX11_seasons 3 (some .int) :: gW) ({ frames := 1, cells := 0, slots := 0, locals := 21 }) (va_Pc [.ref h0, .int a, .int b] (Pre G cs [(h0, .inr (11, [f_h0_0, .ref aS, f_h0_2, f_h0_3, f_h0_4, f_h0_5, f_h0_6, f_h0_7, f_h0_8, f_h0_9, f_h0_10, f_h0_11, .ref h1, .int lr])), (h1, .inl (cs 0, 7, .inl rfs)), (aS, .inr (7, [.ref aW, .ref aD, f_aS_2, f_aS_3, f_aS_4])), (aW, .inr (10, [f_aW_0, .ref aC, f_aW_2, f_aW_3, f_aW_4, f_aW_5, f_aW_6])), (aC, .inr (1, [f_aC_0, f_aC_1, .int 0]))] sz)) (va_Qi (fun r (u : Unit) => r = sp_X11_seasons a b) (fun (u : Unit) t => Aft G cs (va_A [(h0, .inr (11, [f_h0_0, .ref aS, f_h0_2, f_h0_3, f_h0_4, f_h0_5, f_h0_6, f_h0_7, f_h0_8, f_h0_9, f_h0_10, f_h0_11, .ref h1, .int lr])), (h1, .inl (cs 0, 7, .inl rfs)), (aS, .inr (7, [.ref aW, .ref aD, f_aS_2, f_aS_3, f_aS_4])), (aW, .inr (10, [f_aW_0, .ref aC, f_aW_2, f_aW_3, f_aW_4, f_aW_5, f_aW_6])), (aC, .inr (1, [f_aC_0, f_aC_1, .int 0]))] sz) [] t) (va_A [(h0, .inr (11, [f_h0_0, .ref aS, f_h0_2, f_h0_3, f_h0_4, f_h0_5, f_h0_6, f_h0_7, f_h0_8, f_h0_9, f_h0_10, f_h0_11, .ref h1, .int lr])), (h1, .inl (cs 0, 7, .inl rfs)), (aS, .inr (7, [.ref aW, .ref aD, f_aS_2, f_aS_3, f_aS_4])), (aW, .inr (10, [f_aW_0, .ref aC, f_aW_2, f_aW_3, f_aW_4, f_aW_5, f_aW_6])), (aC, .inr (1, [f_aC_0, f_aC_1, .int 0]))] sz)) 0 0 (va_A [(h0, .inr (11, [f_h0_0, .ref aS, f_h0_2, f_h0_3, f_h0_4, f_h0_5, f_h0_6, f_h0_7, f_h0_8, f_h0_9, f_h0_10, f_h0_11, .ref h1, .int lr])), (h1, .inl (cs 0, 7, .inl rfs)), (aS, .inr (7, [.ref aW, .ref aD, f_aS_2, f_aS_3, f_aS_4])), (aW, .inr (10, [f_aW_0, .ref aC, f_aW_2, f_aW_3, f_aW_4, f_aW_5, f_aW_6])), (aC, .inr (1, [f_aC_0, f_aC_1, .int 0]))] sz) := by
  refine Met.ofW (cc := cX11_seasons) (maxL := 3) (ret := (some .int)) (by decide) rfl ?_
  intro p e s m args below meth c s₁ B hml hv
  obtain ⟨rfl, hsz, hP, hK, hD0, hN⟩ := hv
  have hx := B.exec
  have hb := B.bytes
  have hr := B.returns
  have hts := atoms_spec (ws := Cond.code yX11_seasons cX11_seasons 3 (some .int) :: gW) B.pre
  have htl : ∀ w ∈ gW, w.before _ s = true := fun w h => hts w (List.mem_cons_of_mem _ h)
  have hown : s.vm.findClass RX11 = some m.cls := findClass_of_methodNamed B.named
  have hlocks := B.notSynchronized
  subst hsz
  have hD := hD0.self (sz := s.heap.size)
  generalize hAe : va_A [(h0, .inr (11, [f_h0_0, .ref aS, f_h0_2, f_h0_3, f_h0_4, f_h0_5, f_h0_6, f_h0_7, f_h0_8, f_h0_9, f_h0_10, f_h0_11, .ref h1, .int lr])), (h1, .inl (cs 0, 7, .inl rfs)), (aS, .inr (7, [.ref aW, .ref aD, f_aS_2, f_aS_3, f_aS_4])), (aW, .inr (10, [f_aW_0, .ref aC, f_aW_2, f_aW_3, f_aW_4, f_aW_5, f_aW_6])), (aC, .inr (1, [f_aC_0, f_aC_1, .int 0]))] s.heap.size = A at hD ⊢
  have hA : ∀ q : Nat, s.heap.size ≤ q → A q := fun q h => by rw [← hAe]; exact Or.inr h
  have hS : va_S A s.heap s.heap [] := va_S.rf
  have hl := lv_entry ([.ref h0, .int a, .int b]) (n := 3) (Nat.le_of_ble_eq_true rfl)
  rw [lg_entry_eq]
  generalize (lg_sl ([.ref h0, .int a, .int b]) ++ List.replicate (3 - (lg_sl ([.ref h0, .int a, .int b])).length) Slot.unset).toArray = ls at hl ⊢
  have hl : lv_has ls 3 [(0, .ref h0), (1, .int a), (2, .int b)] := hl
  refine lv_iload_n hx hb dX11_seasons_0 rfl (lv_at hl 1 rfl) ?_
  refine lv_ldcw hx hb hown (htl _ ct_RX11_370) dX11_seasons_1 ?_
  refine vp_callSi (mkSr (rest := []) ⟨hx, hb, hml, hown, htl⟩ hN hK (c_X11_isWithin l G cs a 1000001) (cS 2 htl lk_RX11_82 mT_X11_isWithin mN_RX11 mC_X11_isWithin ok_X11_isWithin rfl rfl ⟨(Nat.le_of_ble_eq_true rfl), (Nat.le_of_ble_eq_true rfl)⟩) rfl hl.1 rfl (Nat.le_of_ble_eq_true rfl) dX11_seasons_4 ⟨(Nat.le_of_ble_eq_true rfl), (Nat.le_of_ble_eq_true rfl)⟩) (fun r hw => ?_)
  obtain ⟨rfl, hz_1⟩ := hw
  refine lv_if_eq (tgt := 21) hx hb dX11_seasons_7 (by decide) (fun c_7 => ?_) (fun c_7 => ?_)
  · refine lv_aload_n hx hb dX11_seasons_21 rfl (lv_at hl 0 rfl) ?_
    refine lv_iconst (v := (-1)) hx hb dX11_seasons_22 (by decide) ?_
    refine mi (wr := [(aS, .inr (7, [.ref aW, .ref aD, f_aS_2, f_aS_3, f_aS_4])), (aW, .inr (10, [f_aW_0, .ref aC, f_aW_2, f_aW_3, f_aW_4, f_aW_5, f_aW_6])), (aC, .inr (1, [f_aC_0, f_aC_1, .int 0]))]) (mkV (rest := []) ⟨hx, hb, hml, hown, htl⟩ hN hK hP hD (c_X11_settle l G cs h0 (-1) f_h0_0 (.ref aS) f_h0_2 f_h0_3 f_h0_4 f_h0_5 f_h0_6 f_h0_7 f_h0_8 f_h0_9 f_h0_10 f_h0_11 h1 lr (rfs) _ (by decide)) [0, 1] rfl rfl 0 11 rfl rfl (cV 1 htl lk_RX11_91 mI_X11_settle mS_X11_settle mN_RX11 mC_X11_settle ok_X11_settle rfl rfl ⟨(Nat.le_of_ble_eq_true rfl), (Nat.le_of_ble_eq_true rfl)⟩) rfl hl.1 rfl (Nat.le_of_ble_eq_true rfl) dX11_seasons_23 ⟨(Nat.le_of_ble_eq_true rfl), (Nat.le_of_ble_eq_true rfl)⟩) hP hD hS hA [0, 1] [2, 3, 4] rfl rfl rfl (by decide) (fun r u_23 H locs hw hP hD hS => ?_)
    have hP : va_P G vwCl [(aS, .inr (7, [.ref aW, .ref aD, f_aS_2, f_aS_3, f_aS_4])), (aW, .inr (10, [f_aW_0, .ref aC, f_aW_2, f_aW_3, f_aW_4, f_aW_5, f_aW_6])), (aC, .inr (1, [f_aC_0, f_aC_1, .int 0]))] H := hP
    have hD : va_D A [(aS, .inr (7, [.ref aW, .ref aD, f_aS_2, f_aS_3, f_aS_4])), (aW, .inr (10, [f_aW_0, .ref aC, f_aW_2, f_aW_3, f_aW_4, f_aW_5, f_aW_6])), (aC, .inr (1, [f_aC_0, f_aC_1, .int 0]))] := hD
    obtain rfl : r = (-1) := hw.trans (by unfold sp_X11_settle; (try rw [if_neg (by decide), if_neg (by decide)]) <;> first | rfl | decide)
    exact W.iret (v := (-1)) hx hb hr (fun t ht hW => ⟨⟨(-1), (), rfl, (by unfold sp_X11_seasons; rw [if_pos c_7]), ⟨fun k q h => by simp at h, va_K.moved hW.alike hK, ⟨fun i j p q h => by simp at h, fun k q h => by simp at h⟩⟩⟩, hS.F ht⟩) hS.2.2 dX11_seasons_26
  · refine lv_iload_n hx hb dX11_seasons_10 rfl (lv_at hl 2 rfl) ?_
    refine lv_iconst (v := 1) hx hb dX11_seasons_11 (by decide) ?_
    refine lv_icmp_lt (tgt := 21) hx hb dX11_seasons_12 (by decide) (fun c_12 => ?_) (fun c_12 => ?_)
    · refine lv_aload_n hx hb dX11_seasons_21 rfl (lv_at hl 0 rfl) ?_
      refine lv_iconst (v := (-1)) hx hb dX11_seasons_22 (by decide) ?_
      refine mi (wr := [(aS, .inr (7, [.ref aW, .ref aD, f_aS_2, f_aS_3, f_aS_4])), (aW, .inr (10, [f_aW_0, .ref aC, f_aW_2, f_aW_3, f_aW_4, f_aW_5, f_aW_6])), (aC, .inr (1, [f_aC_0, f_aC_1, .int 0]))]) (mkV (rest := []) ⟨hx, hb, hml, hown, htl⟩ hN hK hP hD (c_X11_settle l G cs h0 (-1) f_h0_0 (.ref aS) f_h0_2 f_h0_3 f_h0_4 f_h0_5 f_h0_6 f_h0_7 f_h0_8 f_h0_9 f_h0_10 f_h0_11 h1 lr (rfs) _ (by decide)) [0, 1] rfl rfl 0 11 rfl rfl (cV 1 htl lk_RX11_91 mI_X11_settle mS_X11_settle mN_RX11 mC_X11_settle ok_X11_settle rfl rfl ⟨(Nat.le_of_ble_eq_true rfl), (Nat.le_of_ble_eq_true rfl)⟩) rfl hl.1 rfl (Nat.le_of_ble_eq_true rfl) dX11_seasons_23 ⟨(Nat.le_of_ble_eq_true rfl), (Nat.le_of_ble_eq_true rfl)⟩) hP hD hS hA [0, 1] [2, 3, 4] rfl rfl rfl (by decide) (fun r u_23 H locs hw hP hD hS => ?_)
      have hP : va_P G vwCl [(aS, .inr (7, [.ref aW, .ref aD, f_aS_2, f_aS_3, f_aS_4])), (aW, .inr (10, [f_aW_0, .ref aC, f_aW_2, f_aW_3, f_aW_4, f_aW_5, f_aW_6])), (aC, .inr (1, [f_aC_0, f_aC_1, .int 0]))] H := hP
      have hD : va_D A [(aS, .inr (7, [.ref aW, .ref aD, f_aS_2, f_aS_3, f_aS_4])), (aW, .inr (10, [f_aW_0, .ref aC, f_aW_2, f_aW_3, f_aW_4, f_aW_5, f_aW_6])), (aC, .inr (1, [f_aC_0, f_aC_1, .int 0]))] := hD
      obtain rfl : r = (-1) := hw.trans (by unfold sp_X11_settle; (try rw [if_neg (by decide), if_neg (by decide)]) <;> first | rfl | decide)
      exact W.iret (v := (-1)) hx hb hr (fun t ht hW => ⟨⟨(-1), (), rfl, (by unfold sp_X11_seasons; rw [if_neg c_7, if_pos c_12]), ⟨fun k q h => by simp at h, va_K.moved hW.alike hK, ⟨fun i j p q h => by simp at h, fun k q h => by simp at h⟩⟩⟩, hS.F ht⟩) hS.2.2 dX11_seasons_26
    · refine lv_iload_n hx hb dX11_seasons_15 rfl (lv_at hl 2 rfl) ?_
      refine lv_bipush (v := 60) hx hb dX11_seasons_16 (by decide) ?_
      refine lv_icmp_le (tgt := 27) hx hb dX11_seasons_18 (by decide) (fun c_18 => ?_) (fun c_18 => ?_)
      · refine lv_aload_n hx hb dX11_seasons_27 rfl (lv_at hl 0 rfl) ?_
        refine va_get (ci := 11) (v := .ref aS) (C := RX11) (T := TX11) (N := 14) hx hb htl inX11 hown hK hP 0 rfl rfl 1 (by decide) (htl _ fl_RX11_21) (fun _ h9 => h9) rfl dX11_seasons_28 ?_
        refine va_get (ci := 7) (v := .ref aW) (C := RX7) (T := TX7) (N := 5) hx hb htl inX7 hown hK hP 2 rfl rfl 0 (by decide) (htl _ fl_RX11_78) (fun _ h9 => h9) rfl dX11_seasons_31 ?_
        refine va_get (ci := 10) (v := .ref aC) (C := RX10) (T := TX10) (N := 7) hx hb htl inX10 hown hK hP 3 rfl rfl 1 (by decide) (htl _ fl_RX11_134) (fun _ h9 => h9) rfl dX11_seasons_34 ?_
        refine va_get (ci := 1) (v := .int 0) (C := RX1) (T := TX1) (N := 3) hx hb htl inX1 hown hK hP 4 rfl rfl 2 (by decide) (htl _ fl_RX11_137) (fun _ h9 => h9) rfl dX11_seasons_37 ?_
        refine lv_if_ne (tgt := 50) hx hb dX11_seasons_40 (by decide) (fun h => absurd (by decide) h) (fun _ => ?_)
        refine lv_aload_n hx hb dX11_seasons_43 rfl (lv_at hl 0 rfl) ?_
        refine lv_bipush (v := (-3)) hx hb dX11_seasons_44 (by decide) ?_
        refine mi (wr := [(aS, .inr (7, [.ref aW, .ref aD, f_aS_2, f_aS_3, f_aS_4])), (aW, .inr (10, [f_aW_0, .ref aC, f_aW_2, f_aW_3, f_aW_4, f_aW_5, f_aW_6])), (aC, .inr (1, [f_aC_0, f_aC_1, .int 0]))]) (mkV (rest := []) ⟨hx, hb, hml, hown, htl⟩ hN hK hP hD (c_X11_settle l G cs h0 (-3) f_h0_0 (.ref aS) f_h0_2 f_h0_3 f_h0_4 f_h0_5 f_h0_6 f_h0_7 f_h0_8 f_h0_9 f_h0_10 f_h0_11 h1 lr (rfs) _ (by decide)) [0, 1] rfl rfl 0 11 rfl rfl (cV 1 htl lk_RX11_91 mI_X11_settle mS_X11_settle mN_RX11 mC_X11_settle ok_X11_settle rfl rfl ⟨(Nat.le_of_ble_eq_true rfl), (Nat.le_of_ble_eq_true rfl)⟩) rfl hl.1 rfl (Nat.le_of_ble_eq_true rfl) dX11_seasons_46 ⟨(Nat.le_of_ble_eq_true rfl), (Nat.le_of_ble_eq_true rfl)⟩) hP hD hS hA [0, 1] [2, 3, 4] rfl rfl rfl (by decide) (fun r u_46 H locs hw hP hD hS => ?_)
        have hP : va_P G vwCl [(aS, .inr (7, [.ref aW, .ref aD, f_aS_2, f_aS_3, f_aS_4])), (aW, .inr (10, [f_aW_0, .ref aC, f_aW_2, f_aW_3, f_aW_4, f_aW_5, f_aW_6])), (aC, .inr (1, [f_aC_0, f_aC_1, .int 0]))] H := hP
        have hD : va_D A [(aS, .inr (7, [.ref aW, .ref aD, f_aS_2, f_aS_3, f_aS_4])), (aW, .inr (10, [f_aW_0, .ref aC, f_aW_2, f_aW_3, f_aW_4, f_aW_5, f_aW_6])), (aC, .inr (1, [f_aC_0, f_aC_1, .int 0]))] := hD
        obtain rfl : r = (-3) := hw.trans (by unfold sp_X11_settle; (try rw [if_neg (by decide), if_neg (by decide)]) <;> first | rfl | decide)
        exact W.iret (v := (-3)) hx hb hr (fun t ht hW => ⟨⟨(-3), (), rfl, (by unfold sp_X11_seasons; rw [if_neg c_7, if_neg c_12, if_pos c_18]), ⟨fun k q h => by simp at h, va_K.moved hW.alike hK, ⟨fun i j p q h => by simp at h, fun k q h => by simp at h⟩⟩⟩, hS.F ht⟩) hS.2.2 dX11_seasons_49
      · refine lv_aload_n hx hb dX11_seasons_21 rfl (lv_at hl 0 rfl) ?_
        refine lv_iconst (v := (-1)) hx hb dX11_seasons_22 (by decide) ?_
        refine mi (wr := [(aS, .inr (7, [.ref aW, .ref aD, f_aS_2, f_aS_3, f_aS_4])), (aW, .inr (10, [f_aW_0, .ref aC, f_aW_2, f_aW_3, f_aW_4, f_aW_5, f_aW_6])), (aC, .inr (1, [f_aC_0, f_aC_1, .int 0]))]) (mkV (rest := []) ⟨hx, hb, hml, hown, htl⟩ hN hK hP hD (c_X11_settle l G cs h0 (-1) f_h0_0 (.ref aS) f_h0_2 f_h0_3 f_h0_4 f_h0_5 f_h0_6 f_h0_7 f_h0_8 f_h0_9 f_h0_10 f_h0_11 h1 lr (rfs) _ (by decide)) [0, 1] rfl rfl 0 11 rfl rfl (cV 1 htl lk_RX11_91 mI_X11_settle mS_X11_settle mN_RX11 mC_X11_settle ok_X11_settle rfl rfl ⟨(Nat.le_of_ble_eq_true rfl), (Nat.le_of_ble_eq_true rfl)⟩) rfl hl.1 rfl (Nat.le_of_ble_eq_true rfl) dX11_seasons_23 ⟨(Nat.le_of_ble_eq_true rfl), (Nat.le_of_ble_eq_true rfl)⟩) hP hD hS hA [0, 1] [2, 3, 4] rfl rfl rfl (by decide) (fun r u_23 H locs hw hP hD hS => ?_)
        have hP : va_P G vwCl [(aS, .inr (7, [.ref aW, .ref aD, f_aS_2, f_aS_3, f_aS_4])), (aW, .inr (10, [f_aW_0, .ref aC, f_aW_2, f_aW_3, f_aW_4, f_aW_5, f_aW_6])), (aC, .inr (1, [f_aC_0, f_aC_1, .int 0]))] H := hP
        have hD : va_D A [(aS, .inr (7, [.ref aW, .ref aD, f_aS_2, f_aS_3, f_aS_4])), (aW, .inr (10, [f_aW_0, .ref aC, f_aW_2, f_aW_3, f_aW_4, f_aW_5, f_aW_6])), (aC, .inr (1, [f_aC_0, f_aC_1, .int 0]))] := hD
        obtain rfl : r = (-1) := hw.trans (by unfold sp_X11_settle; (try rw [if_neg (by decide), if_neg (by decide)]) <;> first | rfl | decide)
        exact W.iret (v := (-1)) hx hb hr (fun t ht hW => ⟨⟨(-1), (), rfl, (by unfold sp_X11_seasons; rw [if_neg c_7, if_neg c_12, if_neg c_18]), ⟨fun k q h => by simp at h, va_K.moved hW.alike hK, ⟨fun i j p q h => by simp at h, fun k q h => by simp at h⟩⟩⟩, hS.F ht⟩) hS.2.2 dX11_seasons_26

def sp_X11_drawn : Int32 := (-1)
set_option maxHeartbeats 1000000 in
set_option maxRecDepth 100000 in
theorem c_X11_drawn (l : Launch) (G : va_G) (cs : Nat → ClassId) (h0 : Nat) (a : Int32) (b : Int32) (f_h0_0 : Value) (f_h0_1 : Value) (f_h0_2 : Value) (f_h0_3 : Value) (f_h0_4 : Value) (f_h0_5 : Value) (f_h0_6 : Value) (f_h0_7 : Value) (f_h0_8 : Value) (f_h0_10 : Value) (f_h0_11 : Value) (h1 : Nat) (lr : Int32) (sz : Nat) : Met l yX11_drawn (Cond.code yX11_drawn cX11_drawn 3 (some .int) :: gW) ({ frames := 0, cells := 0, slots := 0, locals := 0 }) (va_Pc [.ref h0, .int a, .int b] (Pre G cs [(h0, .inr (11, [f_h0_0, f_h0_1, f_h0_2, f_h0_3, f_h0_4, f_h0_5, f_h0_6, f_h0_7, f_h0_8, .int (-1), f_h0_10, f_h0_11, .ref h1, .int lr]))] sz)) (va_Qi (fun r (u : Unit) => r = sp_X11_drawn) (fun (u : Unit) t => Aft G cs (va_A [(h0, .inr (11, [f_h0_0, f_h0_1, f_h0_2, f_h0_3, f_h0_4, f_h0_5, f_h0_6, f_h0_7, f_h0_8, .int (-1), f_h0_10, f_h0_11, .ref h1, .int lr]))] sz) [] t) (va_A [(h0, .inr (11, [f_h0_0, f_h0_1, f_h0_2, f_h0_3, f_h0_4, f_h0_5, f_h0_6, f_h0_7, f_h0_8, .int (-1), f_h0_10, f_h0_11, .ref h1, .int lr]))] sz)) 0 0 (va_A [(h0, .inr (11, [f_h0_0, f_h0_1, f_h0_2, f_h0_3, f_h0_4, f_h0_5, f_h0_6, f_h0_7, f_h0_8, .int (-1), f_h0_10, f_h0_11, .ref h1, .int lr]))] sz) := by
  refine Met.ofW (cc := cX11_drawn) (maxL := 3) (ret := (some .int)) (by decide) rfl ?_
  intro p e s m args below meth c s₁ B hml hv
  obtain ⟨rfl, hsz, hP, hK, hD0, hN⟩ := hv
  have hx := B.exec
  have hb := B.bytes
  have hr := B.returns
  have hts := atoms_spec (ws := Cond.code yX11_drawn cX11_drawn 3 (some .int) :: gW) B.pre
  have htl : ∀ w ∈ gW, w.before _ s = true := fun w h => hts w (List.mem_cons_of_mem _ h)
  have hown : s.vm.findClass RX11 = some m.cls := findClass_of_methodNamed B.named
  have hlocks := B.notSynchronized
  subst hsz
  have hD := hD0.self (sz := s.heap.size)
  generalize hAe : va_A [(h0, .inr (11, [f_h0_0, f_h0_1, f_h0_2, f_h0_3, f_h0_4, f_h0_5, f_h0_6, f_h0_7, f_h0_8, .int (-1), f_h0_10, f_h0_11, .ref h1, .int lr]))] s.heap.size = A at hD ⊢
  have hA : ∀ q : Nat, s.heap.size ≤ q → A q := fun q h => by rw [← hAe]; exact Or.inr h
  have hS : va_S A s.heap s.heap [] := va_S.rf
  have hl := lv_entry ([.ref h0, .int a, .int b]) (n := 3) (Nat.le_of_ble_eq_true rfl)
  rw [lg_entry_eq]
  generalize (lg_sl ([.ref h0, .int a, .int b]) ++ List.replicate (3 - (lg_sl ([.ref h0, .int a, .int b])).length) Slot.unset).toArray = ls at hl ⊢
  have hl : lv_has ls 3 [(0, .ref h0), (1, .int a), (2, .int b)] := hl
  refine lv_aload_n hx hb dX11_drawn_0 rfl (lv_at hl 0 rfl) ?_
  refine va_get (ci := 11) (v := .int (-1)) (C := RX11) (T := TX11) (N := 14) hx hb htl inX11 hown hK hP 0 rfl rfl 9 (by decide) (htl _ fl_RX11_67) (fun _ h9 => h9) rfl dX11_drawn_1 ?_
  refine lv_iconst (v := (-1)) hx hb dX11_drawn_4 (by decide) ?_
  refine lv_icmp_eq (tgt := 17) hx hb dX11_drawn_5 (by decide) (fun _ => ?_) (fun h => absurd (by decide) h)
  refine lv_iconst (v := (-1)) hx hb dX11_drawn_17 (by decide) ?_
  exact W.iret (v := (-1)) hx hb hr (fun t ht hW => ⟨⟨(-1), (), rfl, rfl, ⟨fun k q h => by simp at h, va_K.moved hW.alike hK, ⟨fun i j p q h => by simp at h, fun k q h => by simp at h⟩⟩⟩, hS.F ht⟩) hS.2.2 dX11_drawn_18

def sp_X11_back (a : Int32) : Int32 := if (sp_X11_isWithin a 2) = 0 then (-1) else (-2)
set_option maxHeartbeats 1000000 in
set_option maxRecDepth 100000 in
theorem c_X11_back (l : Launch) (G : va_G) (cs : Nat → ClassId) (h0 : Nat) (a : Int32) (f_h0_0 : Value) (f_h0_1 : Value) (f_h0_2 : Value) (f_h0_3 : Value) (aZ : Nat) (f_h0_5 : Value) (f_h0_6 : Value) (f_h0_7 : Value) (f_h0_8 : Value) (f_h0_9 : Value) (f_h0_10 : Value) (f_h0_11 : Value) (h1 : Nat) (lr : Int32) (rfs : Nat → Int32) (sz : Nat) : Met l yX11_back (Cond.code yX11_back cX11_back 2 (some .int) :: gW) ({ frames := 1, cells := 0, slots := 0, locals := 21 }) (va_Pc [.ref h0, .int a] (Pre G cs [(h0, .inr (11, [f_h0_0, f_h0_1, f_h0_2, f_h0_3, .ref aZ, f_h0_5, f_h0_6, f_h0_7, f_h0_8, f_h0_9, f_h0_10, f_h0_11, .ref h1, .int lr])), (h1, .inl (cs 0, 7, .inl rfs)), (aZ, .inl (cs 2, 2, .inl (fun _ => 0)))] sz)) (va_Qi (fun r (u : Unit) => r = sp_X11_back a) (fun (u : Unit) t => Aft G cs (va_A [(h0, .inr (11, [f_h0_0, f_h0_1, f_h0_2, f_h0_3, .ref aZ, f_h0_5, f_h0_6, f_h0_7, f_h0_8, f_h0_9, f_h0_10, f_h0_11, .ref h1, .int lr])), (h1, .inl (cs 0, 7, .inl rfs)), (aZ, .inl (cs 2, 2, .inl (fun _ => 0)))] sz) [] t) (va_A [(h0, .inr (11, [f_h0_0, f_h0_1, f_h0_2, f_h0_3, .ref aZ, f_h0_5, f_h0_6, f_h0_7, f_h0_8, f_h0_9, f_h0_10, f_h0_11, .ref h1, .int lr])), (h1, .inl (cs 0, 7, .inl rfs)), (aZ, .inl (cs 2, 2, .inl (fun _ => 0)))] sz)) 0 0 (va_A [(h0, .inr (11, [f_h0_0, f_h0_1, f_h0_2, f_h0_3, .ref aZ, f_h0_5, f_h0_6, f_h0_7, f_h0_8, f_h0_9, f_h0_10, f_h0_11, .ref h1, .int lr])), (h1, .inl (cs 0, 7, .inl rfs)), (aZ, .inl (cs 2, 2, .inl (fun _ => 0)))] sz) := by
  refine Met.ofW (cc := cX11_back) (maxL := 2) (ret := (some .int)) (by decide) rfl ?_
  intro p e s m args below meth c s₁ B hml hv
  obtain ⟨rfl, hsz, hP, hK, hD0, hN⟩ := hv
  have hx := B.exec
  have hb := B.bytes
  have hr := B.returns
  have hts := atoms_spec (ws := Cond.code yX11_back cX11_back 2 (some .int) :: gW) B.pre
  have htl : ∀ w ∈ gW, w.before _ s = true := fun w h => hts w (List.mem_cons_of_mem _ h)
  have hown : s.vm.findClass RX11 = some m.cls := findClass_of_methodNamed B.named
  have hlocks := B.notSynchronized
  subst hsz
  have hD := hD0.self (sz := s.heap.size)
  generalize hAe : va_A [(h0, .inr (11, [f_h0_0, f_h0_1, f_h0_2, f_h0_3, .ref aZ, f_h0_5, f_h0_6, f_h0_7, f_h0_8, f_h0_9, f_h0_10, f_h0_11, .ref h1, .int lr])), (h1, .inl (cs 0, 7, .inl rfs)), (aZ, .inl (cs 2, 2, .inl (fun _ => 0)))] s.heap.size = A at hD ⊢
  have hA : ∀ q : Nat, s.heap.size ≤ q → A q := fun q h => by rw [← hAe]; exact Or.inr h
  have hS : va_S A s.heap s.heap [] := va_S.rf
  have hl := lv_entry ([.ref h0, .int a]) (n := 2) (Nat.le_of_ble_eq_true rfl)
  rw [lg_entry_eq]
  generalize (lg_sl ([.ref h0, .int a]) ++ List.replicate (2 - (lg_sl ([.ref h0, .int a])).length) Slot.unset).toArray = ls at hl ⊢
  have hl : lv_has ls 2 [(0, .ref h0), (1, .int a)] := hl
  refine lv_iload_n hx hb dX11_back_0 rfl (lv_at hl 1 rfl) ?_
  refine lv_iconst (v := 2) hx hb dX11_back_1 (by decide) ?_
  refine vp_callSi (mkSr (rest := []) ⟨hx, hb, hml, hown, htl⟩ hN hK (c_X11_isWithin l G cs a 2) (cS 2 htl lk_RX11_82 mT_X11_isWithin mN_RX11 mC_X11_isWithin ok_X11_isWithin rfl rfl ⟨(Nat.le_of_ble_eq_true rfl), (Nat.le_of_ble_eq_true rfl)⟩) rfl hl.1 rfl (Nat.le_of_ble_eq_true rfl) dX11_back_2 ⟨(Nat.le_of_ble_eq_true rfl), (Nat.le_of_ble_eq_true rfl)⟩) (fun r hw => ?_)
  obtain ⟨rfl, hz_1⟩ := hw
  refine lv_if_ne (tgt := 14) hx hb dX11_back_5 (by decide) (fun c_5 => ?_) (fun c_5 => ?_)
  · refine lv_aload_n hx hb dX11_back_14 rfl (lv_at hl 0 rfl) ?_
    refine va_get (ci := 11) (v := .ref aZ) (C := RX11) (T := TX11) (N := 14) hx hb htl inX11 hown hK hP 0 rfl rfl 4 (by decide) (htl _ fl_RX11_35) (fun _ h9 => h9) rfl dX11_back_15 ?_
    refine lv_iload_n hx hb dX11_back_18 rfl (lv_at hl 1 rfl) ?_
    refine va_zald hx hb hK hP 2 2 rfl rfl (iw_in c_5) dX11_back_19 ?_
    refine lv_topi (fun xv ex => ?_)
    obtain rfl : xv = 0 := ex.trans (by first | exact pk_us | rfl | decide)
    refine lv_if_ne (tgt := 30) hx hb dX11_back_20 (by decide) (fun h => absurd (by decide) h) (fun _ => ?_)
    refine lv_aload_n hx hb dX11_back_23 rfl (lv_at hl 0 rfl) ?_
    refine lv_bipush (v := (-2)) hx hb dX11_back_24 (by decide) ?_
    refine mi (wr := [(aZ, .inl (cs 2, 2, .inl (fun _ => 0)))]) (mkV (rest := []) ⟨hx, hb, hml, hown, htl⟩ hN hK hP hD (c_X11_settle l G cs h0 (-2) f_h0_0 f_h0_1 f_h0_2 f_h0_3 (.ref aZ) f_h0_5 f_h0_6 f_h0_7 f_h0_8 f_h0_9 f_h0_10 f_h0_11 h1 lr (rfs) _ (by decide)) [0, 1] rfl rfl 0 11 rfl rfl (cV 1 htl lk_RX11_91 mI_X11_settle mS_X11_settle mN_RX11 mC_X11_settle ok_X11_settle rfl rfl ⟨(Nat.le_of_ble_eq_true rfl), (Nat.le_of_ble_eq_true rfl)⟩) rfl hl.1 rfl (Nat.le_of_ble_eq_true rfl) dX11_back_26 ⟨(Nat.le_of_ble_eq_true rfl), (Nat.le_of_ble_eq_true rfl)⟩) hP hD hS hA [0, 1] [2] rfl rfl rfl (by decide) (fun r u_26 H locs hw hP hD hS => ?_)
    have hP : va_P G vwCl [(aZ, .inl (cs 2, 2, .inl (fun _ => 0)))] H := hP
    have hD : va_D A [(aZ, .inl (cs 2, 2, .inl (fun _ => 0)))] := hD
    obtain rfl : r = (-2) := hw.trans (by unfold sp_X11_settle; (try rw [if_neg (by decide), if_neg (by decide)]) <;> first | rfl | decide)
    exact W.iret (v := (-2)) hx hb hr (fun t ht hW => ⟨⟨(-2), (), rfl, (by unfold sp_X11_back; rw [if_neg c_5]), ⟨fun k q h => by simp at h, va_K.moved hW.alike hK, ⟨fun i j p q h => by simp at h, fun k q h => by simp at h⟩⟩⟩, hS.F ht⟩) hS.2.2 dX11_back_29
  · refine lv_aload_n hx hb dX11_back_8 rfl (lv_at hl 0 rfl) ?_
    refine lv_iconst (v := (-1)) hx hb dX11_back_9 (by decide) ?_
    refine mi (wr := [(aZ, .inl (cs 2, 2, .inl (fun _ => 0)))]) (mkV (rest := []) ⟨hx, hb, hml, hown, htl⟩ hN hK hP hD (c_X11_settle l G cs h0 (-1) f_h0_0 f_h0_1 f_h0_2 f_h0_3 (.ref aZ) f_h0_5 f_h0_6 f_h0_7 f_h0_8 f_h0_9 f_h0_10 f_h0_11 h1 lr (rfs) _ (by decide)) [0, 1] rfl rfl 0 11 rfl rfl (cV 1 htl lk_RX11_91 mI_X11_settle mS_X11_settle mN_RX11 mC_X11_settle ok_X11_settle rfl rfl ⟨(Nat.le_of_ble_eq_true rfl), (Nat.le_of_ble_eq_true rfl)⟩) rfl hl.1 rfl (Nat.le_of_ble_eq_true rfl) dX11_back_10 ⟨(Nat.le_of_ble_eq_true rfl), (Nat.le_of_ble_eq_true rfl)⟩) hP hD hS hA [0, 1] [2] rfl rfl rfl (by decide) (fun r u_10 H locs hw hP hD hS => ?_)
    have hP : va_P G vwCl [(aZ, .inl (cs 2, 2, .inl (fun _ => 0)))] H := hP
    have hD : va_D A [(aZ, .inl (cs 2, 2, .inl (fun _ => 0)))] := hD
    obtain rfl : r = (-1) := hw.trans (by unfold sp_X11_settle; (try rw [if_neg (by decide), if_neg (by decide)]) <;> first | rfl | decide)
    exact W.iret (v := (-1)) hx hb hr (fun t ht hW => ⟨⟨(-1), (), rfl, (by unfold sp_X11_back; rw [if_pos c_5]), ⟨fun k q h => by simp at h, va_K.moved hW.alike hK, ⟨fun i j p q h => by simp at h, fun k q h => by simp at h⟩⟩⟩, hS.F ht⟩) hS.2.2 dX11_back_13

def sp_X11_status : Int32 := 0
set_option maxHeartbeats 1000000 in
set_option maxRecDepth 100000 in
theorem c_X11_status (l : Launch) (G : va_G) (cs : Nat → ClassId) (h0 : Nat) (f_h0_0 : Value) (f_h0_1 : Value) (f_h0_2 : Value) (f_h0_3 : Value) (f_h0_4 : Value) (f_h0_5 : Value) (f_h0_6 : Value) (f_h0_7 : Value) (f_h0_8 : Value) (f_h0_9 : Value) (f_h0_10 : Value) (f_h0_11 : Value) (h1 : Nat) (sz : Nat) : Met l yX11_status (Cond.code yX11_status cX11_status 1 (some .int) :: gW) ({ frames := 0, cells := 0, slots := 0, locals := 0 }) (va_Pc [.ref h0] (Pre G cs [(h0, .inr (11, [f_h0_0, f_h0_1, f_h0_2, f_h0_3, f_h0_4, f_h0_5, f_h0_6, f_h0_7, f_h0_8, f_h0_9, f_h0_10, f_h0_11, .ref h1, .int 0]))] sz)) (va_Qi (fun r (u : Unit) => r = sp_X11_status) (fun (u : Unit) t => Aft G cs (va_A [(h0, .inr (11, [f_h0_0, f_h0_1, f_h0_2, f_h0_3, f_h0_4, f_h0_5, f_h0_6, f_h0_7, f_h0_8, f_h0_9, f_h0_10, f_h0_11, .ref h1, .int 0]))] sz) [] t) (va_A [(h0, .inr (11, [f_h0_0, f_h0_1, f_h0_2, f_h0_3, f_h0_4, f_h0_5, f_h0_6, f_h0_7, f_h0_8, f_h0_9, f_h0_10, f_h0_11, .ref h1, .int 0]))] sz)) 0 0 (va_A [(h0, .inr (11, [f_h0_0, f_h0_1, f_h0_2, f_h0_3, f_h0_4, f_h0_5, f_h0_6, f_h0_7, f_h0_8, f_h0_9, f_h0_10, f_h0_11, .ref h1, .int 0]))] sz) := by
  refine Met.ofW (cc := cX11_status) (maxL := 1) (ret := (some .int)) (by decide) rfl ?_
  intro p e s m args below meth c s₁ B hml hv
  obtain ⟨rfl, hsz, hP, hK, hD0, hN⟩ := hv
  have hx := B.exec
  have hb := B.bytes
  have hr := B.returns
  have hts := atoms_spec (ws := Cond.code yX11_status cX11_status 1 (some .int) :: gW) B.pre
  have htl : ∀ w ∈ gW, w.before _ s = true := fun w h => hts w (List.mem_cons_of_mem _ h)
  have hown : s.vm.findClass RX11 = some m.cls := findClass_of_methodNamed B.named
  have hlocks := B.notSynchronized
  subst hsz
  have hD := hD0.self (sz := s.heap.size)
  generalize hAe : va_A [(h0, .inr (11, [f_h0_0, f_h0_1, f_h0_2, f_h0_3, f_h0_4, f_h0_5, f_h0_6, f_h0_7, f_h0_8, f_h0_9, f_h0_10, f_h0_11, .ref h1, .int 0]))] s.heap.size = A at hD ⊢
  have hA : ∀ q : Nat, s.heap.size ≤ q → A q := fun q h => by rw [← hAe]; exact Or.inr h
  have hS : va_S A s.heap s.heap [] := va_S.rf
  have hl := lv_entry ([.ref h0]) (n := 1) (Nat.le_of_ble_eq_true rfl)
  rw [lg_entry_eq]
  generalize (lg_sl ([.ref h0]) ++ List.replicate (1 - (lg_sl ([.ref h0])).length) Slot.unset).toArray = ls at hl ⊢
  have hl : lv_has ls 1 [(0, .ref h0)] := hl
  refine lv_aload_n hx hb dX11_status_0 rfl (lv_at hl 0 rfl) ?_
  refine va_get (ci := 11) (v := .int 0) (C := RX11) (T := TX11) (N := 14) hx hb htl inX11 hown hK hP 0 rfl rfl 13 (by decide) (htl _ fl_RX11_249) (fun _ h9 => h9) rfl dX11_status_1 ?_
  exact W.iret (v := 0) hx hb hr (fun t ht hW => ⟨⟨0, (), rfl, rfl, ⟨fun k q h => by simp at h, va_K.moved hW.alike hK, ⟨fun i j p q h => by simp at h, fun k q h => by simp at h⟩⟩⟩, hS.F ht⟩) hS.2.2 dX11_status_4
