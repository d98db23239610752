theorem iw_one {a : Int32} (h : ¬ sp_X11_isWithin a 1 = 0) : a = 0 := by
  have := iw_iff h
  have e1 : (1 : Int32).toInt = 1 := by decide
  have e0 : (0 : Int32).toInt = 0 := by decide
  apply Int32.toInt_inj.mp
  omega
theorem in_00 {a : Int32} (h : ¬ sp_X12_in a.toInt64 0 0 = 0) : a = 0 := by
  have := in_iff h
  rw [Int64.le_iff_toInt_le, Int64.le_iff_toInt_le, i64_toInt] at this
  have e0 : (0 : Int64).toInt = 0 := by decide
  have z0 : (0 : Int32).toInt = 0 := by decide
  apply Int32.toInt_inj.mp
  omega
set_option maxHeartbeats 1000000 in
set_option maxRecDepth 100000 in
theorem c_X9_priceAll (l : Launch) (G : va_G) (cs : Nat → ClassId) (h0 : Nat) (aW : Nat) (aA : Nat) (a : Int32) (f_h0_0 : Value) (f_h0_1 : Value) (f_h0_2 : Value) (f_h0_3 : Value) (f_h0_4 : Value) (f_h0_5 : Value) (f_h0_6 : Value) (f_h0_7 : Value) (f_h0_8 : Value) (f_h0_9 : Value) (f_h0_10 : Value) (f_aW_0 : Value) (aC : Nat) (f_aW_2 : Value) (f_aW_3 : Value) (f_aW_4 : Value) (f_aW_5 : Value) (f_aW_6 : Value) (f_aC_0 : Value) (f_aC_1 : Value) : Met l yX9_priceAll (Cond.code yX9_priceAll cX9_priceAll 7 none :: gW) ({ frames := 0, cells := 0, slots := 0, locals := 0 }) (va_Pc [.ref h0, .ref aW, .ref aA, .int a] (PrS G cs [(h0, .inr (9, [f_h0_0, f_h0_1, f_h0_2, f_h0_3, f_h0_4, f_h0_5, f_h0_6, f_h0_7, f_h0_8, f_h0_9, f_h0_10])), (aW, .inr (10, [f_aW_0, .ref aC, f_aW_2, f_aW_3, f_aW_4, f_aW_5, f_aW_6])), (aC, .inr (1, [f_aC_0, f_aC_1, .int 0]))])) (va_Sv (fun _ => True)) 0 0 (fun _ => False) := by
  refine Met.ofW (cc := cX9_priceAll) (maxL := 7) (ret := none) (by decide) rfl ?_
  intro p e s m args below meth c s₁ B hml hv
  obtain ⟨rfl, hP, hK, hN⟩ := hv
  have hx := B.exec
  have hb := B.bytes
  have hr := B.returns
  have hts := atoms_spec (ws := Cond.code yX9_priceAll cX9_priceAll 7 none :: gW) B.pre
  have htl : ∀ w ∈ gW, w.before _ s = true := fun w h => hts w (List.mem_cons_of_mem _ h)
  have hown : s.vm.findClass RX9 = some m.cls := findClass_of_methodNamed B.named
  have hlocks := B.notSynchronized
  have hl := lv_entry ([.ref h0, .ref aW, .ref aA, .int a]) (n := 7) (Nat.le_of_ble_eq_true rfl)
  rw [lg_entry_eq]
  generalize (lg_sl ([.ref h0, .ref aW, .ref aA, .int a]) ++ List.replicate (7 - (lg_sl ([.ref h0, .ref aW, .ref aA, .int a])).length) Slot.unset).toArray = ls at hl ⊢
  have hl : lv_has ls 7 [(0, .ref h0), (1, .ref aW), (2, .ref aA), (3, .int a)] := hl
  refine lv_iconst (v := 0) hx hb dX9_priceAll_0 (by decide) ?_
  refine lv_istore (lv' := [(4, .int 0), (0, .ref h0), (1, .ref aW), (2, .ref aA), (3, .int a)]) hx hb dX9_priceAll_1 hl (by decide) rfl (fun ls hl => ?_)
  refine lv_iload hx hb dX9_priceAll_3 (lv_at hl 0 rfl) ?_
  refine lv_aload_n hx hb dX9_priceAll_5 rfl (lv_at hl 2 rfl) ?_
  refine va_get (ci := 10) (v := .ref aC) (C := RX10) (T := TX10) (N := 7) hx hb htl inX10 hown hK hP 1 rfl rfl 1 (by decide) (htl _ fl_RX9_77) (fun _ h9 => h9) rfl dX9_priceAll_6 ?_
  refine va_get (ci := 1) (v := .int 0) (C := RX1) (T := TX1) (N := 3) hx hb htl inX1 hown hK hP 2 rfl rfl 2 (by decide) (htl _ fl_RX9_83) (fun _ h9 => h9) rfl dX9_priceAll_9 ?_
  refine lv_icmp_ge (tgt := 108) hx hb dX9_priceAll_12 (by decide) (fun _ => ?_) (fun h => absurd (by decide) h)
  exact W.vret hx hb hr (fun t ht hW => ⟨rfl, trivial, ht⟩) (fun q h => by cases h) dX9_priceAll_108

set_option maxHeartbeats 1000000 in
set_option maxRecDepth 100000 in
theorem c_X9_fillRow (l : Launch) (G : va_G) (cs : Nat → ClassId) (h0 : Nat) (a : Int32) (f_h0_0 : Value) (f_h0_1 : Value) (f_h0_2 : Value) (f_h0_3 : Value) (f_h0_4 : Value) (f_h0_5 : Value) (f_h0_6 : Value) (f_h0_7 : Value) (f_h0_8 : Value) (f_h0_9 : Value) (f_h0_10 : Value) : Met l yX9_fillRow (Cond.code yX9_fillRow cX9_fillRow 7 none :: gW) ({ frames := 0, cells := 0, slots := 0, locals := 0 }) (va_Pc [.ref h0, .int 0, .int a] (PrS G cs [(h0, .inr (9, [f_h0_0, f_h0_1, f_h0_2, f_h0_3, f_h0_4, f_h0_5, f_h0_6, f_h0_7, f_h0_8, f_h0_9, f_h0_10]))])) (va_Sv (fun _ => True)) 0 0 (fun _ => False) := by
  refine Met.ofW (cc := cX9_fillRow) (maxL := 7) (ret := none) (by decide) rfl ?_
  intro p e s m args below meth c s₁ B hml hv
  obtain ⟨rfl, hP, hK, hN⟩ := hv
  have hx := B.exec
  have hb := B.bytes
  have hr := B.returns
  have hts := atoms_spec (ws := Cond.code yX9_fillRow cX9_fillRow 7 none :: gW) B.pre
  have htl : ∀ w ∈ gW, w.before _ s = true := fun w h => hts w (List.mem_cons_of_mem _ h)
  have hown : s.vm.findClass RX9 = some m.cls := findClass_of_methodNamed B.named
  have hlocks := B.notSynchronized
  have hl := lv_entry ([.ref h0, .int 0, .int a]) (n := 7) (Nat.le_of_ble_eq_true rfl)
  rw [lg_entry_eq]
  generalize (lg_sl ([.ref h0, .int 0, .int a]) ++ List.replicate (7 - (lg_sl ([.ref h0, .int 0, .int a])).length) Slot.unset).toArray = ls at hl ⊢
  have hl : lv_has ls 7 [(0, .ref h0), (1, .int 0), (2, .int a)] := hl
  refine lv_iconst (v := 1) hx hb dX9_fillRow_0 (by decide) ?_
  refine lv_iload_n hx hb dX9_fillRow_1 rfl (lv_at hl 2 rfl) ?_
  refine lv_ishl hx hb dX9_fillRow_2 ?_
  refine lv_iconst (v := 1) hx hb dX9_fillRow_3 (by decide) ?_
  refine lv_isub hx hb dX9_fillRow_4 ?_
  refine lv_istore_n (lv' := [(3, .int (((1 : Int32) <<< (a &&& 31)) - 1)), (0, .ref h0), (1, .int 0), (2, .int a)]) hx hb dX9_fillRow_5 rfl hl (by decide) rfl (fun ls hl => ?_)
  refine lv_iconst (v := 0) hx hb dX9_fillRow_6 (by decide) ?_
  refine lv_istore (lv' := [(4, .int 0), (3, .int (((1 : Int32) <<< (a &&& 31)) - 1)), (0, .ref h0), (1, .int 0), (2, .int a)]) hx hb dX9_fillRow_7 hl (by decide) rfl (fun ls hl => ?_)
  refine lv_iload hx hb dX9_fillRow_9 (lv_at hl 0 rfl) ?_
  refine lv_iload_n hx hb dX9_fillRow_11 rfl (lv_at hl 3 rfl) ?_
  refine lv_icmp_ge (tgt := 124) hx hb dX9_fillRow_12 (by decide) (fun _ => ?_) (fun h => absurd (by decide) h)
  exact W.vret hx hb hr (fun t ht hW => ⟨rfl, trivial, ht⟩) (fun q h => by cases h) dX9_fillRow_124

def sp_X9_share_0 : Int32 := 1
set_option maxHeartbeats 1000000 in
set_option maxRecDepth 100000 in
theorem c_X9_share_0 (l : Launch) (G : va_G) (cs : Nat → ClassId) (h0 : Nat) (aW : Nat) (aA : Nat) (f_h0_0 : Value) (f_h0_1 : Value) (f_h0_2 : Value) (f_h0_3 : Value) (f_h0_4 : Value) (f_h0_5 : Value) (hd : Nat) (f_h0_7 : Value) (hf : Nat) (f_h0_9 : Value) (f_h0_10 : Value) (f_aW_0 : Value) (aC : Nat) (f_aW_2 : Value) (f_aW_3 : Value) (f_aW_4 : Value) (f_aW_5 : Value) (f_aW_6 : Value) (f_aC_0 : Value) (f_aC_1 : Value) (ff : Nat → Int32) (sz : Nat) : Met l yX9_share (Cond.code yX9_share cX9_share 10 (some .boolean) :: gW) ({ frames := 1, cells := 0, slots := 0, locals := 26 }) (va_Pc [.ref h0, .ref aW, .ref aA, .long 0] (Pre G cs [(h0, .inr (9, [f_h0_0, f_h0_1, f_h0_2, f_h0_3, f_h0_4, f_h0_5, .ref hd, f_h0_7, .ref hf, f_h0_9, f_h0_10])), (aW, .inr (10, [f_aW_0, .ref aC, f_aW_2, f_aW_3, f_aW_4, f_aW_5, f_aW_6])), (aC, .inr (1, [f_aC_0, f_aC_1, .int 0])), (hf, .inl (cs 0, 448, .inl ff))] sz)) (va_Qi (fun r (u : Unit) => r = sp_X9_share_0 ∧ narrow .boolean (.int r) = .int r) (fun (u : Unit) t => Aft G cs (va_A [(h0, .inr (9, [f_h0_0, f_h0_1, f_h0_2, f_h0_3, f_h0_4, f_h0_5, .ref hd, f_h0_7, .ref hf, f_h0_9, f_h0_10])), (aW, .inr (10, [f_aW_0, .ref aC, f_aW_2, f_aW_3, f_aW_4, f_aW_5, f_aW_6])), (aC, .inr (1, [f_aC_0, f_aC_1, .int 0])), (hf, .inl (cs 0, 448, .inl ff))] sz) [(h0, .inr (9, [f_h0_0, f_h0_1, f_h0_2, f_h0_3, f_h0_4, .int 0, .ref hd, f_h0_7, .ref hf, f_h0_9, f_h0_10]))] t) (va_A [(h0, .inr (9, [f_h0_0, f_h0_1, f_h0_2, f_h0_3, f_h0_4, f_h0_5, .ref hd, f_h0_7, .ref hf, f_h0_9, f_h0_10])), (aW, .inr (10, [f_aW_0, .ref aC, f_aW_2, f_aW_3, f_aW_4, f_aW_5, f_aW_6])), (aC, .inr (1, [f_aC_0, f_aC_1, .int 0])), (hf, .inl (cs 0, 448, .inl ff))] sz)) 0 0 (va_A [(h0, .inr (9, [f_h0_0, f_h0_1, f_h0_2, f_h0_3, f_h0_4, f_h0_5, .ref hd, f_h0_7, .ref hf, f_h0_9, f_h0_10])), (aW, .inr (10, [f_aW_0, .ref aC, f_aW_2, f_aW_3, f_aW_4, f_aW_5, f_aW_6])), (aC, .inr (1, [f_aC_0, f_aC_1, .int 0])), (hf, .inl (cs 0, 448, .inl ff))] sz) := by
  refine Met.ofW (cc := cX9_share) (maxL := 10) (ret := (some .boolean)) (by decide) rfl ?_
  intro p e s m args below meth c s₁ B hml hv
  obtain ⟨rfl, hsz, hP, hK, hD0, hN⟩ := hv
  have hx := B.exec
  have hb := B.bytes
  have hr := B.returns
  have hts := atoms_spec (ws := Cond.code yX9_share cX9_share 10 (some .boolean) :: gW) B.pre
  have htl : ∀ w ∈ gW, w.before _ s = true := fun w h => hts w (List.mem_cons_of_mem _ h)
  have hown : s.vm.findClass RX9 = some m.cls := findClass_of_methodNamed B.named
  have hlocks := B.notSynchronized
  subst hsz
  have hD := hD0.self (sz := s.heap.size)
  generalize hAe : va_A [(h0, .inr (9, [f_h0_0, f_h0_1, f_h0_2, f_h0_3, f_h0_4, f_h0_5, .ref hd, f_h0_7, .ref hf, f_h0_9, f_h0_10])), (aW, .inr (10, [f_aW_0, .ref aC, f_aW_2, f_aW_3, f_aW_4, f_aW_5, f_aW_6])), (aC, .inr (1, [f_aC_0, f_aC_1, .int 0])), (hf, .inl (cs 0, 448, .inl ff))] s.heap.size = A at hD ⊢
  have hA : ∀ q : Nat, s.heap.size ≤ q → A q := fun q h => by rw [← hAe]; exact Or.inr h
  have hS : va_S A s.heap s.heap [] := va_S.rf
  have hl := lv_entry ([.ref h0, .ref aW, .ref aA, .long 0]) (n := 10) (Nat.le_of_ble_eq_true rfl)
  rw [lg_entry_eq]
  generalize (lg_sl ([.ref h0, .ref aW, .ref aA, .long 0]) ++ List.replicate (10 - (lg_sl ([.ref h0, .ref aW, .ref aA, .long 0])).length) Slot.unset).toArray = ls at hl ⊢
  have hl : lv_has ls 10 [(0, .ref h0), (1, .ref aW), (2, .ref aA), (3, .long 0)] := hl
  refine lv_iconst (v := 0) hx hb dX9_share_0 (by decide) ?_
  refine lv_istore (lv' := [(5, .int 0), (0, .ref h0), (1, .ref aW), (2, .ref aA), (3, .long 0)]) hx hb dX9_share_1 hl (by decide) rfl (fun ls hl => ?_)
  refine lv_iconst (v := 0) hx hb dX9_share_3 (by decide) ?_
  refine lv_istore (lv' := [(6, .int 0), (5, .int 0), (0, .ref h0), (1, .ref aW), (2, .ref aA), (3, .long 0)]) hx hb dX9_share_4 hl (by decide) rfl (fun ls hl => ?_)
  refine lv_iload hx hb dX9_share_6 (lv_at hl 0 rfl) ?_
  refine lv_bipush (v := 40) hx hb dX9_share_8 (by decide) ?_
  refine lv_icmp_ge (tgt := 49) hx hb dX9_share_10 (by decide) (fun h => absurd h (by decide)) (fun _ => ?_)
  refine lv_iload hx hb dX9_share_13 (lv_at hl 1 rfl) ?_
  refine lv_bipush (v := 6) hx hb dX9_share_15 (by decide) ?_
  refine lv_icmp_ge (tgt := 49) hx hb dX9_share_17 (by decide) (fun h => absurd h (by decide)) (fun _ => ?_)
  refine lv_lload_n hx hb dX9_share_20 rfl (lv_at hl 5 rfl) ?_
  refine lv_iload hx hb dX9_share_21 (lv_at hl 0 rfl) ?_
  refine lv_lshr (v := 0) hx hb dX9_share_23 (by first | rfl | decide) ?_
  refine lv_lconst (v := 1) hx hb dX9_share_24 (by decide) ?_
  refine lv_land hx hb dX9_share_25 ?_
  refine lv_topl (fun xv ex => ?_)
  obtain rfl : xv = 0 := ex.trans (by first | rfl | decide)
  refine lv_lconst (v := 0) hx hb dX9_share_26 (by decide) ?_
  refine W.lcmp hx hb dX9_share_27 ?_
  refine lv_topi (fun xv ex => ?_)
  obtain rfl : xv = 0 := ex.trans (by first | rfl | decide)
  refine lv_if_eq (tgt := 43) hx hb dX9_share_28 (by decide) (fun _ => ?_) (fun h => absurd (by decide) h)
  refine lv_iinc (v := 1) (lv' := [(6, .int 1), (5, .int 0), (0, .ref h0), (1, .ref aW), (2, .ref aA), (3, .long 0)]) hx hb dX9_share_43 hl (k := 0) rfl (by first | rfl | decide) (by decide) rfl (fun ls hl => ?_)
  refine lv_goto (tgt := 6) hx hb dX9_share_46 (by decide) ?_
  refine lv_iload hx hb dX9_share_6 (lv_at hl 0 rfl) ?_
  refine lv_bipush (v := 40) hx hb dX9_share_8 (by decide) ?_
  refine lv_icmp_ge (tgt := 49) hx hb dX9_share_10 (by decide) (fun h => absurd h (by decide)) (fun _ => ?_)
  refine lv_iload hx hb dX9_share_13 (lv_at hl 1 rfl) ?_
  refine lv_bipush (v := 6) hx hb dX9_share_15 (by decide) ?_
  refine lv_icmp_ge (tgt := 49) hx hb dX9_share_17 (by decide) (fun h => absurd h (by decide)) (fun _ => ?_)
  refine lv_lload_n hx hb dX9_share_20 rfl (lv_at hl 5 rfl) ?_
  refine lv_iload hx hb dX9_share_21 (lv_at hl 0 rfl) ?_
  refine lv_lshr (v := 0) hx hb dX9_share_23 (by first | rfl | decide) ?_
  refine lv_lconst (v := 1) hx hb dX9_share_24 (by decide) ?_
  refine lv_land hx hb dX9_share_25 ?_
  refine lv_topl (fun xv ex => ?_)
  obtain rfl : xv = 0 := ex.trans (by first | rfl | decide)
  refine lv_lconst (v := 0) hx hb dX9_share_26 (by decide) ?_
  refine W.lcmp hx hb dX9_share_27 ?_
  refine lv_topi (fun xv ex => ?_)
  obtain rfl : xv = 0 := ex.trans (by first | rfl | decide)
  refine lv_if_eq (tgt := 43) hx hb dX9_share_28 (by decide) (fun _ => ?_) (fun h => absurd (by decide) h)
  refine lv_iinc (v := 2) (lv' := [(6, .int 2), (5, .int 0), (0, .ref h0), (1, .ref aW), (2, .ref aA), (3, .long 0)]) hx hb dX9_share_43 hl (k := 0) rfl (by first | rfl | decide) (by decide) rfl (fun ls hl => ?_)
  refine lv_goto (tgt := 6) hx hb dX9_share_46 (by decide) ?_
  refine lv_iload hx hb dX9_share_6 (lv_at hl 0 rfl) ?_
  refine lv_bipush (v := 40) hx hb dX9_share_8 (by decide) ?_
  refine lv_icmp_ge (tgt := 49) hx hb dX9_share_10 (by decide) (fun h => absurd h (by decide)) (fun _ => ?_)
  refine lv_iload hx hb dX9_share_13 (lv_at hl 1 rfl) ?_
  refine lv_bipush (v := 6) hx hb dX9_share_15 (by decide) ?_
  refine lv_icmp_ge (tgt := 49) hx hb dX9_share_17 (by decide) (fun h => absurd h (by decide)) (fun _ => ?_)
  refine lv_lload_n hx hb dX9_share_20 rfl (lv_at hl 5 rfl) ?_
  refine lv_iload hx hb dX9_share_21 (lv_at hl 0 rfl) ?_
  refine lv_lshr (v := 0) hx hb dX9_share_23 (by first | rfl | decide) ?_
  refine lv_lconst (v := 1) hx hb dX9_share_24 (by decide) ?_
  refine lv_land hx hb dX9_share_25 ?_
  refine lv_topl (fun xv ex => ?_)
  obtain rfl : xv = 0 := ex.trans (by first | rfl | decide)
  refine lv_lconst (v := 0) hx hb dX9_share_26 (by decide) ?_
  refine W.lcmp hx hb dX9_share_27 ?_
  refine lv_topi (fun xv ex => ?_)
  obtain rfl : xv = 0 := ex.trans (by first | rfl | decide)
  refine lv_if_eq (tgt := 43) hx hb dX9_share_28 (by decide) (fun _ => ?_) (fun h => absurd (by decide) h)
  refine lv_iinc (v := 3) (lv' := [(6, .int 3), (5, .int 0), (0, .ref h0), (1, .ref aW), (2, .ref aA), (3, .long 0)]) hx hb dX9_share_43 hl (k := 0) rfl (by first | rfl | decide) (by decide) rfl (fun ls hl => ?_)
  refine lv_goto (tgt := 6) hx hb dX9_share_46 (by decide) ?_
  refine lv_iload hx hb dX9_share_6 (lv_at hl 0 rfl) ?_
  refine lv_bipush (v := 40) hx hb dX9_share_8 (by decide) ?_
  refine lv_icmp_ge (tgt := 49) hx hb dX9_share_10 (by decide) (fun h => absurd h (by decide)) (fun _ => ?_)
  refine lv_iload hx hb dX9_share_13 (lv_at hl 1 rfl) ?_
  refine lv_bipush (v := 6) hx hb dX9_share_15 (by decide) ?_
  refine lv_icmp_ge (tgt := 49) hx hb dX9_share_17 (by decide) (fun h => absurd h (by decide)) (fun _ => ?_)
  refine lv_lload_n hx hb dX9_share_20 rfl (lv_at hl 5 rfl) ?_
  refine lv_iload hx hb dX9_share_21 (lv_at hl 0 rfl) ?_
  refine lv_lshr (v := 0) hx hb dX9_share_23 (by first | rfl | decide) ?_
  refine lv_lconst (v := 1) hx hb dX9_share_24 (by decide) ?_
  refine lv_land hx hb dX9_share_25 ?_
  refine lv_topl (fun xv ex => ?_)
  obtain rfl : xv = 0 := ex.trans (by first | rfl | decide)
  refine lv_lconst (v := 0) hx hb dX9_share_26 (by decide) ?_
  refine W.lcmp hx hb dX9_share_27 ?_
  refine lv_topi (fun xv ex => ?_)
  obtain rfl : xv = 0 := ex.trans (by first | rfl | decide)
  refine lv_if_eq (tgt := 43) hx hb dX9_share_28 (by decide) (fun _ => ?_) (fun h => absurd (by decide) h)
  refine lv_iinc (v := 4) (lv' := [(6, .int 4), (5, .int 0), (0, .ref h0), (1, .ref aW), (2, .ref aA), (3, .long 0)]) hx hb dX9_share_43 hl (k := 0) rfl (by first | rfl | decide) (by decide) rfl (fun ls hl => ?_)
  refine lv_goto (tgt := 6) hx hb dX9_share_46 (by decide) ?_
  refine lv_iload hx hb dX9_share_6 (lv_at hl 0 rfl) ?_
  refine lv_bipush (v := 40) hx hb dX9_share_8 (by decide) ?_
  refine lv_icmp_ge (tgt := 49) hx hb dX9_share_10 (by decide) (fun h => absurd h (by decide)) (fun _ => ?_)
  refine lv_iload hx hb dX9_share_13 (lv_at hl 1 rfl) ?_
  refine lv_bipush (v := 6) hx hb dX9_share_15 (by decide) ?_
  refine lv_icmp_ge (tgt := 49) hx hb dX9_share_17 (by decide) (fun h => absurd h (by decide)) (fun _ => ?_)
  refine lv_lload_n hx hb dX9_share_20 rfl (lv_at hl 5 rfl) ?_
  refine lv_iload hx hb dX9_share_21 (lv_at hl 0 rfl) ?_
  refine lv_lshr (v := 0) hx hb dX9_share_23 (by first | rfl | decide) ?_
  refine lv_lconst (v := 1) hx hb dX9_share_24 (by decide) ?_
  refine lv_land hx hb dX9_share_25 ?_
  refine lv_topl (fun xv ex => ?_)
  obtain rfl : xv = 0 := ex.trans (by first | rfl | decide)
  refine lv_lconst (v := 0) hx hb dX9_share_26 (by decide) ?_
  refine W.lcmp hx hb dX9_share_27 ?_
  refine lv_topi (fun xv ex => ?_)
  obtain rfl : xv = 0 := ex.trans (by first | rfl | decide)
  refine lv_if_eq (tgt := 43) hx hb dX9_share_28 (by decide) (fun _ => ?_) (fun h => absurd (by decide) h)
  refine lv_iinc (v := 5) (lv' := [(6, .int 5), (5, .int 0), (0, .ref h0), (1, .ref aW), (2, .ref aA), (3, .long 0)]) hx hb dX9_share_43 hl (k := 0) rfl (by first | rfl | decide) (by decide) rfl (fun ls hl => ?_)
  refine lv_goto (tgt := 6) hx hb dX9_share_46 (by decide) ?_
  refine lv_iload hx hb dX9_share_6 (lv_at hl 0 rfl) ?_
  refine lv_bipush (v := 40) hx hb dX9_share_8 (by decide) ?_
  refine lv_icmp_ge (tgt := 49) hx hb dX9_share_10 (by decide) (fun h => absurd h (by decide)) (fun _ => ?_)
  refine lv_iload hx hb dX9_share_13 (lv_at hl 1 rfl) ?_
  refine lv_bipush (v := 6) hx hb dX9_share_15 (by decide) ?_
  refine lv_icmp_ge (tgt := 49) hx hb dX9_share_17 (by decide) (fun h => absurd h (by decide)) (fun _ => ?_)
  refine lv_lload_n hx hb dX9_share_20 rfl (lv_at hl 5 rfl) ?_
  refine lv_iload hx hb dX9_share_21 (lv_at hl 0 rfl) ?_
  refine lv_lshr (v := 0) hx hb dX9_share_23 (by first | rfl | decide) ?_
  refine lv_lconst (v := 1) hx hb dX9_share_24 (by decide) ?_
  refine lv_land hx hb dX9_share_25 ?_
  refine lv_topl (fun xv ex => ?_)
  obtain rfl : xv = 0 := ex.trans (by first | rfl | decide)
  refine lv_lconst (v := 0) hx hb dX9_share_26 (by decide) ?_
  refine W.lcmp hx hb dX9_share_27 ?_
  refine lv_topi (fun xv ex => ?_)
  obtain rfl : xv = 0 := ex.trans (by first | rfl | decide)
  refine lv_if_eq (tgt := 43) hx hb dX9_share_28 (by decide) (fun _ => ?_) (fun h => absurd (by decide) h)
  refine lv_iinc (v := 6) (lv' := [(6, .int 6), (5, .int 0), (0, .ref h0), (1, .ref aW), (2, .ref aA), (3, .long 0)]) hx hb dX9_share_43 hl (k := 0) rfl (by first | rfl | decide) (by decide) rfl (fun ls hl => ?_)
  refine lv_goto (tgt := 6) hx hb dX9_share_46 (by decide) ?_
  refine lv_iload hx hb dX9_share_6 (lv_at hl 0 rfl) ?_
  refine lv_bipush (v := 40) hx hb dX9_share_8 (by decide) ?_
  refine lv_icmp_ge (tgt := 49) hx hb dX9_share_10 (by decide) (fun h => absurd h (by decide)) (fun _ => ?_)
  refine lv_iload hx hb dX9_share_13 (lv_at hl 1 rfl) ?_
  refine lv_bipush (v := 6) hx hb dX9_share_15 (by decide) ?_
  refine lv_icmp_ge (tgt := 49) hx hb dX9_share_17 (by decide) (fun h => absurd h (by decide)) (fun _ => ?_)
  refine lv_lload_n hx hb dX9_share_20 rfl (lv_at hl 5 rfl) ?_
  refine lv_iload hx hb dX9_share_21 (lv_at hl 0 rfl) ?_
  refine lv_lshr (v := 0) hx hb dX9_share_23 (by first | rfl | decide) ?_
  refine lv_lconst (v := 1) hx hb dX9_share_24 (by decide) ?_
  refine lv_land hx hb dX9_share_25 ?_
  refine lv_topl (fun xv ex => ?_)
  obtain rfl : xv = 0 := ex.trans (by first | rfl | decide)
  refine lv_lconst (v := 0) hx hb dX9_share_26 (by decide) ?_
  refine W.lcmp hx hb dX9_share_27 ?_
  refine lv_topi (fun xv ex => ?_)
  obtain rfl : xv = 0 := ex.trans (by first | rfl | decide)
  refine lv_if_eq (tgt := 43) hx hb dX9_share_28 (by decide) (fun _ => ?_) (fun h => absurd (by decide) h)
  refine lv_iinc (v := 7) (lv' := [(6, .int 7), (5, .int 0), (0, .ref h0), (1, .ref aW), (2, .ref aA), (3, .long 0)]) hx hb dX9_share_43 hl (k := 0) rfl (by first | rfl | decide) (by decide) rfl (fun ls hl => ?_)
  refine lv_goto (tgt := 6) hx hb dX9_share_46 (by decide) ?_
  refine lv_iload hx hb dX9_share_6 (lv_at hl 0 rfl) ?_
  refine lv_bipush (v := 40) hx hb dX9_share_8 (by decide) ?_
  refine lv_icmp_ge (tgt := 49) hx hb dX9_share_10 (by decide) (fun h => absurd h (by decide)) (fun _ => ?_)
  refine lv_iload hx hb dX9_share_13 (lv_at hl 1 rfl) ?_
  refine lv_bipush (v := 6) hx hb dX9_share_15 (by decide) ?_
  refine lv_icmp_ge (tgt := 49) hx hb dX9_share_17 (by decide) (fun h => absurd h (by decide)) (fun _ => ?_)
  refine lv_lload_n hx hb dX9_share_20 rfl (lv_at hl 5 rfl) ?_
  refine lv_iload hx hb dX9_share_21 (lv_at hl 0 rfl) ?_
  refine lv_lshr (v := 0) hx hb dX9_share_23 (by first | rfl | decide) ?_
  refine lv_lconst (v := 1) hx hb dX9_share_24 (by decide) ?_
  refine lv_land hx hb dX9_share_25 ?_
  refine lv_topl (fun xv ex => ?_)
  obtain rfl : xv = 0 := ex.trans (by first | rfl | decide)
  refine lv_lconst (v := 0) hx hb dX9_share_26 (by decide) ?_
  refine W.lcmp hx hb dX9_share_27 ?_
  refine lv_topi (fun xv ex => ?_)
  obtain rfl : xv = 0 := ex.trans (by first | rfl | decide)
  refine lv_if_eq (tgt := 43) hx hb dX9_share_28 (by decide) (fun _ => ?_) (fun h => absurd (by decide) h)
  refine lv_iinc (v := 8) (lv' := [(6, .int 8), (5, .int 0), (0, .ref h0), (1, .ref aW), (2, .ref aA), (3, .long 0)]) hx hb dX9_share_43 hl (k := 0) rfl (by first | rfl | decide) (by decide) rfl (fun ls hl => ?_)
  refine lv_goto (tgt := 6) hx hb dX9_share_46 (by decide) ?_
  refine lv_iload hx hb dX9_share_6 (lv_at hl 0 rfl) ?_
  refine lv_bipush (v := 40) hx hb dX9_share_8 (by decide) ?_
  refine lv_icmp_ge (tgt := 49) hx hb dX9_share_10 (by decide) (fun h => absurd h (by decide)) (fun _ => ?_)
  refine lv_iload hx hb dX9_share_13 (lv_at hl 1 rfl) ?_
  refine lv_bipush (v := 6) hx hb dX9_share_15 (by decide) ?_
  refine lv_icmp_ge (tgt := 49) hx hb dX9_share_17 (by decide) (fun h => absurd h (by decide)) (fun _ => ?_)
  refine lv_lload_n hx hb dX9_share_20 rfl (lv_at hl 5 rfl) ?_
  refine lv_iload hx hb dX9_share_21 (lv_at hl 0 rfl) ?_
  refine lv_lshr (v := 0) hx hb dX9_share_23 (by first | rfl | decide) ?_
  refine lv_lconst (v := 1) hx hb dX9_share_24 (by decide) ?_
  refine lv_land hx hb dX9_share_25 ?_
  refine lv_topl (fun xv ex => ?_)
  obtain rfl : xv = 0 := ex.trans (by first | rfl | decide)
  refine lv_lconst (v := 0) hx hb dX9_share_26 (by decide) ?_
  refine W.lcmp hx hb dX9_share_27 ?_
  refine lv_topi (fun xv ex => ?_)
  obtain rfl : xv = 0 := ex.trans (by first | rfl | decide)
  refine lv_if_eq (tgt := 43) hx hb dX9_share_28 (by decide) (fun _ => ?_) (fun h => absurd (by decide) h)
  refine lv_iinc (v := 9) (lv' := [(6, .int 9), (5, .int 0), (0, .ref h0), (1, .ref aW), (2, .ref aA), (3, .long 0)]) hx hb dX9_share_43 hl (k := 0) rfl (by first | rfl | decide) (by decide) rfl (fun ls hl => ?_)
  refine lv_goto (tgt := 6) hx hb dX9_share_46 (by decide) ?_
  refine lv_iload hx hb dX9_share_6 (lv_at hl 0 rfl) ?_
  refine lv_bipush (v := 40) hx hb dX9_share_8 (by decide) ?_
  refine lv_icmp_ge (tgt := 49) hx hb dX9_share_10 (by decide) (fun h => absurd h (by decide)) (fun _ => ?_)
  refine lv_iload hx hb dX9_share_13 (lv_at hl 1 rfl) ?_
  refine lv_bipush (v := 6) hx hb dX9_share_15 (by decide) ?_
  refine lv_icmp_ge (tgt := 49) hx hb dX9_share_17 (by decide) (fun h => absurd h (by decide)) (fun _ => ?_)
  refine lv_lload_n hx hb dX9_share_20 rfl (lv_at hl 5 rfl) ?_
  refine lv_iload hx hb dX9_share_21 (lv_at hl 0 rfl) ?_
  refine lv_lshr (v := 0) hx hb dX9_share_23 (by first | rfl | decide) ?_
  refine lv_lconst (v := 1) hx hb dX9_share_24 (by decide) ?_
  refine lv_land hx hb dX9_share_25 ?_
  refine lv_topl (fun xv ex => ?_)
  obtain rfl : xv = 0 := ex.trans (by first | rfl | decide)
  refine lv_lconst (v := 0) hx hb dX9_share_26 (by decide) ?_
  refine W.lcmp hx hb dX9_share_27 ?_
  refine lv_topi (fun xv ex => ?_)
  obtain rfl : xv = 0 := ex.trans (by first | rfl | decide)
  refine lv_if_eq (tgt := 43) hx hb dX9_share_28 (by decide) (fun _ => ?_) (fun h => absurd (by decide) h)
  refine lv_iinc (v := 10) (lv' := [(6, .int 10), (5, .int 0), (0, .ref h0), (1, .ref aW), (2, .ref aA), (3, .long 0)]) hx hb dX9_share_43 hl (k := 0) rfl (by first | rfl | decide) (by decide) rfl (fun ls hl => ?_)
  refine lv_goto (tgt := 6) hx hb dX9_share_46 (by decide) ?_
  refine lv_iload hx hb dX9_share_6 (lv_at hl 0 rfl) ?_
  refine lv_bipush (v := 40) hx hb dX9_share_8 (by decide) ?_
  refine lv_icmp_ge (tgt := 49) hx hb dX9_share_10 (by decide) (fun h => absurd h (by decide)) (fun _ => ?_)
  refine lv_iload hx hb dX9_share_13 (lv_at hl 1 rfl) ?_
  refine lv_bipush (v := 6) hx hb dX9_share_15 (by decide) ?_
  refine lv_icmp_ge (tgt := 49) hx hb dX9_share_17 (by decide) (fun h => absurd h (by decide)) (fun _ => ?_)
  refine lv_lload_n hx hb dX9_share_20 rfl (lv_at hl 5 rfl) ?_
  refine lv_iload hx hb dX9_share_21 (lv_at hl 0 rfl) ?_
  refine lv_lshr (v := 0) hx hb dX9_share_23 (by first | rfl | decide) ?_
  refine lv_lconst (v := 1) hx hb dX9_share_24 (by decide) ?_
  refine lv_land hx hb dX9_share_25 ?_
  refine lv_topl (fun xv ex => ?_)
  obtain rfl : xv = 0 := ex.trans (by first | rfl | decide)
  refine lv_lconst (v := 0) hx hb dX9_share_26 (by decide) ?_
  refine W.lcmp hx hb dX9_share_27 ?_
  refine lv_topi (fun xv ex => ?_)
  obtain rfl : xv = 0 := ex.trans (by first | rfl | decide)
  refine lv_if_eq (tgt := 43) hx hb dX9_share_28 (by decide) (fun _ => ?_) (fun h => absurd (by decide) h)
  refine lv_iinc (v := 11) (lv' := [(6, .int 11), (5, .int 0), (0, .ref h0), (1, .ref aW), (2, .ref aA), (3, .long 0)]) hx hb dX9_share_43 hl (k := 0) rfl (by first | rfl | decide) (by decide) rfl (fun ls hl => ?_)
  refine lv_goto (tgt := 6) hx hb dX9_share_46 (by decide) ?_
  refine lv_iload hx hb dX9_share_6 (lv_at hl 0 rfl) ?_
  refine lv_bipush (v := 40) hx hb dX9_share_8 (by decide) ?_
  refine lv_icmp_ge (tgt := 49) hx hb dX9_share_10 (by decide) (fun h => absurd h (by decide)) (fun _ => ?_)
  refine lv_iload hx hb dX9_share_13 (lv_at hl 1 rfl) ?_
  refine lv_bipush (v := 6) hx hb dX9_share_15 (by decide) ?_
  refine lv_icmp_ge (tgt := 49) hx hb dX9_share_17 (by decide) (fun h => absurd h (by decide)) (fun _ => ?_)
  refine lv_lload_n hx hb dX9_share_20 rfl (lv_at hl 5 rfl) ?_
  refine lv_iload hx hb dX9_share_21 (lv_at hl 0 rfl) ?_
  refine lv_lshr (v := 0) hx hb dX9_share_23 (by first | rfl | decide) ?_
  refine lv_lconst (v := 1) hx hb dX9_share_24 (by decide) ?_
  refine lv_land hx hb dX9_share_25 ?_
  refine lv_topl (fun xv ex => ?_)
  obtain rfl : xv = 0 := ex.trans (by first | rfl | decide)
  refine lv_lconst (v := 0) hx hb dX9_share_26 (by decide) ?_
  refine W.lcmp hx hb dX9_share_27 ?_
  refine lv_topi (fun xv ex => ?_)
  obtain rfl : xv = 0 := ex.trans (by first | rfl | decide)
  refine lv_if_eq (tgt := 43) hx hb dX9_share_28 (by decide) (fun _ => ?_) (fun h => absurd (by decide) h)
  refine lv_iinc (v := 12) (lv' := [(6, .int 12), (5, .int 0), (0, .ref h0), (1, .ref aW), (2, .ref aA), (3, .long 0)]) hx hb dX9_share_43 hl (k := 0) rfl (by first | rfl | decide) (by decide) rfl (fun ls hl => ?_)
  refine lv_goto (tgt := 6) hx hb dX9_share_46 (by decide) ?_
  refine lv_iload hx hb dX9_share_6 (lv_at hl 0 rfl) ?_
  refine lv_bipush (v := 40) hx hb dX9_share_8 (by decide) ?_
  refine lv_icmp_ge (tgt := 49) hx hb dX9_share_10 (by decide) (fun h => absurd h (by decide)) (fun _ => ?_)
  refine lv_iload hx hb dX9_share_13 (lv_at hl 1 rfl) ?_
  refine lv_bipush (v := 6) hx hb dX9_share_15 (by decide) ?_
  refine lv_icmp_ge (tgt := 49) hx hb dX9_share_17 (by decide) (fun h => absurd h (by decide)) (fun _ => ?_)
  refine lv_lload_n hx hb dX9_share_20 rfl (lv_at hl 5 rfl) ?_
  refine lv_iload hx hb dX9_share_21 (lv_at hl 0 rfl) ?_
  refine lv_lshr (v := 0) hx hb dX9_share_23 (by first | rfl | decide) ?_
  refine lv_lconst (v := 1) hx hb dX9_share_24 (by decide) ?_
  refine lv_land hx hb dX9_share_25 ?_
  refine lv_topl (fun xv ex => ?_)
  obtain rfl : xv = 0 := ex.trans (by first | rfl | decide)
  refine lv_lconst (v := 0) hx hb dX9_share_26 (by decide) ?_
  refine W.lcmp hx hb dX9_share_27 ?_
  refine lv_topi (fun xv ex => ?_)
  obtain rfl : xv = 0 := ex.trans (by first | rfl | decide)
  refine lv_if_eq (tgt := 43) hx hb dX9_share_28 (by decide) (fun _ => ?_) (fun h => absurd (by decide) h)
  refine lv_iinc (v := 13) (lv' := [(6, .int 13), (5, .int 0), (0, .ref h0), (1, .ref aW), (2, .ref aA), (3, .long 0)]) hx hb dX9_share_43 hl (k := 0) rfl (by first | rfl | decide) (by decide) rfl (fun ls hl => ?_)
  refine lv_goto (tgt := 6) hx hb dX9_share_46 (by decide) ?_
  refine lv_iload hx hb dX9_share_6 (lv_at hl 0 rfl) ?_
  refine lv_bipush (v := 40) hx hb dX9_share_8 (by decide) ?_
  refine lv_icmp_ge (tgt := 49) hx hb dX9_share_10 (by decide) (fun h => absurd h (by decide)) (fun _ => ?_)
  refine lv_iload hx hb dX9_share_13 (lv_at hl 1 rfl) ?_
  refine lv_bipush (v := 6) hx hb dX9_share_15 (by decide) ?_
  refine lv_icmp_ge (tgt := 49) hx hb dX9_share_17 (by decide) (fun h => absurd h (by decide)) (fun _ => ?_)
  refine lv_lload_n hx hb dX9_share_20 rfl (lv_at hl 5 rfl) ?_
  refine lv_iload hx hb dX9_share_21 (lv_at hl 0 rfl) ?_
  refine lv_lshr (v := 0) hx hb dX9_share_23 (by first | rfl | decide) ?_
  refine lv_lconst (v := 1) hx hb dX9_share_24 (by decide) ?_
  refine lv_land hx hb dX9_share_25 ?_
  refine lv_topl (fun xv ex => ?_)
  obtain rfl : xv = 0 := ex.trans (by first | rfl | decide)
  refine lv_lconst (v := 0) hx hb dX9_share_26 (by decide) ?_
  refine W.lcmp hx hb dX9_share_27 ?_
  refine lv_topi (fun xv ex => ?_)
  obtain rfl : xv = 0 := ex.trans (by first | rfl | decide)
  refine lv_if_eq (tgt := 43) hx hb dX9_share_28 (by decide) (fun _ => ?_) (fun h => absurd (by decide) h)
  refine lv_iinc (v := 14) (lv' := [(6, .int 14), (5, .int 0), (0, .ref h0), (1, .ref aW), (2, .ref aA), (3, .long 0)]) hx hb dX9_share_43 hl (k := 0) rfl (by first | rfl | decide) (by decide) rfl (fun ls hl => ?_)
  refine lv_goto (tgt := 6) hx hb dX9_share_46 (by decide) ?_
  refine lv_iload hx hb dX9_share_6 (lv_at hl 0 rfl) ?_
  refine lv_bipush (v := 40) hx hb dX9_share_8 (by decide) ?_
  refine lv_icmp_ge (tgt := 49) hx hb dX9_share_10 (by decide) (fun h => absurd h (by decide)) (fun _ => ?_)
  refine lv_iload hx hb dX9_share_13 (lv_at hl 1 rfl) ?_
  refine lv_bipush (v := 6) hx hb dX9_share_15 (by decide) ?_
  refine lv_icmp_ge (tgt := 49) hx hb dX9_share_17 (by decide) (fun h => absurd h (by decide)) (fun _ => ?_)
  refine lv_lload_n hx hb dX9_share_20 rfl (lv_at hl 5 rfl) ?_
  refine lv_iload hx hb dX9_share_21 (lv_at hl 0 rfl) ?_
  refine lv_lshr (v := 0) hx hb dX9_share_23 (by first | rfl | decide) ?_
  refine lv_lconst (v := 1) hx hb dX9_share_24 (by decide) ?_
  refine lv_land hx hb dX9_share_25 ?_
  refine lv_topl (fun xv ex => ?_)
  obtain rfl : xv = 0 := ex.trans (by first | rfl | decide)
  refine lv_lconst (v := 0) hx hb dX9_share_26 (by decide) ?_
  refine W.lcmp hx hb dX9_share_27 ?_
  refine lv_topi (fun xv ex => ?_)
  obtain rfl : xv = 0 := ex.trans (by first | rfl | decide)
  refine lv_if_eq (tgt := 43) hx hb dX9_share_28 (by decide) (fun _ => ?_) (fun h => absurd (by decide) h)
  refine lv_iinc (v := 15) (lv' := [(6, .int 15), (5, .int 0), (0, .ref h0), (1, .ref aW), (2, .ref aA), (3, .long 0)]) hx hb dX9_share_43 hl (k := 0) rfl (by first | rfl | decide) (by decide) rfl (fun ls hl => ?_)
  refine lv_goto (tgt := 6) hx hb dX9_share_46 (by decide) ?_
  refine lv_iload hx hb dX9_share_6 (lv_at hl 0 rfl) ?_
  refine lv_bipush (v := 40) hx hb dX9_share_8 (by decide) ?_
  refine lv_icmp_ge (tgt := 49) hx hb dX9_share_10 (by decide) (fun h => absurd h (by decide)) (fun _ => ?_)
  refine lv_iload hx hb dX9_share_13 (lv_at hl 1 rfl) ?_
  refine lv_bipush (v := 6) hx hb dX9_share_15 (by decide) ?_
  refine lv_icmp_ge (tgt := 49) hx hb dX9_share_17 (by decide) (fun h => absurd h (by decide)) (fun _ => ?_)
  refine lv_lload_n hx hb dX9_share_20 rfl (lv_at hl 5 rfl) ?_
  refine lv_iload hx hb dX9_share_21 (lv_at hl 0 rfl) ?_
  refine lv_lshr (v := 0) hx hb dX9_share_23 (by first | rfl | decide) ?_
  refine lv_lconst (v := 1) hx hb dX9_share_24 (by decide) ?_
  refine lv_land hx hb dX9_share_25 ?_
  refine lv_topl (fun xv ex => ?_)
  obtain rfl : xv = 0 := ex.trans (by first | rfl | decide)
  refine lv_lconst (v := 0) hx hb dX9_share_26 (by decide) ?_
  refine W.lcmp hx hb dX9_share_27 ?_
  refine lv_topi (fun xv ex => ?_)
  obtain rfl : xv = 0 := ex.trans (by first | rfl | decide)
  refine lv_if_eq (tgt := 43) hx hb dX9_share_28 (by decide) (fun _ => ?_) (fun h => absurd (by decide) h)
  refine lv_iinc (v := 16) (lv' := [(6, .int 16), (5, .int 0), (0, .ref h0), (1, .ref aW), (2, .ref aA), (3, .long 0)]) hx hb dX9_share_43 hl (k := 0) rfl (by first | rfl | decide) (by decide) rfl (fun ls hl => ?_)
  refine lv_goto (tgt := 6) hx hb dX9_share_46 (by decide) ?_
  refine lv_iload hx hb dX9_share_6 (lv_at hl 0 rfl) ?_
  refine lv_bipush (v := 40) hx hb dX9_share_8 (by decide) ?_
  refine lv_icmp_ge (tgt := 49) hx hb dX9_share_10 (by decide) (fun h => absurd h (by decide)) (fun _ => ?_)
  refine lv_iload hx hb dX9_share_13 (lv_at hl 1 rfl) ?_
  refine lv_bipush (v := 6) hx hb dX9_share_15 (by decide) ?_
  refine lv_icmp_ge (tgt := 49) hx hb dX9_share_17 (by decide) (fun h => absurd h (by decide)) (fun _ => ?_)
  refine lv_lload_n hx hb dX9_share_20 rfl (lv_at hl 5 rfl) ?_
  refine lv_iload hx hb dX9_share_21 (lv_at hl 0 rfl) ?_
  refine lv_lshr (v := 0) hx hb dX9_share_23 (by first | rfl | decide) ?_
  refine lv_lconst (v := 1) hx hb dX9_share_24 (by decide) ?_
  refine lv_land hx hb dX9_share_25 ?_
  refine lv_topl (fun xv ex => ?_)
  obtain rfl : xv = 0 := ex.trans (by first | rfl | decide)
  refine lv_lconst (v := 0) hx hb dX9_share_26 (by decide) ?_
  refine W.lcmp hx hb dX9_share_27 ?_
  refine lv_topi (fun xv ex => ?_)
  obtain rfl : xv = 0 := ex.trans (by first | rfl | decide)
  refine lv_if_eq (tgt := 43) hx hb dX9_share_28 (by decide) (fun _ => ?_) (fun h => absurd (by decide) h)
  refine lv_iinc (v := 17) (lv' := [(6, .int 17), (5, .int 0), (0, .ref h0), (1, .ref aW), (2, .ref aA), (3, .long 0)]) hx hb dX9_share_43 hl (k := 0) rfl (by first | rfl | decide) (by decide) rfl (fun ls hl => ?_)
  refine lv_goto (tgt := 6) hx hb dX9_share_46 (by decide) ?_
  refine lv_iload hx hb dX9_share_6 (lv_at hl 0 rfl) ?_
  refine lv_bipush (v := 40) hx hb dX9_share_8 (by decide) ?_
  refine lv_icmp_ge (tgt := 49) hx hb dX9_share_10 (by decide) (fun h => absurd h (by decide)) (fun _ => ?_)
  refine lv_iload hx hb dX9_share_13 (lv_at hl 1 rfl) ?_
  refine lv_bipush (v := 6) hx hb dX9_share_15 (by decide) ?_
  refine lv_icmp_ge (tgt := 49) hx hb dX9_share_17 (by decide) (fun h => absurd h (by decide)) (fun _ => ?_)
  refine lv_lload_n hx hb dX9_share_20 rfl (lv_at hl 5 rfl) ?_
  refine lv_iload hx hb dX9_share_21 (lv_at hl 0 rfl) ?_
  refine lv_lshr (v := 0) hx hb dX9_share_23 (by first | rfl | decide) ?_
  refine lv_lconst (v := 1) hx hb dX9_share_24 (by decide) ?_
  refine lv_land hx hb dX9_share_25 ?_
  refine lv_topl (fun xv ex => ?_)
  obtain rfl : xv = 0 := ex.trans (by first | rfl | decide)
  refine lv_lconst (v := 0) hx hb dX9_share_26 (by decide) ?_
  refine W.lcmp hx hb dX9_share_27 ?_
  refine lv_topi (fun xv ex => ?_)
  obtain rfl : xv = 0 := ex.trans (by first | rfl | decide)
  refine lv_if_eq (tgt := 43) hx hb dX9_share_28 (by decide) (fun _ => ?_) (fun h => absurd (by decide) h)
  refine lv_iinc (v := 18) (lv' := [(6, .int 18), (5, .int 0), (0, .ref h0), (1, .ref aW), (2, .ref aA), (3, .long 0)]) hx hb dX9_share_43 hl (k := 0) rfl (by first | rfl | decide) (by decide) rfl (fun ls hl => ?_)
  refine lv_goto (tgt := 6) hx hb dX9_share_46 (by decide) ?_
  refine lv_iload hx hb dX9_share_6 (lv_at hl 0 rfl) ?_
  refine lv_bipush (v := 40) hx hb dX9_share_8 (by decide) ?_
  refine lv_icmp_ge (tgt := 49) hx hb dX9_share_10 (by decide) (fun h => absurd h (by decide)) (fun _ => ?_)
  refine lv_iload hx hb dX9_share_13 (lv_at hl 1 rfl) ?_
  refine lv_bipush (v := 6) hx hb dX9_share_15 (by decide) ?_
  refine lv_icmp_ge (tgt := 49) hx hb dX9_share_17 (by decide) (fun h => absurd h (by decide)) (fun _ => ?_)
  refine lv_lload_n hx hb dX9_share_20 rfl (lv_at hl 5 rfl) ?_
  refine lv_iload hx hb dX9_share_21 (lv_at hl 0 rfl) ?_
  refine lv_lshr (v := 0) hx hb dX9_share_23 (by first | rfl | decide) ?_
  refine lv_lconst (v := 1) hx hb dX9_share_24 (by decide) ?_
  refine lv_land hx hb dX9_share_25 ?_
  refine lv_topl (fun xv ex => ?_)
  obtain rfl : xv = 0 := ex.trans (by first | rfl | decide)
  refine lv_lconst (v := 0) hx hb dX9_share_26 (by decide) ?_
  refine W.lcmp hx hb dX9_share_27 ?_
  refine lv_topi (fun xv ex => ?_)
  obtain rfl : xv = 0 := ex.trans (by first | rfl | decide)
  refine lv_if_eq (tgt := 43) hx hb dX9_share_28 (by decide) (fun _ => ?_) (fun h => absurd (by decide) h)
  refine lv_iinc (v := 19) (lv' := [(6, .int 19), (5, .int 0), (0, .ref h0), (1, .ref aW), (2, .ref aA), (3, .long 0)]) hx hb dX9_share_43 hl (k := 0) rfl (by first | rfl | decide) (by decide) rfl (fun ls hl => ?_)
  refine lv_goto (tgt := 6) hx hb dX9_share_46 (by decide) ?_
  refine lv_iload hx hb dX9_share_6 (lv_at hl 0 rfl) ?_
  refine lv_bipush (v := 40) hx hb dX9_share_8 (by decide) ?_
  refine lv_icmp_ge (tgt := 49) hx hb dX9_share_10 (by decide) (fun h => absurd h (by decide)) (fun _ => ?_)
  refine lv_iload hx hb dX9_share_13 (lv_at hl 1 rfl) ?_
  refine lv_bipush (v := 6) hx hb dX9_share_15 (by decide) ?_
  refine lv_icmp_ge (tgt := 49) hx hb dX9_share_17 (by decide) (fun h => absurd h (by decide)) (fun _ => ?_)
  refine lv_lload_n hx hb dX9_share_20 rfl (lv_at hl 5 rfl) ?_
  refine lv_iload hx hb dX9_share_21 (lv_at hl 0 rfl) ?_
  refine lv_lshr (v := 0) hx hb dX9_share_23 (by first | rfl | decide) ?_
  refine lv_lconst (v := 1) hx hb dX9_share_24 (by decide) ?_
  refine lv_land hx hb dX9_share_25 ?_
  refine lv_topl (fun xv ex => ?_)
  obtain rfl : xv = 0 := ex.trans (by first | rfl | decide)
  refine lv_lconst (v := 0) hx hb dX9_share_26 (by decide) ?_
  refine W.lcmp hx hb dX9_share_27 ?_
  refine lv_topi (fun xv ex => ?_)
  obtain rfl : xv = 0 := ex.trans (by first | rfl | decide)
  refine lv_if_eq (tgt := 43) hx hb dX9_share_28 (by decide) (fun _ => ?_) (fun h => absurd (by decide) h)
  refine lv_iinc (v := 20) (lv' := [(6, .int 20), (5, .int 0), (0, .ref h0), (1, .ref aW), (2, .ref aA), (3, .long 0)]) hx hb dX9_share_43 hl (k := 0) rfl (by first | rfl | decide) (by decide) rfl (fun ls hl => ?_)
  refine lv_goto (tgt := 6) hx hb dX9_share_46 (by decide) ?_
  refine lv_iload hx hb dX9_share_6 (lv_at hl 0 rfl) ?_
  refine lv_bipush (v := 40) hx hb dX9_share_8 (by decide) ?_
  refine lv_icmp_ge (tgt := 49) hx hb dX9_share_10 (by decide) (fun h => absurd h (by decide)) (fun _ => ?_)
  refine lv_iload hx hb dX9_share_13 (lv_at hl 1 rfl) ?_
  refine lv_bipush (v := 6) hx hb dX9_share_15 (by decide) ?_
  refine lv_icmp_ge (tgt := 49) hx hb dX9_share_17 (by decide) (fun h => absurd h (by decide)) (fun _ => ?_)
  refine lv_lload_n hx hb dX9_share_20 rfl (lv_at hl 5 rfl) ?_
  refine lv_iload hx hb dX9_share_21 (lv_at hl 0 rfl) ?_
  refine lv_lshr (v := 0) hx hb dX9_share_23 (by first | rfl | decide) ?_
  refine lv_lconst (v := 1) hx hb dX9_share_24 (by decide) ?_
  refine lv_land hx hb dX9_share_25 ?_
  refine lv_topl (fun xv ex => ?_)
  obtain rfl : xv = 0 := ex.trans (by first | rfl | decide)
  refine lv_lconst (v := 0) hx hb dX9_share_26 (by decide) ?_
  refine W.lcmp hx hb dX9_share_27 ?_
  refine lv_topi (fun xv ex => ?_)
  obtain rfl : xv = 0 := ex.trans (by first | rfl | decide)
  refine lv_if_eq (tgt := 43) hx hb dX9_share_28 (by decide) (fun _ => ?_) (fun h => absurd (by decide) h)
  refine lv_iinc (v := 21) (lv' := [(6, .int 21), (5, .int 0), (0, .ref h0), (1, .ref aW), (2, .ref aA), (3, .long 0)]) hx hb dX9_share_43 hl (k := 0) rfl (by first | rfl | decide) (by decide) rfl (fun ls hl => ?_)
  refine lv_goto (tgt := 6) hx hb dX9_share_46 (by decide) ?_
  refine lv_iload hx hb dX9_share_6 (lv_at hl 0 rfl) ?_
  refine lv_bipush (v := 40) hx hb dX9_share_8 (by decide) ?_
  refine lv_icmp_ge (tgt := 49) hx hb dX9_share_10 (by decide) (fun h => absurd h (by decide)) (fun _ => ?_)
  refine lv_iload hx hb dX9_share_13 (lv_at hl 1 rfl) ?_
  refine lv_bipush (v := 6) hx hb dX9_share_15 (by decide) ?_
  refine lv_icmp_ge (tgt := 49) hx hb dX9_share_17 (by decide) (fun h => absurd h (by decide)) (fun _ => ?_)
  refine lv_lload_n hx hb dX9_share_20 rfl (lv_at hl 5 rfl) ?_
  refine lv_iload hx hb dX9_share_21 (lv_at hl 0 rfl) ?_
  refine lv_lshr (v := 0) hx hb dX9_share_23 (by first | rfl | decide) ?_
  refine lv_lconst (v := 1) hx hb dX9_share_24 (by decide) ?_
  refine lv_land hx hb dX9_share_25 ?_
  refine lv_topl (fun xv ex => ?_)
  obtain rfl : xv = 0 := ex.trans (by first | rfl | decide)
  refine lv_lconst (v := 0) hx hb dX9_share_26 (by decide) ?_
  refine W.lcmp hx hb dX9_share_27 ?_
  refine lv_topi (fun xv ex => ?_)
  obtain rfl : xv = 0 := ex.trans (by first | rfl | decide)
  refine lv_if_eq (tgt := 43) hx hb dX9_share_28 (by decide) (fun _ => ?_) (fun h => absurd (by decide) h)
  refine lv_iinc (v := 22) (lv' := [(6, .int 22), (5, .int 0), (0, .ref h0), (1, .ref aW), (2, .ref aA), (3, .long 0)]) hx hb dX9_share_43 hl (k := 0) rfl (by first | rfl | decide) (by decide) rfl (fun ls hl => ?_)
  refine lv_goto (tgt := 6) hx hb dX9_share_46 (by decide) ?_
  refine lv_iload hx hb dX9_share_6 (lv_at hl 0 rfl) ?_
  refine lv_bipush (v := 40) hx hb dX9_share_8 (by decide) ?_
  refine lv_icmp_ge (tgt := 49) hx hb dX9_share_10 (by decide) (fun h => absurd h (by decide)) (fun _ => ?_)
  refine lv_iload hx hb dX9_share_13 (lv_at hl 1 rfl) ?_
  refine lv_bipush (v := 6) hx hb dX9_share_15 (by decide) ?_
  refine lv_icmp_ge (tgt := 49) hx hb dX9_share_17 (by decide) (fun h => absurd h (by decide)) (fun _ => ?_)
  refine lv_lload_n hx hb dX9_share_20 rfl (lv_at hl 5 rfl) ?_
  refine lv_iload hx hb dX9_share_21 (lv_at hl 0 rfl) ?_
  refine lv_lshr (v := 0) hx hb dX9_share_23 (by first | rfl | decide) ?_
  refine lv_lconst (v := 1) hx hb dX9_share_24 (by decide) ?_
  refine lv_land hx hb dX9_share_25 ?_
  refine lv_topl (fun xv ex => ?_)
  obtain rfl : xv = 0 := ex.trans (by first | rfl | decide)
  refine lv_lconst (v := 0) hx hb dX9_share_26 (by decide) ?_
  refine W.lcmp hx hb dX9_share_27 ?_
  refine lv_topi (fun xv ex => ?_)
  obtain rfl : xv = 0 := ex.trans (by first | rfl | decide)
  refine lv_if_eq (tgt := 43) hx hb dX9_share_28 (by decide) (fun _ => ?_) (fun h => absurd (by decide) h)
  refine lv_iinc (v := 23) (lv' := [(6, .int 23), (5, .int 0), (0, .ref h0), (1, .ref aW), (2, .ref aA), (3, .long 0)]) hx hb dX9_share_43 hl (k := 0) rfl (by first | rfl | decide) (by decide) rfl (fun ls hl => ?_)
  refine lv_goto (tgt := 6) hx hb dX9_share_46 (by decide) ?_
  refine lv_iload hx hb dX9_share_6 (lv_at hl 0 rfl) ?_
  refine lv_bipush (v := 40) hx hb dX9_share_8 (by decide) ?_
  refine lv_icmp_ge (tgt := 49) hx hb dX9_share_10 (by decide) (fun h => absurd h (by decide)) (fun _ => ?_)
  refine lv_iload hx hb dX9_share_13 (lv_at hl 1 rfl) ?_
  refine lv_bipush (v := 6) hx hb dX9_share_15 (by decide) ?_
  refine lv_icmp_ge (tgt := 49) hx hb dX9_share_17 (by decide) (fun h => absurd h (by decide)) (fun _ => ?_)
  refine lv_lload_n hx hb dX9_share_20 rfl (lv_at hl 5 rfl) ?_
  refine lv_iload hx hb dX9_share_21 (lv_at hl 0 rfl) ?_
  refine lv_lshr (v := 0) hx hb dX9_share_23 (by first | rfl | decide) ?_
  refine lv_lconst (v := 1) hx hb dX9_share_24 (by decide) ?_
  refine lv_land hx hb dX9_share_25 ?_
  refine lv_topl (fun xv ex => ?_)
  obtain rfl : xv = 0 := ex.trans (by first | rfl | decide)
  refine lv_lconst (v := 0) hx hb dX9_share_26 (by decide) ?_
  refine W.lcmp hx hb dX9_share_27 ?_
  refine lv_topi (fun xv ex => ?_)
  obtain rfl : xv = 0 := ex.trans (by first | rfl | decide)
  refine lv_if_eq (tgt := 43) hx hb dX9_share_28 (by decide) (fun _ => ?_) (fun h => absurd (by decide) h)
  refine lv_iinc (v := 24) (lv' := [(6, .int 24), (5, .int 0), (0, .ref h0), (1, .ref aW), (2, .ref aA), (3, .long 0)]) hx hb dX9_share_43 hl (k := 0) rfl (by first | rfl | decide) (by decide) rfl (fun ls hl => ?_)
  refine lv_goto (tgt := 6) hx hb dX9_share_46 (by decide) ?_
  refine lv_iload hx hb dX9_share_6 (lv_at hl 0 rfl) ?_
  refine lv_bipush (v := 40) hx hb dX9_share_8 (by decide) ?_
  refine lv_icmp_ge (tgt := 49) hx hb dX9_share_10 (by decide) (fun h => absurd h (by decide)) (fun _ => ?_)
  refine lv_iload hx hb dX9_share_13 (lv_at hl 1 rfl) ?_
  refine lv_bipush (v := 6) hx hb dX9_share_15 (by decide) ?_
  refine lv_icmp_ge (tgt := 49) hx hb dX9_share_17 (by decide) (fun h => absurd h (by decide)) (fun _ => ?_)
  refine lv_lload_n hx hb dX9_share_20 rfl (lv_at hl 5 rfl) ?_
  refine lv_iload hx hb dX9_share_21 (lv_at hl 0 rfl) ?_
  refine lv_lshr (v := 0) hx hb dX9_share_23 (by first | rfl | decide) ?_
  refine lv_lconst (v := 1) hx hb dX9_share_24 (by decide) ?_
  refine lv_land hx hb dX9_share_25 ?_
  refine lv_topl (fun xv ex => ?_)
  obtain rfl : xv = 0 := ex.trans (by first | rfl | decide)
  refine lv_lconst (v := 0) hx hb dX9_share_26 (by decide) ?_
  refine W.lcmp hx hb dX9_share_27 ?_
  refine lv_topi (fun xv ex => ?_)
  obtain rfl : xv = 0 := ex.trans (by first | rfl | decide)
  refine lv_if_eq (tgt := 43) hx hb dX9_share_28 (by decide) (fun _ => ?_) (fun h => absurd (by decide) h)
  refine lv_iinc (v := 25) (lv' := [(6, .int 25), (5, .int 0), (0, .ref h0), (1, .ref aW), (2, .ref aA), (3, .long 0)]) hx hb dX9_share_43 hl (k := 0) rfl (by first | rfl | decide) (by decide) rfl (fun ls hl => ?_)
  refine lv_goto (tgt := 6) hx hb dX9_share_46 (by decide) ?_
  refine lv_iload hx hb dX9_share_6 (lv_at hl 0 rfl) ?_
  refine lv_bipush (v := 40) hx hb dX9_share_8 (by decide) ?_
  refine lv_icmp_ge (tgt := 49) hx hb dX9_share_10 (by decide) (fun h => absurd h (by decide)) (fun _ => ?_)
  refine lv_iload hx hb dX9_share_13 (lv_at hl 1 rfl) ?_
  refine lv_bipush (v := 6) hx hb dX9_share_15 (by decide) ?_
  refine lv_icmp_ge (tgt := 49) hx hb dX9_share_17 (by decide) (fun h => absurd h (by decide)) (fun _ => ?_)
  refine lv_lload_n hx hb dX9_share_20 rfl (lv_at hl 5 rfl) ?_
  refine lv_iload hx hb dX9_share_21 (lv_at hl 0 rfl) ?_
  refine lv_lshr (v := 0) hx hb dX9_share_23 (by first | rfl | decide) ?_
  refine lv_lconst (v := 1) hx hb dX9_share_24 (by decide) ?_
  refine lv_land hx hb dX9_share_25 ?_
  refine lv_topl (fun xv ex => ?_)
  obtain rfl : xv = 0 := ex.trans (by first | rfl | decide)
  refine lv_lconst (v := 0) hx hb dX9_share_26 (by decide) ?_
  refine W.lcmp hx hb dX9_share_27 ?_
  refine lv_topi (fun xv ex => ?_)
  obtain rfl : xv = 0 := ex.trans (by first | rfl | decide)
  refine lv_if_eq (tgt := 43) hx hb dX9_share_28 (by decide) (fun _ => ?_) (fun h => absurd (by decide) h)
  refine lv_iinc (v := 26) (lv' := [(6, .int 26), (5, .int 0), (0, .ref h0), (1, .ref aW), (2, .ref aA), (3, .long 0)]) hx hb dX9_share_43 hl (k := 0) rfl (by first | rfl | decide) (by decide) rfl (fun ls hl => ?_)
  refine lv_goto (tgt := 6) hx hb dX9_share_46 (by decide) ?_
  refine lv_iload hx hb dX9_share_6 (lv_at hl 0 rfl) ?_
  refine lv_bipush (v := 40) hx hb dX9_share_8 (by decide) ?_
  refine lv_icmp_ge (tgt := 49) hx hb dX9_share_10 (by decide) (fun h => absurd h (by decide)) (fun _ => ?_)
  refine lv_iload hx hb dX9_share_13 (lv_at hl 1 rfl) ?_
  refine lv_bipush (v := 6) hx hb dX9_share_15 (by decide) ?_
  refine lv_icmp_ge (tgt := 49) hx hb dX9_share_17 (by decide) (fun h => absurd h (by decide)) (fun _ => ?_)
  refine lv_lload_n hx hb dX9_share_20 rfl (lv_at hl 5 rfl) ?_
  refine lv_iload hx hb dX9_share_21 (lv_at hl 0 rfl) ?_
  refine lv_lshr (v := 0) hx hb dX9_share_23 (by first | rfl | decide) ?_
  refine lv_lconst (v := 1) hx hb dX9_share_24 (by decide) ?_
  refine lv_land hx hb dX9_share_25 ?_
  refine lv_topl (fun xv ex => ?_)
  obtain rfl : xv = 0 := ex.trans (by first | rfl | decide)
  refine lv_lconst (v := 0) hx hb dX9_share_26 (by decide) ?_
  refine W.lcmp hx hb dX9_share_27 ?_
  refine lv_topi (fun xv ex => ?_)
  obtain rfl : xv = 0 := ex.trans (by first | rfl | decide)
  refine lv_if_eq (tgt := 43) hx hb dX9_share_28 (by decide) (fun _ => ?_) (fun h => absurd (by decide) h)
  refine lv_iinc (v := 27) (lv' := [(6, .int 27), (5, .int 0), (0, .ref h0), (1, .ref aW), (2, .ref aA), (3, .long 0)]) hx hb dX9_share_43 hl (k := 0) rfl (by first | rfl | decide) (by decide) rfl (fun ls hl => ?_)
  refine lv_goto (tgt := 6) hx hb dX9_share_46 (by decide) ?_
  refine lv_iload hx hb dX9_share_6 (lv_at hl 0 rfl) ?_
  refine lv_bipush (v := 40) hx hb dX9_share_8 (by decide) ?_
  refine lv_icmp_ge (tgt := 49) hx hb dX9_share_10 (by decide) (fun h => absurd h (by decide)) (fun _ => ?_)
  refine lv_iload hx hb dX9_share_13 (lv_at hl 1 rfl) ?_
  refine lv_bipush (v := 6) hx hb dX9_share_15 (by decide) ?_
  refine lv_icmp_ge (tgt := 49) hx hb dX9_share_17 (by decide) (fun h => absurd h (by decide)) (fun _ => ?_)
  refine lv_lload_n hx hb dX9_share_20 rfl (lv_at hl 5 rfl) ?_
  refine lv_iload hx hb dX9_share_21 (lv_at hl 0 rfl) ?_
  refine lv_lshr (v := 0) hx hb dX9_share_23 (by first | rfl | decide) ?_
  refine lv_lconst (v := 1) hx hb dX9_share_24 (by decide) ?_
  refine lv_land hx hb dX9_share_25 ?_
  refine lv_topl (fun xv ex => ?_)
  obtain rfl : xv = 0 := ex.trans (by first | rfl | decide)
  refine lv_lconst (v := 0) hx hb dX9_share_26 (by decide) ?_
  refine W.lcmp hx hb dX9_share_27 ?_
  refine lv_topi (fun xv ex => ?_)
  obtain rfl : xv = 0 := ex.trans (by first | rfl | decide)
  refine lv_if_eq (tgt := 43) hx hb dX9_share_28 (by decide) (fun _ => ?_) (fun h => absurd (by decide) h)
  refine lv_iinc (v := 28) (lv' := [(6, .int 28), (5, .int 0), (0, .ref h0), (1, .ref aW), (2, .ref aA), (3, .long 0)]) hx hb dX9_share_43 hl (k := 0) rfl (by first | rfl | decide) (by decide) rfl (fun ls hl => ?_)
  refine lv_goto (tgt := 6) hx hb dX9_share_46 (by decide) ?_
  refine lv_iload hx hb dX9_share_6 (lv_at hl 0 rfl) ?_
  refine lv_bipush (v := 40) hx hb dX9_share_8 (by decide) ?_
  refine lv_icmp_ge (tgt := 49) hx hb dX9_share_10 (by decide) (fun h => absurd h (by decide)) (fun _ => ?_)
  refine lv_iload hx hb dX9_share_13 (lv_at hl 1 rfl) ?_
  refine lv_bipush (v := 6) hx hb dX9_share_15 (by decide) ?_
  refine lv_icmp_ge (tgt := 49) hx hb dX9_share_17 (by decide) (fun h => absurd h (by decide)) (fun _ => ?_)
  refine lv_lload_n hx hb dX9_share_20 rfl (lv_at hl 5 rfl) ?_
  refine lv_iload hx hb dX9_share_21 (lv_at hl 0 rfl) ?_
  refine lv_lshr (v := 0) hx hb dX9_share_23 (by first | rfl | decide) ?_
  refine lv_lconst (v := 1) hx hb dX9_share_24 (by decide) ?_
  refine lv_land hx hb dX9_share_25 ?_
  refine lv_topl (fun xv ex => ?_)
  obtain rfl : xv = 0 := ex.trans (by first | rfl | decide)
  refine lv_lconst (v := 0) hx hb dX9_share_26 (by decide) ?_
  refine W.lcmp hx hb dX9_share_27 ?_
  refine lv_topi (fun xv ex => ?_)
  obtain rfl : xv = 0 := ex.trans (by first | rfl | decide)
  refine lv_if_eq (tgt := 43) hx hb dX9_share_28 (by decide) (fun _ => ?_) (fun h => absurd (by decide) h)
  refine lv_iinc (v := 29) (lv' := [(6, .int 29), (5, .int 0), (0, .ref h0), (1, .ref aW), (2, .ref aA), (3, .long 0)]) hx hb dX9_share_43 hl (k := 0) rfl (by first | rfl | decide) (by decide) rfl (fun ls hl => ?_)
  refine lv_goto (tgt := 6) hx hb dX9_share_46 (by decide) ?_
  refine lv_iload hx hb dX9_share_6 (lv_at hl 0 rfl) ?_
  refine lv_bipush (v := 40) hx hb dX9_share_8 (by decide) ?_
  refine lv_icmp_ge (tgt := 49) hx hb dX9_share_10 (by decide) (fun h => absurd h (by decide)) (fun _ => ?_)
  refine lv_iload hx hb dX9_share_13 (lv_at hl 1 rfl) ?_
  refine lv_bipush (v := 6) hx hb dX9_share_15 (by decide) ?_
  refine lv_icmp_ge (tgt := 49) hx hb dX9_share_17 (by decide) (fun h => absurd h (by decide)) (fun _ => ?_)
  refine lv_lload_n hx hb dX9_share_20 rfl (lv_at hl 5 rfl) ?_
  refine lv_iload hx hb dX9_share_21 (lv_at hl 0 rfl) ?_
  refine lv_lshr (v := 0) hx hb dX9_share_23 (by first | rfl | decide) ?_
  refine lv_lconst (v := 1) hx hb dX9_share_24 (by decide) ?_
  refine lv_land hx hb dX9_share_25 ?_
  refine lv_topl (fun xv ex => ?_)
  obtain rfl : xv = 0 := ex.trans (by first | rfl | decide)
  refine lv_lconst (v := 0) hx hb dX9_share_26 (by decide) ?_
  refine W.lcmp hx hb dX9_share_27 ?_
  refine lv_topi (fun xv ex => ?_)
  obtain rfl : xv = 0 := ex.trans (by first | rfl | decide)
  refine lv_if_eq (tgt := 43) hx hb dX9_share_28 (by decide) (fun _ => ?_) (fun h => absurd (by decide) h)
  refine lv_iinc (v := 30) (lv' := [(6, .int 30), (5, .int 0), (0, .ref h0), (1, .ref aW), (2, .ref aA), (3, .long 0)]) hx hb dX9_share_43 hl (k := 0) rfl (by first | rfl | decide) (by decide) rfl (fun ls hl => ?_)
  refine lv_goto (tgt := 6) hx hb dX9_share_46 (by decide) ?_
  refine lv_iload hx hb dX9_share_6 (lv_at hl 0 rfl) ?_
  refine lv_bipush (v := 40) hx hb dX9_share_8 (by decide) ?_
  refine lv_icmp_ge (tgt := 49) hx hb dX9_share_10 (by decide) (fun h => absurd h (by decide)) (fun _ => ?_)
  refine lv_iload hx hb dX9_share_13 (lv_at hl 1 rfl) ?_
  refine lv_bipush (v := 6) hx hb dX9_share_15 (by decide) ?_
  refine lv_icmp_ge (tgt := 49) hx hb dX9_share_17 (by decide) (fun h => absurd h (by decide)) (fun _ => ?_)
  refine lv_lload_n hx hb dX9_share_20 rfl (lv_at hl 5 rfl) ?_
  refine lv_iload hx hb dX9_share_21 (lv_at hl 0 rfl) ?_
  refine lv_lshr (v := 0) hx hb dX9_share_23 (by first | rfl | decide) ?_
  refine lv_lconst (v := 1) hx hb dX9_share_24 (by decide) ?_
  refine lv_land hx hb dX9_share_25 ?_
  refine lv_topl (fun xv ex => ?_)
  obtain rfl : xv = 0 := ex.trans (by first | rfl | decide)
  refine lv_lconst (v := 0) hx hb dX9_share_26 (by decide) ?_
  refine W.lcmp hx hb dX9_share_27 ?_
  refine lv_topi (fun xv ex => ?_)
  obtain rfl : xv = 0 := ex.trans (by first | rfl | decide)
  refine lv_if_eq (tgt := 43) hx hb dX9_share_28 (by decide) (fun _ => ?_) (fun h => absurd (by decide) h)
  refine lv_iinc (v := 31) (lv' := [(6, .int 31), (5, .int 0), (0, .ref h0), (1, .ref aW), (2, .ref aA), (3, .long 0)]) hx hb dX9_share_43 hl (k := 0) rfl (by first | rfl | decide) (by decide) rfl (fun ls hl => ?_)
  refine lv_goto (tgt := 6) hx hb dX9_share_46 (by decide) ?_
  refine lv_iload hx hb dX9_share_6 (lv_at hl 0 rfl) ?_
  refine lv_bipush (v := 40) hx hb dX9_share_8 (by decide) ?_
  refine lv_icmp_ge (tgt := 49) hx hb dX9_share_10 (by decide) (fun h => absurd h (by decide)) (fun _ => ?_)
  refine lv_iload hx hb dX9_share_13 (lv_at hl 1 rfl) ?_
  refine lv_bipush (v := 6) hx hb dX9_share_15 (by decide) ?_
  refine lv_icmp_ge (tgt := 49) hx hb dX9_share_17 (by decide) (fun h => absurd h (by decide)) (fun _ => ?_)
  refine lv_lload_n hx hb dX9_share_20 rfl (lv_at hl 5 rfl) ?_
  refine lv_iload hx hb dX9_share_21 (lv_at hl 0 rfl) ?_
  refine lv_lshr (v := 0) hx hb dX9_share_23 (by first | rfl | decide) ?_
  refine lv_lconst (v := 1) hx hb dX9_share_24 (by decide) ?_
  refine lv_land hx hb dX9_share_25 ?_
  refine lv_topl (fun xv ex => ?_)
  obtain rfl : xv = 0 := ex.trans (by first | rfl | decide)
  refine lv_lconst (v := 0) hx hb dX9_share_26 (by decide) ?_
  refine W.lcmp hx hb dX9_share_27 ?_
  refine lv_topi (fun xv ex => ?_)
  obtain rfl : xv = 0 := ex.trans (by first | rfl | decide)
  refine lv_if_eq (tgt := 43) hx hb dX9_share_28 (by decide) (fun _ => ?_) (fun h => absurd (by decide) h)
  refine lv_iinc (v := 32) (lv' := [(6, .int 32), (5, .int 0), (0, .ref h0), (1, .ref aW), (2, .ref aA), (3, .long 0)]) hx hb dX9_share_43 hl (k := 0) rfl (by first | rfl | decide) (by decide) rfl (fun ls hl => ?_)
  refine lv_goto (tgt := 6) hx hb dX9_share_46 (by decide) ?_
  refine lv_iload hx hb dX9_share_6 (lv_at hl 0 rfl) ?_
  refine lv_bipush (v := 40) hx hb dX9_share_8 (by decide) ?_
  refine lv_icmp_ge (tgt := 49) hx hb dX9_share_10 (by decide) (fun h => absurd h (by decide)) (fun _ => ?_)
  refine lv_iload hx hb dX9_share_13 (lv_at hl 1 rfl) ?_
  refine lv_bipush (v := 6) hx hb dX9_share_15 (by decide) ?_
  refine lv_icmp_ge (tgt := 49) hx hb dX9_share_17 (by decide) (fun h => absurd h (by decide)) (fun _ => ?_)
  refine lv_lload_n hx hb dX9_share_20 rfl (lv_at hl 5 rfl) ?_
  refine lv_iload hx hb dX9_share_21 (lv_at hl 0 rfl) ?_
  refine lv_lshr (v := 0) hx hb dX9_share_23 (by first | rfl | decide) ?_
  refine lv_lconst (v := 1) hx hb dX9_share_24 (by decide) ?_
  refine lv_land hx hb dX9_share_25 ?_
  refine lv_topl (fun xv ex => ?_)
  obtain rfl : xv = 0 := ex.trans (by first | rfl | decide)
  refine lv_lconst (v := 0) hx hb dX9_share_26 (by decide) ?_
  refine W.lcmp hx hb dX9_share_27 ?_
  refine lv_topi (fun xv ex => ?_)
  obtain rfl : xv = 0 := ex.trans (by first | rfl | decide)
  refine lv_if_eq (tgt := 43) hx hb dX9_share_28 (by decide) (fun _ => ?_) (fun h => absurd (by decide) h)
  refine lv_iinc (v := 33) (lv' := [(6, .int 33), (5, .int 0), (0, .ref h0), (1, .ref aW), (2, .ref aA), (3, .long 0)]) hx hb dX9_share_43 hl (k := 0) rfl (by first | rfl | decide) (by decide) rfl (fun ls hl => ?_)
  refine lv_goto (tgt := 6) hx hb dX9_share_46 (by decide) ?_
  refine lv_iload hx hb dX9_share_6 (lv_at hl 0 rfl) ?_
  refine lv_bipush (v := 40) hx hb dX9_share_8 (by decide) ?_
  refine lv_icmp_ge (tgt := 49) hx hb dX9_share_10 (by decide) (fun h => absurd h (by decide)) (fun _ => ?_)
  refine lv_iload hx hb dX9_share_13 (lv_at hl 1 rfl) ?_
  refine lv_bipush (v := 6) hx hb dX9_share_15 (by decide) ?_
  refine lv_icmp_ge (tgt := 49) hx hb dX9_share_17 (by decide) (fun h => absurd h (by decide)) (fun _ => ?_)
  refine lv_lload_n hx hb dX9_share_20 rfl (lv_at hl 5 rfl) ?_
  refine lv_iload hx hb dX9_share_21 (lv_at hl 0 rfl) ?_
  refine lv_lshr (v := 0) hx hb dX9_share_23 (by first | rfl | decide) ?_
  refine lv_lconst (v := 1) hx hb dX9_share_24 (by decide) ?_
  refine lv_land hx hb dX9_share_25 ?_
  refine lv_topl (fun xv ex => ?_)
  obtain rfl : xv = 0 := ex.trans (by first | rfl | decide)
  refine lv_lconst (v := 0) hx hb dX9_share_26 (by decide) ?_
  refine W.lcmp hx hb dX9_share_27 ?_
  refine lv_topi (fun xv ex => ?_)
  obtain rfl : xv = 0 := ex.trans (by first | rfl | decide)
  refine lv_if_eq (tgt := 43) hx hb dX9_share_28 (by decide) (fun _ => ?_) (fun h => absurd (by decide) h)
  refine lv_iinc (v := 34) (lv' := [(6, .int 34), (5, .int 0), (0, .ref h0), (1, .ref aW), (2, .ref aA), (3, .long 0)]) hx hb dX9_share_43 hl (k := 0) rfl (by first | rfl | decide) (by decide) rfl (fun ls hl => ?_)
  refine lv_goto (tgt := 6) hx hb dX9_share_46 (by decide) ?_
  refine lv_iload hx hb dX9_share_6 (lv_at hl 0 rfl) ?_
  refine lv_bipush (v := 40) hx hb dX9_share_8 (by decide) ?_
  refine lv_icmp_ge (tgt := 49) hx hb dX9_share_10 (by decide) (fun h => absurd h (by decide)) (fun _ => ?_)
  refine lv_iload hx hb dX9_share_13 (lv_at hl 1 rfl) ?_
  refine lv_bipush (v := 6) hx hb dX9_share_15 (by decide) ?_
  refine lv_icmp_ge (tgt := 49) hx hb dX9_share_17 (by decide) (fun h => absurd h (by decide)) (fun _ => ?_)
  refine lv_lload_n hx hb dX9_share_20 rfl (lv_at hl 5 rfl) ?_
  refine lv_iload hx hb dX9_share_21 (lv_at hl 0 rfl) ?_
  refine lv_lshr (v := 0) hx hb dX9_share_23 (by first | rfl | decide) ?_
  refine lv_lconst (v := 1) hx hb dX9_share_24 (by decide) ?_
  refine lv_land hx hb dX9_share_25 ?_
  refine lv_topl (fun xv ex => ?_)
  obtain rfl : xv = 0 := ex.trans (by first | rfl | decide)
  refine lv_lconst (v := 0) hx hb dX9_share_26 (by decide) ?_
  refine W.lcmp hx hb dX9_share_27 ?_
  refine lv_topi (fun xv ex => ?_)
  obtain rfl : xv = 0 := ex.trans (by first | rfl | decide)
  refine lv_if_eq (tgt := 43) hx hb dX9_share_28 (by decide) (fun _ => ?_) (fun h => absurd (by decide) h)
  refine lv_iinc (v := 35) (lv' := [(6, .int 35), (5, .int 0), (0, .ref h0), (1, .ref aW), (2, .ref aA), (3, .long 0)]) hx hb dX9_share_43 hl (k := 0) rfl (by first | rfl | decide) (by decide) rfl (fun ls hl => ?_)
  refine lv_goto (tgt := 6) hx hb dX9_share_46 (by decide) ?_
  refine lv_iload hx hb dX9_share_6 (lv_at hl 0 rfl) ?_
  refine lv_bipush (v := 40) hx hb dX9_share_8 (by decide) ?_
  refine lv_icmp_ge (tgt := 49) hx hb dX9_share_10 (by decide) (fun h => absurd h (by decide)) (fun _ => ?_)
  refine lv_iload hx hb dX9_share_13 (lv_at hl 1 rfl) ?_
  refine lv_bipush (v := 6) hx hb dX9_share_15 (by decide) ?_
  refine lv_icmp_ge (tgt := 49) hx hb dX9_share_17 (by decide) (fun h => absurd h (by decide)) (fun _ => ?_)
  refine lv_lload_n hx hb dX9_share_20 rfl (lv_at hl 5 rfl) ?_
  refine lv_iload hx hb dX9_share_21 (lv_at hl 0 rfl) ?_
  refine lv_lshr (v := 0) hx hb dX9_share_23 (by first | rfl | decide) ?_
  refine lv_lconst (v := 1) hx hb dX9_share_24 (by decide) ?_
  refine lv_land hx hb dX9_share_25 ?_
  refine lv_topl (fun xv ex => ?_)
  obtain rfl : xv = 0 := ex.trans (by first | rfl | decide)
  refine lv_lconst (v := 0) hx hb dX9_share_26 (by decide) ?_
  refine W.lcmp hx hb dX9_share_27 ?_
  refine lv_topi (fun xv ex => ?_)
  obtain rfl : xv = 0 := ex.trans (by first | rfl | decide)
  refine lv_if_eq (tgt := 43) hx hb dX9_share_28 (by decide) (fun _ => ?_) (fun h => absurd (by decide) h)
  refine lv_iinc (v := 36) (lv' := [(6, .int 36), (5, .int 0), (0, .ref h0), (1, .ref aW), (2, .ref aA), (3, .long 0)]) hx hb dX9_share_43 hl (k := 0) rfl (by first | rfl | decide) (by decide) rfl (fun ls hl => ?_)
  refine lv_goto (tgt := 6) hx hb dX9_share_46 (by decide) ?_
  refine lv_iload hx hb dX9_share_6 (lv_at hl 0 rfl) ?_
  refine lv_bipush (v := 40) hx hb dX9_share_8 (by decide) ?_
  refine lv_icmp_ge (tgt := 49) hx hb dX9_share_10 (by decide) (fun h => absurd h (by decide)) (fun _ => ?_)
  refine lv_iload hx hb dX9_share_13 (lv_at hl 1 rfl) ?_
  refine lv_bipush (v := 6) hx hb dX9_share_15 (by decide) ?_
  refine lv_icmp_ge (tgt := 49) hx hb dX9_share_17 (by decide) (fun h => absurd h (by decide)) (fun _ => ?_)
  refine lv_lload_n hx hb dX9_share_20 rfl (lv_at hl 5 rfl) ?_
  refine lv_iload hx hb dX9_share_21 (lv_at hl 0 rfl) ?_
  refine lv_lshr (v := 0) hx hb dX9_share_23 (by first | rfl | decide) ?_
  refine lv_lconst (v := 1) hx hb dX9_share_24 (by decide) ?_
  refine lv_land hx hb dX9_share_25 ?_
  refine lv_topl (fun xv ex => ?_)
  obtain rfl : xv = 0 := ex.trans (by first | rfl | decide)
  refine lv_lconst (v := 0) hx hb dX9_share_26 (by decide) ?_
  refine W.lcmp hx hb dX9_share_27 ?_
  refine lv_topi (fun xv ex => ?_)
  obtain rfl : xv = 0 := ex.trans (by first | rfl | decide)
  refine lv_if_eq (tgt := 43) hx hb dX9_share_28 (by decide) (fun _ => ?_) (fun h => absurd (by decide) h)
  refine lv_iinc (v := 37) (lv' := [(6, .int 37), (5, .int 0), (0, .ref h0), (1, .ref aW), (2, .ref aA), (3, .long 0)]) hx hb dX9_share_43 hl (k := 0) rfl (by first | rfl | decide) (by decide) rfl (fun ls hl => ?_)
  refine lv_goto (tgt := 6) hx hb dX9_share_46 (by decide) ?_
  refine lv_iload hx hb dX9_share_6 (lv_at hl 0 rfl) ?_
  refine lv_bipush (v := 40) hx hb dX9_share_8 (by decide) ?_
  refine lv_icmp_ge (tgt := 49) hx hb dX9_share_10 (by decide) (fun h => absurd h (by decide)) (fun _ => ?_)
  refine lv_iload hx hb dX9_share_13 (lv_at hl 1 rfl) ?_
  refine lv_bipush (v := 6) hx hb dX9_share_15 (by decide) ?_
  refine lv_icmp_ge (tgt := 49) hx hb dX9_share_17 (by decide) (fun h => absurd h (by decide)) (fun _ => ?_)
  refine lv_lload_n hx hb dX9_share_20 rfl (lv_at hl 5 rfl) ?_
  refine lv_iload hx hb dX9_share_21 (lv_at hl 0 rfl) ?_
  refine lv_lshr (v := 0) hx hb dX9_share_23 (by first | rfl | decide) ?_
  refine lv_lconst (v := 1) hx hb dX9_share_24 (by decide) ?_
  refine lv_land hx hb dX9_share_25 ?_
  refine lv_topl (fun xv ex => ?_)
  obtain rfl : xv = 0 := ex.trans (by first | rfl | decide)
  refine lv_lconst (v := 0) hx hb dX9_share_26 (by decide) ?_
  refine W.lcmp hx hb dX9_share_27 ?_
  refine lv_topi (fun xv ex => ?_)
  obtain rfl : xv = 0 := ex.trans (by first | rfl | decide)
  refine lv_if_eq (tgt := 43) hx hb dX9_share_28 (by decide) (fun _ => ?_) (fun h => absurd (by decide) h)
  refine lv_iinc (v := 38) (lv' := [(6, .int 38), (5, .int 0), (0, .ref h0), (1, .ref aW), (2, .ref aA), (3, .long 0)]) hx hb dX9_share_43 hl (k := 0) rfl (by first | rfl | decide) (by decide) rfl (fun ls hl => ?_)
  refine lv_goto (tgt := 6) hx hb dX9_share_46 (by decide) ?_
  refine lv_iload hx hb dX9_share_6 (lv_at hl 0 rfl) ?_
  refine lv_bipush (v := 40) hx hb dX9_share_8 (by decide) ?_
  refine lv_icmp_ge (tgt := 49) hx hb dX9_share_10 (by decide) (fun h => absurd h (by decide)) (fun _ => ?_)
  refine lv_iload hx hb dX9_share_13 (lv_at hl 1 rfl) ?_
  refine lv_bipush (v := 6) hx hb dX9_share_15 (by decide) ?_
  refine lv_icmp_ge (tgt := 49) hx hb dX9_share_17 (by decide) (fun h => absurd h (by decide)) (fun _ => ?_)
  refine lv_lload_n hx hb dX9_share_20 rfl (lv_at hl 5 rfl) ?_
  refine lv_iload hx hb dX9_share_21 (lv_at hl 0 rfl) ?_
  refine lv_lshr (v := 0) hx hb dX9_share_23 (by first | rfl | decide) ?_
  refine lv_lconst (v := 1) hx hb dX9_share_24 (by decide) ?_
  refine lv_land hx hb dX9_share_25 ?_
  refine lv_topl (fun xv ex => ?_)
  obtain rfl : xv = 0 := ex.trans (by first | rfl | decide)
  refine lv_lconst (v := 0) hx hb dX9_share_26 (by decide) ?_
  refine W.lcmp hx hb dX9_share_27 ?_
  refine lv_topi (fun xv ex => ?_)
  obtain rfl : xv = 0 := ex.trans (by first | rfl | decide)
  refine lv_if_eq (tgt := 43) hx hb dX9_share_28 (by decide) (fun _ => ?_) (fun h => absurd (by decide) h)
  refine lv_iinc (v := 39) (lv' := [(6, .int 39), (5, .int 0), (0, .ref h0), (1, .ref aW), (2, .ref aA), (3, .long 0)]) hx hb dX9_share_43 hl (k := 0) rfl (by first | rfl | decide) (by decide) rfl (fun ls hl => ?_)
  refine lv_goto (tgt := 6) hx hb dX9_share_46 (by decide) ?_
  refine lv_iload hx hb dX9_share_6 (lv_at hl 0 rfl) ?_
  refine lv_bipush (v := 40) hx hb dX9_share_8 (by decide) ?_
  refine lv_icmp_ge (tgt := 49) hx hb dX9_share_10 (by decide) (fun h => absurd h (by decide)) (fun _ => ?_)
  refine lv_iload hx hb dX9_share_13 (lv_at hl 1 rfl) ?_
  refine lv_bipush (v := 6) hx hb dX9_share_15 (by decide) ?_
  refine lv_icmp_ge (tgt := 49) hx hb dX9_share_17 (by decide) (fun h => absurd h (by decide)) (fun _ => ?_)
  refine lv_lload_n hx hb dX9_share_20 rfl (lv_at hl 5 rfl) ?_
  refine lv_iload hx hb dX9_share_21 (lv_at hl 0 rfl) ?_
  refine lv_lshr (v := 0) hx hb dX9_share_23 (by first | rfl | decide) ?_
  refine lv_lconst (v := 1) hx hb dX9_share_24 (by decide) ?_
  refine lv_land hx hb dX9_share_25 ?_
  refine lv_topl (fun xv ex => ?_)
  obtain rfl : xv = 0 := ex.trans (by first | rfl | decide)
  refine lv_lconst (v := 0) hx hb dX9_share_26 (by decide) ?_
  refine W.lcmp hx hb dX9_share_27 ?_
  refine lv_topi (fun xv ex => ?_)
  obtain rfl : xv = 0 := ex.trans (by first | rfl | decide)
  refine lv_if_eq (tgt := 43) hx hb dX9_share_28 (by decide) (fun _ => ?_) (fun h => absurd (by decide) h)
  refine lv_iinc (v := 40) (lv' := [(6, .int 40), (5, .int 0), (0, .ref h0), (1, .ref aW), (2, .ref aA), (3, .long 0)]) hx hb dX9_share_43 hl (k := 0) rfl (by first | rfl | decide) (by decide) rfl (fun ls hl => ?_)
  refine lv_goto (tgt := 6) hx hb dX9_share_46 (by decide) ?_
  refine lv_iload hx hb dX9_share_6 (lv_at hl 0 rfl) ?_
  refine lv_bipush (v := 40) hx hb dX9_share_8 (by decide) ?_
  refine lv_icmp_ge (tgt := 49) hx hb dX9_share_10 (by decide) (fun _ => ?_) (fun h => absurd (by decide) h)
  refine lv_aload_n hx hb dX9_share_49 rfl (lv_at hl 2 rfl) ?_
  refine lv_aload_n hx hb dX9_share_50 rfl (lv_at hl 3 rfl) ?_
  refine lv_aload_n hx hb dX9_share_51 rfl (lv_at hl 4 rfl) ?_
  refine lv_iload hx hb dX9_share_52 (lv_at hl 1 rfl) ?_
  refine va_csv (mkVr (rest := []) ⟨hx, hb, hml, hown, htl⟩ hN hK hP (c_X9_priceAll l G cs h0 aW aA 0 f_h0_0 f_h0_1 f_h0_2 f_h0_3 f_h0_4 f_h0_5 (.ref hd) f_h0_7 (.ref hf) f_h0_9 f_h0_10 f_aW_0 aC f_aW_2 f_aW_3 f_aW_4 f_aW_5 f_aW_6 f_aC_0 f_aC_1) [0, 1, 2] rfl 0 9 rfl rfl (cV 3 htl lk_RX9_73 mI_X9_priceAll mS_X9_priceAll mN_RX9 mC_X9_priceAll ok_X9_priceAll rfl rfl ⟨(Nat.le_of_ble_eq_true rfl), (Nat.le_of_ble_eq_true rfl)⟩) rfl hl.1 rfl (Nat.le_of_ble_eq_true rfl) dX9_share_54 ⟨(Nat.le_of_ble_eq_true rfl), (Nat.le_of_ble_eq_true rfl)⟩) (fun _ => ?_)
  refine lv_aload_n hx hb dX9_share_57 rfl (lv_at hl 3 rfl) ?_
  refine va_get (ci := 10) (v := .ref aC) (C := RX10) (T := TX10) (N := 7) hx hb htl inX10 hown hK hP 1 rfl rfl 1 (by decide) (htl _ fl_RX9_77) (fun _ h9 => h9) rfl dX9_share_58 ?_
  refine va_get (ci := 1) (v := .int 0) (C := RX1) (T := TX1) (N := 3) hx hb htl inX1 hown hK hP 2 rfl rfl 2 (by decide) (htl _ fl_RX9_83) (fun _ h9 => h9) rfl dX9_share_61 ?_
  refine lv_istore (lv' := [(6, .int 0), (5, .int 0), (0, .ref h0), (1, .ref aW), (2, .ref aA), (3, .long 0)]) hx hb dX9_share_64 hl (by decide) rfl (fun ls hl => ?_)
  refine lv_iconst (v := 1) hx hb dX9_share_66 (by decide) ?_
  refine lv_iload hx hb dX9_share_67 (lv_at hl 1 rfl) ?_
  refine lv_ishl hx hb dX9_share_69 ?_
  refine lv_topi (fun xv ex => ?_)
  obtain rfl : xv = 1 := ex.trans (by first | rfl | decide)
  refine lv_iconst (v := 1) hx hb dX9_share_70 (by decide) ?_
  refine lv_isub hx hb dX9_share_71 ?_
  refine lv_topi (fun xv ex => ?_)
  obtain rfl : xv = 0 := ex.trans (by first | rfl | decide)
  refine lv_istore (lv' := [(7, .int 0), (6, .int 0), (5, .int 0), (0, .ref h0), (1, .ref aW), (2, .ref aA), (3, .long 0)]) hx hb dX9_share_72 hl (by decide) rfl (fun ls hl => ?_)
  refine lv_iconst (v := 0) hx hb dX9_share_74 (by decide) ?_
  refine lv_istore (lv' := [(8, .int 0), (7, .int 0), (6, .int 0), (5, .int 0), (0, .ref h0), (1, .ref aW), (2, .ref aA), (3, .long 0)]) hx hb dX9_share_75 hl (by decide) rfl (fun ls hl => ?_)
  refine lv_iload hx hb dX9_share_77 (lv_at hl 0 rfl) ?_
  refine lv_iload hx hb dX9_share_79 (lv_at hl 1 rfl) ?_
  refine lv_icmp_gt (tgt := 114) hx hb dX9_share_81 (by decide) (fun h => absurd h (by decide)) (fun _ => ?_)
  refine lv_aload_n hx hb dX9_share_84 rfl (lv_at hl 4 rfl) ?_
  refine va_get (ci := 9) (v := .ref hf) (C := RX9) (T := TX9) (N := 11) hx hb htl inX9 hown hK hP 0 rfl rfl 8 (by decide) (htl _ fl_RX9_31) (fun _ h9 => h9) rfl dX9_share_85 ?_
  refine lv_iload hx hb dX9_share_88 (lv_at hl 2 rfl) ?_
  refine lv_bipush (v := 64) hx hb dX9_share_90 (by decide) ?_
  refine lv_imul hx hb dX9_share_92 ?_
  refine lv_topi (fun xv ex => ?_)
  obtain rfl : xv = 0 := ex.trans (by first | rfl | decide)
  refine lv_iload hx hb dX9_share_93 (lv_at hl 0 rfl) ?_
  refine lv_iadd hx hb dX9_share_95 ?_
  refine lv_topi (fun xv ex => ?_)
  obtain rfl : xv = 0 := ex.trans (by first | rfl | decide)
  refine lv_iload hx hb dX9_share_96 (lv_at hl 0 rfl) ?_
  refine lv_if_ne (tgt := 105) hx hb dX9_share_98 (by decide) (fun h => absurd (by decide) h) (fun _ => ?_)
  refine lv_iconst (v := 0) hx hb dX9_share_101 (by decide) ?_
  refine lv_goto (tgt := 107) hx hb dX9_share_102 (by decide) ?_
  refine va_iast hx hb hK hP hD hS 3 0 rfl rfl (by unfold vp_in; decide) dX9_share_107 (fun H locs hP hD hS => ?_)
  have hP : va_P G vwCl [(h0, .inr (9, [f_h0_0, f_h0_1, f_h0_2, f_h0_3, f_h0_4, f_h0_5, .ref hd, f_h0_7, .ref hf, f_h0_9, f_h0_10])), (aW, .inr (10, [f_aW_0, .ref aC, f_aW_2, f_aW_3, f_aW_4, f_aW_5, f_aW_6])), (aC, .inr (1, [f_aC_0, f_aC_1, .int 0])), (hf, .inl (cs 0, 448, .inl (upd ff 0 0)))] H := hP
  have hD : va_D A [(h0, .inr (9, [f_h0_0, f_h0_1, f_h0_2, f_h0_3, f_h0_4, f_h0_5, .ref hd, f_h0_7, .ref hf, f_h0_9, f_h0_10])), (aW, .inr (10, [f_aW_0, .ref aC, f_aW_2, f_aW_3, f_aW_4, f_aW_5, f_aW_6])), (aC, .inr (1, [f_aC_0, f_aC_1, .int 0])), (hf, .inl (cs 0, 448, .inl (upd ff 0 0)))] := hD
  refine lv_iinc (v := 1) (lv' := [(8, .int 1), (7, .int 0), (6, .int 0), (5, .int 0), (0, .ref h0), (1, .ref aW), (2, .ref aA), (3, .long 0)]) hx hb dX9_share_108 hl (k := 0) rfl (by first | rfl | decide) (by decide) rfl (fun ls hl => ?_)
  refine lv_goto (tgt := 77) hx hb dX9_share_111 (by decide) ?_
  refine lv_iload hx hb dX9_share_77 (lv_at hl 0 rfl) ?_
  refine lv_iload hx hb dX9_share_79 (lv_at hl 1 rfl) ?_
  refine lv_icmp_gt (tgt := 114) hx hb dX9_share_81 (by decide) (fun _ => ?_) (fun h => absurd (by decide) h)
  refine lv_iload hx hb dX9_share_114 (lv_at hl 2 rfl) ?_
  refine lv_iconst (v := 1) hx hb dX9_share_116 (by decide) ?_
  refine lv_isub hx hb dX9_share_117 ?_
  refine lv_topi (fun xv ex => ?_)
  obtain rfl : xv = (-1) := ex.trans (by first | rfl | decide)
  refine lv_istore (lv' := [(8, .int (-1)), (7, .int 0), (6, .int 0), (5, .int 0), (0, .ref h0), (1, .ref aW), (2, .ref aA), (3, .long 0)]) hx hb dX9_share_118 hl (by decide) rfl (fun ls hl => ?_)
  refine lv_iload hx hb dX9_share_120 (lv_at hl 0 rfl) ?_
  refine lv_if_lt (tgt := 170) hx hb dX9_share_122 (by decide) (fun _ => ?_) (fun h => absurd (by decide) h)
  refine lv_aload_n hx hb dX9_share_170 rfl (lv_at hl 4 rfl) ?_
  refine lv_aload_n hx hb dX9_share_171 rfl (lv_at hl 4 rfl) ?_
  refine va_get (ci := 9) (v := .ref hf) (C := RX9) (T := TX9) (N := 11) hx hb htl inX9 hown hK hP 0 rfl rfl 8 (by decide) (htl _ fl_RX9_31) (fun _ h9 => h9) rfl dX9_share_172 ?_
  refine lv_iload hx hb dX9_share_175 (lv_at hl 1 rfl) ?_
  refine va_iald hx hb hK hP 3 0 rfl rfl (by unfold vp_in; decide) dX9_share_177 ?_
  refine lv_topi (fun xv ex => ?_)
  obtain rfl : xv = 0 := ex.trans (by first | exact pk_us | rfl | decide)
  refine va_put (ci := 9) (v := .int 0) (ty := .int) (C := RX9) (T := TX9) (N := 11) hx hb htl inX9 tyX9 tyX9_ok nmX9 hown hK hP hD hS 0 rfl rfl 5 (by decide) (htl _ fl_RX9_92) (fun _ h9 => h9) rfl (by decide +kernel) (by first | rfl | decide) (by first | rfl | decide) (Nat.le_of_ble_eq_true rfl) dX9_share_178 (fun H locs hP hD hS => ?_)
  have hP : va_P G vwCl [(h0, .inr (9, [f_h0_0, f_h0_1, f_h0_2, f_h0_3, f_h0_4, .int 0, .ref hd, f_h0_7, .ref hf, f_h0_9, f_h0_10])), (aW, .inr (10, [f_aW_0, .ref aC, f_aW_2, f_aW_3, f_aW_4, f_aW_5, f_aW_6])), (aC, .inr (1, [f_aC_0, f_aC_1, .int 0])), (hf, .inl (cs 0, 448, .inl (upd ff 0 0)))] H := hP
  have hD : va_D A [(h0, .inr (9, [f_h0_0, f_h0_1, f_h0_2, f_h0_3, f_h0_4, .int 0, .ref hd, f_h0_7, .ref hf, f_h0_9, f_h0_10])), (aW, .inr (10, [f_aW_0, .ref aC, f_aW_2, f_aW_3, f_aW_4, f_aW_5, f_aW_6])), (aC, .inr (1, [f_aC_0, f_aC_1, .int 0])), (hf, .inl (cs 0, 448, .inl (upd ff 0 0)))] := hD
  refine lv_aload_n hx hb dX9_share_181 rfl (lv_at hl 4 rfl) ?_
  refine va_get (ci := 9) (v := .int 0) (C := RX9) (T := TX9) (N := 11) hx hb htl inX9 hown hK hP 0 rfl rfl 5 (by decide) (htl _ fl_RX9_92) (fun _ h9 => h9) rfl dX9_share_182 ?_
  refine lv_ldc hx hb hown (htl _ ct_RX9_68) dX9_share_185 ?_
  refine lv_icmp_lt (tgt := 192) hx hb dX9_share_187 (by decide) (fun _ => ?_) (fun h => absurd (by decide) h)
  refine lv_aload_n hx hb dX9_share_192 rfl (lv_at hl 4 rfl) ?_
  refine lv_iload hx hb dX9_share_193 (lv_at hl 2 rfl) ?_
  refine lv_iload hx hb dX9_share_195 (lv_at hl 3 rfl) ?_
  refine va_csv (mkVr (rest := []) ⟨hx, hb, hml, hown, htl⟩ hN hK hP (c_X9_fillRow l G cs h0 0 f_h0_0 f_h0_1 f_h0_2 f_h0_3 f_h0_4 (.int 0) (.ref hd) f_h0_7 (.ref hf) f_h0_9 f_h0_10) [0] rfl 0 9 rfl rfl (cV 2 htl lk_RX9_95 mI_X9_fillRow mS_X9_fillRow mN_RX9 mC_X9_fillRow ok_X9_fillRow rfl rfl ⟨(Nat.le_of_ble_eq_true rfl), (Nat.le_of_ble_eq_true rfl)⟩) rfl hl.1 rfl (Nat.le_of_ble_eq_true rfl) dX9_share_197 ⟨(Nat.le_of_ble_eq_true rfl), (Nat.le_of_ble_eq_true rfl)⟩) (fun _ => ?_)
  refine lv_iconst (v := 1) hx hb dX9_share_200 (by decide) ?_
  have hP9 := hP.pick (wc := [(h0, .inr (9, [f_h0_0, f_h0_1, f_h0_2, f_h0_3, f_h0_4, .int 0, .ref hd, f_h0_7, .ref hf, f_h0_9, f_h0_10]))]) (is := [0]) rfl
  have hD9 := hD.sub (ws' := [(h0, .inr (9, [f_h0_0, f_h0_1, f_h0_2, f_h0_3, f_h0_4, .int 0, .ref hd, f_h0_7, .ref hf, f_h0_9, f_h0_10]))]) [0] rfl rfl
  exact W.zret (ty := .boolean) (v := 1) hx hb hr (by decide) (fun t ht hW => ⟨⟨1, (), rfl, ⟨rfl, (by decide)⟩, ⟨by rw [ht]; exact hP9, va_K.moved hW.alike hK, hD9⟩⟩, hS.F ht⟩) hS.2.2 dX9_share_201

def sp_X11_gangs_0 (a : Int32) : Int32 := if (sp_X11_isWithin a 1) = 0 then (-1) else 0
set_option maxHeartbeats 1000000 in
set_option maxRecDepth 100000 in
theorem c_X11_gangs_0 (l : Launch) (G : va_G) (cs : Nat → ClassId) (h0 : Nat) (a : Int32) (aA : Nat) (aS : Nat) (f_h0_2 : Value) (f_h0_3 : Value) (f_h0_4 : Value) (f_h0_5 : Value) (aY : Nat) (f_h0_7 : Value) (f_h0_8 : Value) (f_h0_9 : Value) (f_h0_10 : Value) (f_h0_11 : Value) (h1 : Nat) (lr : Int32) (aW : Nat) (aD : Nat) (f_aS_2 : Value) (f_aS_3 : Value) (f_aS_4 : Value) (f_aW_0 : Value) (aC : Nat) (f_aW_2 : Value) (f_aW_3 : Value) (f_aW_4 : Value) (f_aW_5 : Value) (f_aC_0 : Value) (f_aC_1 : Value) (f_aA_0 : Value) (f_aA_1 : Value) (f_aA_2 : Value) (f_aA_3 : Value) (f_aA_4 : Value) (f_aA_5 : Value) (f_aA_6 : Value) (f_aA_7 : Value) (f_aA_8 : Value) (f_aY_0 : Value) (f_aY_1 : Value) (f_aY_2 : Value) (f_aY_3 : Value) (f_aY_4 : Value) (f_aY_5 : Value) (hd : Nat) (f_aY_7 : Value) (hf : Nat) (f_aY_9 : Value) (f_aY_10 : Value) (ff : Nat → Int32) (sz : Nat) : Met l yX11_gangs (Cond.code yX11_gangs cX11_gangs 5 (some .int) :: gW) ({ frames := 2, cells := 0, slots := 0, locals := 55 }) (va_Pc [.ref h0, .long 0, .int a] (Pre G cs [(h0, .inr (11, [.ref aA, .ref aS, f_h0_2, f_h0_3, f_h0_4, f_h0_5, .ref aY, f_h0_7, f_h0_8, f_h0_9, f_h0_10, f_h0_11, .ref h1, .int lr])), (aS, .inr (7, [.ref aW, .ref aD, f_aS_2, f_aS_3, f_aS_4])), (aW, .inr (10, [f_aW_0, .ref aC, f_aW_2, f_aW_3, f_aW_4, f_aW_5, .int (-1)])), (aC, .inr (1, [f_aC_0, f_aC_1, .int 0])), (aA, .inr (0, [f_aA_0, f_aA_1, f_aA_2, f_aA_3, f_aA_4, f_aA_5, f_aA_6, f_aA_7, f_aA_8])), (aY, .inr (9, [f_aY_0, f_aY_1, f_aY_2, f_aY_3, f_aY_4, f_aY_5, .ref hd, f_aY_7, .ref hf, f_aY_9, f_aY_10])), (hf, .inl (cs 0, 448, .inl ff))] sz)) (va_Qi (fun r (u : Unit) => r = sp_X11_gangs_0 a) (fun (u : Unit) t => Aft G cs (va_A [(h0, .inr (11, [.ref aA, .ref aS, f_h0_2, f_h0_3, f_h0_4, f_h0_5, .ref aY, f_h0_7, f_h0_8, f_h0_9, f_h0_10, f_h0_11, .ref h1, .int lr])), (aS, .inr (7, [.ref aW, .ref aD, f_aS_2, f_aS_3, f_aS_4])), (aW, .inr (10, [f_aW_0, .ref aC, f_aW_2, f_aW_3, f_aW_4, f_aW_5, .int (-1)])), (aC, .inr (1, [f_aC_0, f_aC_1, .int 0])), (aA, .inr (0, [f_aA_0, f_aA_1, f_aA_2, f_aA_3, f_aA_4, f_aA_5, f_aA_6, f_aA_7, f_aA_8])), (aY, .inr (9, [f_aY_0, f_aY_1, f_aY_2, f_aY_3, f_aY_4, f_aY_5, .ref hd, f_aY_7, .ref hf, f_aY_9, f_aY_10])), (hf, .inl (cs 0, 448, .inl ff))] sz) [] t) (va_A [(h0, .inr (11, [.ref aA, .ref aS, f_h0_2, f_h0_3, f_h0_4, f_h0_5, .ref aY, f_h0_7, f_h0_8, f_h0_9, f_h0_10, f_h0_11, .ref h1, .int lr])), (aS, .inr (7, [.ref aW, .ref aD, f_aS_2, f_aS_3, f_aS_4])), (aW, .inr (10, [f_aW_0, .ref aC, f_aW_2, f_aW_3, f_aW_4, f_aW_5, .int (-1)])), (aC, .inr (1, [f_aC_0, f_aC_1, .int 0])), (aA, .inr (0, [f_aA_0, f_aA_1, f_aA_2, f_aA_3, f_aA_4, f_aA_5, f_aA_6, f_aA_7, f_aA_8])), (aY, .inr (9, [f_aY_0, f_aY_1, f_aY_2, f_aY_3, f_aY_4, f_aY_5, .ref hd, f_aY_7, .ref hf, f_aY_9, f_aY_10])), (hf, .inl (cs 0, 448, .inl ff))] sz)) 0 0 (va_A [(h0, .inr (11, [.ref aA, .ref aS, f_h0_2, f_h0_3, f_h0_4, f_h0_5, .ref aY, f_h0_7, f_h0_8, f_h0_9, f_h0_10, f_h0_11, .ref h1, .int lr])), (aS, .inr (7, [.ref aW, .ref aD, f_aS_2, f_aS_3, f_aS_4])), (aW, .inr (10, [f_aW_0, .ref aC, f_aW_2, f_aW_3, f_aW_4, f_aW_5, .int (-1)])), (aC, .inr (1, [f_aC_0, f_aC_1, .int 0])), (aA, .inr (0, [f_aA_0, f_aA_1, f_aA_2, f_aA_3, f_aA_4, f_aA_5, f_aA_6, f_aA_7, f_aA_8])), (aY, .inr (9, [f_aY_0, f_aY_1, f_aY_2, f_aY_3, f_aY_4, f_aY_5, .ref hd, f_aY_7, .ref hf, f_aY_9, f_aY_10])), (hf, .inl (cs 0, 448, .inl ff))] sz) := by
  refine Met.ofW (cc := cX11_gangs) (maxL := 5) (ret := (some .int)) (by decide) rfl ?_
  intro p e s m args below meth c s₁ B hml hv
  obtain ⟨rfl, hsz, hP, hK, hD0, hN⟩ := hv
  have hx := B.exec
  have hb := B.bytes
  have hr := B.returns
  have hts := atoms_spec (ws := Cond.code yX11_gangs cX11_gangs 5 (some .int) :: gW) B.pre
  have htl : ∀ w ∈ gW, w.before _ s = true := fun w h => hts w (List.mem_cons_of_mem _ h)
  have hown : s.vm.findClass RX11 = some m.cls := findClass_of_methodNamed B.named
  have hlocks := B.notSynchronized
  subst hsz
  have hD := hD0.self (sz := s.heap.size)
  generalize hAe : va_A [(h0, .inr (11, [.ref aA, .ref aS, f_h0_2, f_h0_3, f_h0_4, f_h0_5, .ref aY, f_h0_7, f_h0_8, f_h0_9, f_h0_10, f_h0_11, .ref h1, .int lr])), (aS, .inr (7, [.ref aW, .ref aD, f_aS_2, f_aS_3, f_aS_4])), (aW, .inr (10, [f_aW_0, .ref aC, f_aW_2, f_aW_3, f_aW_4, f_aW_5, .int (-1)])), (aC, .inr (1, [f_aC_0, f_aC_1, .int 0])), (aA, .inr (0, [f_aA_0, f_aA_1, f_aA_2, f_aA_3, f_aA_4, f_aA_5, f_aA_6, f_aA_7, f_aA_8])), (aY, .inr (9, [f_aY_0, f_aY_1, f_aY_2, f_aY_3, f_aY_4, f_aY_5, .ref hd, f_aY_7, .ref hf, f_aY_9, f_aY_10])), (hf, .inl (cs 0, 448, .inl ff))] s.heap.size = A at hD ⊢
  have hA : ∀ q : Nat, s.heap.size ≤ q → A q := fun q h => by rw [← hAe]; exact Or.inr h
  have hS : va_S A s.heap s.heap [] := va_S.rf
  have hl := lv_entry ([.ref h0, .long 0, .int a]) (n := 5) (Nat.le_of_ble_eq_true rfl)
  rw [lg_entry_eq]
  generalize (lg_sl ([.ref h0, .long 0, .int a]) ++ List.replicate (5 - (lg_sl ([.ref h0, .long 0, .int a])).length) Slot.unset).toArray = ls at hl ⊢
  have hl : lv_has ls 5 [(0, .ref h0), (1, .long 0), (3, .int a)] := hl
  refine lv_aload_n hx hb dX11_gangs_0 rfl (lv_at hl 0 rfl) ?_
  refine va_get (ci := 11) (v := .ref aS) (C := RX11) (T := TX11) (N := 14) hx hb htl inX11 hown hK hP 0 rfl rfl 1 (by decide) (htl _ fl_RX11_21) (fun _ h9 => h9) rfl dX11_gangs_1 ?_
  refine va_get (ci := 7) (v := .ref aW) (C := RX7) (T := TX7) (N := 5) hx hb htl inX7 hown hK hP 1 rfl rfl 0 (by decide) (htl _ fl_RX11_78) (fun _ h9 => h9) rfl dX11_gangs_4 ?_
  refine va_get (ci := 10) (v := .ref aC) (C := RX10) (T := TX10) (N := 7) hx hb htl inX10 hown hK hP 2 rfl rfl 1 (by decide) (htl _ fl_RX11_134) (fun _ h9 => h9) rfl dX11_gangs_7 ?_
  refine va_get (ci := 1) (v := .int 0) (C := RX1) (T := TX1) (N := 3) hx hb htl inX1 hown hK hP 3 rfl rfl 2 (by decide) (htl _ fl_RX11_137) (fun _ h9 => h9) rfl dX11_gangs_10 ?_
  refine lv_istore (lv' := [(4, .int 0), (0, .ref h0), (1, .long 0), (3, .int a)]) hx hb dX11_gangs_13 hl (by decide) rfl (fun ls hl => ?_)
  refine lv_lload_n hx hb dX11_gangs_15 rfl (lv_at hl 2 rfl) ?_
  refine lv_lconst (v := 0) hx hb dX11_gangs_16 (by decide) ?_
  refine W.lcmp hx hb dX11_gangs_17 ?_
  refine lv_topi (fun xv ex => ?_)
  obtain rfl : xv = 0 := ex.trans (by first | rfl | decide)
  refine lv_if_lt (tgt := 50) hx hb dX11_gangs_18 (by decide) (fun h => absurd h (by decide)) (fun _ => ?_)
  refine lv_lload_n hx hb dX11_gangs_21 rfl (lv_at hl 2 rfl) ?_
  refine lv_bipush (v := 40) hx hb dX11_gangs_22 (by decide) ?_
  refine lv_lshr (v := 0) hx hb dX11_gangs_24 (by first | rfl | decide) ?_
  refine lv_lconst (v := 0) hx hb dX11_gangs_25 (by decide) ?_
  refine W.lcmp hx hb dX11_gangs_26 ?_
  refine lv_topi (fun xv ex => ?_)
  obtain rfl : xv = 0 := ex.trans (by first | rfl | decide)
  refine lv_if_ne (tgt := 50) hx hb dX11_gangs_27 (by decide) (fun h => absurd (by decide) h) (fun _ => ?_)
  refine lv_lload_n hx hb dX11_gangs_30 rfl (lv_at hl 2 rfl) ?_
  refine vp_callSi (mkSr (rest := []) ⟨hx, hb, hml, hown, htl⟩ hN hK (c_J_lbc0 l G cs) (cS 1 htl lk_RX11_308 mT_J13_bitCount_95d88 mN_RJ13 mC_J13_bitCount_95d88 ok_J13_bitCount_95d88 rfl rfl ⟨(Nat.le_of_ble_eq_true rfl), (Nat.le_of_ble_eq_true rfl)⟩) rfl hl.1 rfl (Nat.le_of_ble_eq_true rfl) dX11_gangs_31 ⟨(Nat.le_of_ble_eq_true rfl), (Nat.le_of_ble_eq_true rfl)⟩) (fun r hw => ?_)
  obtain rfl : r = 0 := hw.trans (by first | decide +kernel | rfl)
  refine lv_bipush (v := 6) hx hb dX11_gangs_34 (by decide) ?_
  refine lv_icmp_gt (tgt := 50) hx hb dX11_gangs_36 (by decide) (fun h => absurd h (by decide)) (fun _ => ?_)
  refine lv_iload_n hx hb dX11_gangs_39 rfl (lv_at hl 3 rfl) ?_
  refine lv_iload hx hb dX11_gangs_40 (lv_at hl 0 rfl) ?_
  refine lv_iconst (v := 1) hx hb dX11_gangs_42 (by decide) ?_
  refine lv_iadd hx hb dX11_gangs_43 ?_
  refine lv_topi (fun xv ex => ?_)
  obtain rfl : xv = 1 := ex.trans (by first | rfl | decide)
  refine vp_callSi (mkSr (rest := []) ⟨hx, hb, hml, hown, htl⟩ hN hK (c_X11_isWithin l G cs a 1) (cS 2 htl lk_RX11_82 mT_X11_isWithin mN_RX11 mC_X11_isWithin ok_X11_isWithin rfl rfl ⟨(Nat.le_of_ble_eq_true rfl), (Nat.le_of_ble_eq_true rfl)⟩) rfl hl.1 rfl (Nat.le_of_ble_eq_true rfl) dX11_gangs_44 ⟨(Nat.le_of_ble_eq_true rfl), (Nat.le_of_ble_eq_true rfl)⟩) (fun r hw => ?_)
  obtain ⟨rfl, hz_1⟩ := hw
  refine lv_if_ne (tgt := 52) hx hb dX11_gangs_47 (by decide) (fun c_47 => ?_) (fun c_47 => ?_)
  · refine lv_aload_n hx hb dX11_gangs_52 rfl (lv_at hl 1 rfl) ?_
    refine va_get (ci := 11) (v := .ref aA) (C := RX11) (T := TX11) (N := 14) hx hb htl inX11 hown hK hP 0 rfl rfl 0 (by decide) (htl _ fl_RX11_10) (fun _ h9 => h9) rfl dX11_gangs_53 ?_
    refine lv_aload_n hx hb dX11_gangs_56 rfl (lv_at hl 1 rfl) ?_
    refine va_get (ci := 11) (v := .ref aS) (C := RX11) (T := TX11) (N := 14) hx hb htl inX11 hown hK hP 0 rfl rfl 1 (by decide) (htl _ fl_RX11_21) (fun _ h9 => h9) rfl dX11_gangs_57 ?_
    refine va_get (ci := 7) (v := .ref aW) (C := RX7) (T := TX7) (N := 5) hx hb htl inX7 hown hK hP 1 rfl rfl 0 (by decide) (htl _ fl_RX11_78) (fun _ h9 => h9) rfl dX11_gangs_60 ?_
    refine lv_aload_n hx hb dX11_gangs_63 rfl (lv_at hl 1 rfl) ?_
    refine va_get (ci := 11) (v := .ref aS) (C := RX11) (T := TX11) (N := 14) hx hb htl inX11 hown hK hP 0 rfl rfl 1 (by decide) (htl _ fl_RX11_21) (fun _ h9 => h9) rfl dX11_gangs_64 ?_
    refine va_get (ci := 7) (v := .ref aW) (C := RX7) (T := TX7) (N := 5) hx hb htl inX7 hown hK hP 1 rfl rfl 0 (by decide) (htl _ fl_RX11_78) (fun _ h9 => h9) rfl dX11_gangs_67 ?_
    refine va_csr (mkVr (rest := [.ref aW, .ref aA]) ⟨hx, hb, hml, hown, htl⟩ hN hK hP (c_X10_lawInForce l G cs aW f_aW_0 (.ref aC) f_aW_2 f_aW_3 f_aW_4 f_aW_5) [2] rfl 0 10 rfl rfl (cV 0 htl lk_RX11_116 mI_X10_lawInForce mS_X10_lawInForce mN_RX10 mC_X10_lawInForce ok_X10_lawInForce rfl rfl ⟨(Nat.le_of_ble_eq_true rfl), (Nat.le_of_ble_eq_true rfl)⟩) rfl hl.1 rfl (Nat.le_of_ble_eq_true rfl) dX11_gangs_70 ⟨(Nat.le_of_ble_eq_true rfl), (Nat.le_of_ble_eq_true rfl)⟩) (fun r hw => ?_)
    clear hw
    refine W.eq (g2 := F0 m 73 ls [.null, .ref aW, .ref aA]) rfl ?_
    refine mv (wr := [(h0, .inr (11, [.ref aA, .ref aS, f_h0_2, f_h0_3, f_h0_4, f_h0_5, .ref aY, f_h0_7, f_h0_8, f_h0_9, f_h0_10, f_h0_11, .ref h1, .int lr])), (aS, .inr (7, [.ref aW, .ref aD, f_aS_2, f_aS_3, f_aS_4])), (aW, .inr (10, [f_aW_0, .ref aC, f_aW_2, f_aW_3, f_aW_4, f_aW_5, .int (-1)])), (aC, .inr (1, [f_aC_0, f_aC_1, .int 0])), (aY, .inr (9, [f_aY_0, f_aY_1, f_aY_2, f_aY_3, f_aY_4, f_aY_5, .ref hd, f_aY_7, .ref hf, f_aY_9, f_aY_10])), (hf, .inl (cs 0, 448, .inl ff))]) (mkV (rest := []) ⟨hx, hb, hml, hown, htl⟩ hN hK hP hD (c_X0_turnTo l G cs aA aW f_aA_0 f_aA_1 f_aA_2 f_aA_3 f_aA_4 f_aA_5 f_aA_6 f_aA_7 f_aA_8 _) [4] rfl rfl 0 0 rfl rfl (cV 2 htl lk_RX11_120 mI_X0_turnTo mS_X0_turnTo mN_RX0 mC_X0_turnTo ok_X0_turnTo rfl rfl ⟨(Nat.le_of_ble_eq_true rfl), (Nat.le_of_ble_eq_true rfl)⟩) rfl hl.1 rfl (Nat.le_of_ble_eq_true rfl) dX11_gangs_73 ⟨(Nat.le_of_ble_eq_true rfl), (Nat.le_of_ble_eq_true rfl)⟩) hP hD hS hA [4] [0, 1, 2, 3, 5, 6] rfl rfl rfl (by decide) (fun u_73 H locs hw hP hD hS => ?_)
    have hP : va_P G vwCl [(h0, .inr (11, [.ref aA, .ref aS, f_h0_2, f_h0_3, f_h0_4, f_h0_5, .ref aY, f_h0_7, f_h0_8, f_h0_9, f_h0_10, f_h0_11, .ref h1, .int lr])), (aS, .inr (7, [.ref aW, .ref aD, f_aS_2, f_aS_3, f_aS_4])), (aW, .inr (10, [f_aW_0, .ref aC, f_aW_2, f_aW_3, f_aW_4, f_aW_5, .int (-1)])), (aC, .inr (1, [f_aC_0, f_aC_1, .int 0])), (aY, .inr (9, [f_aY_0, f_aY_1, f_aY_2, f_aY_3, f_aY_4, f_aY_5, .ref hd, f_aY_7, .ref hf, f_aY_9, f_aY_10])), (hf, .inl (cs 0, 448, .inl ff)), (aA, .inr (0, [f_aA_0, .ref aW, .null, f_aA_3, f_aA_4, f_aA_5, f_aA_6, f_aA_7, f_aA_8]))] H := hP
    have hD : va_D A [(h0, .inr (11, [.ref aA, .ref aS, f_h0_2, f_h0_3, f_h0_4, f_h0_5, .ref aY, f_h0_7, f_h0_8, f_h0_9, f_h0_10, f_h0_11, .ref h1, .int lr])), (aS, .inr (7, [.ref aW, .ref aD, f_aS_2, f_aS_3, f_aS_4])), (aW, .inr (10, [f_aW_0, .ref aC, f_aW_2, f_aW_3, f_aW_4, f_aW_5, .int (-1)])), (aC, .inr (1, [f_aC_0, f_aC_1, .int 0])), (aY, .inr (9, [f_aY_0, f_aY_1, f_aY_2, f_aY_3, f_aY_4, f_aY_5, .ref hd, f_aY_7, .ref hf, f_aY_9, f_aY_10])), (hf, .inl (cs 0, 448, .inl ff)), (aA, .inr (0, [f_aA_0, .ref aW, .null, f_aA_3, f_aA_4, f_aA_5, f_aA_6, f_aA_7, f_aA_8]))] := hD
    refine lv_aload_n hx hb dX11_gangs_76 rfl (lv_at hl 1 rfl) ?_
    refine va_get (ci := 11) (v := .ref aY) (C := RX11) (T := TX11) (N := 14) hx hb htl inX11 hown hK hP 0 rfl rfl 6 (by decide) (htl _ fl_RX11_49) (fun _ h9 => h9) rfl dX11_gangs_77 ?_
    refine lv_aload_n hx hb dX11_gangs_80 rfl (lv_at hl 1 rfl) ?_
    refine va_get (ci := 11) (v := .ref aS) (C := RX11) (T := TX11) (N := 14) hx hb htl inX11 hown hK hP 0 rfl rfl 1 (by decide) (htl _ fl_RX11_21) (fun _ h9 => h9) rfl dX11_gangs_81 ?_
    refine va_get (ci := 7) (v := .ref aW) (C := RX7) (T := TX7) (N := 5) hx hb htl inX7 hown hK hP 1 rfl rfl 0 (by decide) (htl _ fl_RX11_78) (fun _ h9 => h9) rfl dX11_gangs_84 ?_
    refine lv_aload_n hx hb dX11_gangs_87 rfl (lv_at hl 1 rfl) ?_
    refine va_get (ci := 11) (v := .ref aA) (C := RX11) (T := TX11) (N := 14) hx hb htl inX11 hown hK hP 0 rfl rfl 0 (by decide) (htl _ fl_RX11_10) (fun _ h9 => h9) rfl dX11_gangs_88 ?_
    refine lv_lload_n hx hb dX11_gangs_91 rfl (lv_at hl 2 rfl) ?_
    refine mi (wr := [(h0, .inr (11, [.ref aA, .ref aS, f_h0_2, f_h0_3, f_h0_4, f_h0_5, .ref aY, f_h0_7, f_h0_8, f_h0_9, f_h0_10, f_h0_11, .ref h1, .int lr])), (aS, .inr (7, [.ref aW, .ref aD, f_aS_2, f_aS_3, f_aS_4])), (aA, .inr (0, [f_aA_0, .ref aW, .null, f_aA_3, f_aA_4, f_aA_5, f_aA_6, f_aA_7, f_aA_8]))]) (mkV (rest := []) ⟨hx, hb, hml, hown, htl⟩ hN hK hP hD (c_X9_share_0 l G cs aY aW aA f_aY_0 f_aY_1 f_aY_2 f_aY_3 f_aY_4 f_aY_5 hd f_aY_7 hf f_aY_9 f_aY_10 f_aW_0 aC f_aW_2 f_aW_3 f_aW_4 f_aW_5 (.int (-1)) f_aC_0 f_aC_1 (ff) _) [4, 2, 3, 5] rfl rfl 0 9 rfl rfl (cV 3 htl lk_RX11_314 mI_X9_share mS_X9_share mN_RX9 mC_X9_share ok_X9_share rfl rfl ⟨(Nat.le_of_ble_eq_true rfl), (Nat.le_of_ble_eq_true rfl)⟩) rfl hl.1 rfl (Nat.le_of_ble_eq_true rfl) dX11_gangs_92 ⟨(Nat.le_of_ble_eq_true rfl), (Nat.le_of_ble_eq_true rfl)⟩) hP hD hS hA [4, 2, 3, 5] [0, 1, 6] rfl rfl rfl (by decide) (fun r u_92 H locs hw hP hD hS => ?_)
    have hP : va_P G vwCl [(h0, .inr (11, [.ref aA, .ref aS, f_h0_2, f_h0_3, f_h0_4, f_h0_5, .ref aY, f_h0_7, f_h0_8, f_h0_9, f_h0_10, f_h0_11, .ref h1, .int lr])), (aS, .inr (7, [.ref aW, .ref aD, f_aS_2, f_aS_3, f_aS_4])), (aA, .inr (0, [f_aA_0, .ref aW, .null, f_aA_3, f_aA_4, f_aA_5, f_aA_6, f_aA_7, f_aA_8])), (aY, .inr (9, [f_aY_0, f_aY_1, f_aY_2, f_aY_3, f_aY_4, .int 0, .ref hd, f_aY_7, .ref hf, f_aY_9, f_aY_10]))] H := hP
    have hD : va_D A [(h0, .inr (11, [.ref aA, .ref aS, f_h0_2, f_h0_3, f_h0_4, f_h0_5, .ref aY, f_h0_7, f_h0_8, f_h0_9, f_h0_10, f_h0_11, .ref h1, .int lr])), (aS, .inr (7, [.ref aW, .ref aD, f_aS_2, f_aS_3, f_aS_4])), (aA, .inr (0, [f_aA_0, .ref aW, .null, f_aA_3, f_aA_4, f_aA_5, f_aA_6, f_aA_7, f_aA_8])), (aY, .inr (9, [f_aY_0, f_aY_1, f_aY_2, f_aY_3, f_aY_4, .int 0, .ref hd, f_aY_7, .ref hf, f_aY_9, f_aY_10]))] := hD
    obtain rfl : r = 1 := hw.1.trans (by first | decide +kernel | rfl)
    refine lv_if_ne (tgt := 100) hx hb dX11_gangs_95 (by decide) (fun _ => ?_) (fun h => absurd h (by decide))
    refine lv_iload_n hx hb dX11_gangs_100 rfl (lv_at hl 3 rfl) ?_
    refine lv_if_ne (tgt := 114) hx hb dX11_gangs_101 (by decide) (fun h => absurd (iw_one c_47) h) (fun _ => ?_)
    refine lv_aload_n hx hb dX11_gangs_104 rfl (lv_at hl 1 rfl) ?_
    refine va_get (ci := 11) (v := .ref aY) (C := RX11) (T := TX11) (N := 14) hx hb htl inX11 hown hK hP 0 rfl rfl 6 (by decide) (htl _ fl_RX11_49) (fun _ h9 => h9) rfl dX11_gangs_105 ?_
    refine va_get (ci := 9) (v := .int 0) (C := RX9) (T := TX9) (N := 11) hx hb htl inX9 hown hK hP 3 rfl rfl 5 (by decide) (htl _ fl_RX11_296) (fun _ h9 => h9) rfl dX11_gangs_108 ?_
    refine lv_goto (tgt := 125) hx hb dX11_gangs_111 (by decide) ?_
    exact W.iret (v := 0) hx hb hr (fun t ht hW => ⟨⟨0, (), rfl, (by unfold sp_X11_gangs_0; rw [if_neg c_47]), ⟨fun k q h => by simp at h, va_K.moved hW.alike hK, ⟨fun i j p q h => by simp at h, fun k q h => by simp at h⟩⟩⟩, hS.F ht⟩) hS.2.2 dX11_gangs_125
  · refine lv_iconst (v := (-1)) hx hb dX11_gangs_50 (by decide) ?_
    exact W.iret (v := (-1)) hx hb hr (fun t ht hW => ⟨⟨(-1), (), rfl, (by unfold sp_X11_gangs_0; rw [if_pos c_47]), ⟨fun k q h => by simp at h, va_K.moved hW.alike hK, ⟨fun i j p q h => by simp at h, fun k q h => by simp at h⟩⟩⟩, hS.F ht⟩) hS.2.2 dX11_gangs_51

set_option maxHeartbeats 1000000 in
set_option maxRecDepth 100000 in
theorem c_X12_weigh_0 (l : Launch) (G : va_G) (cs : Nat → ClassId) (h0 : Nat) (f_h0_0 : Value) (f_h0_1 : Value) (f_h0_2 : Value) (f_h0_3 : Value) (f_h0_4 : Value) (f_h0_5 : Value) (f_h0_6 : Value) (f_h0_7 : Value) (f_h0_8 : Value) (f_h0_9 : Value) (f_h0_10 : Value) (f_h0_11 : Value) (f_h0_12 : Value) (f_h0_13 : Value) (f_h0_14 : Value) (f_h0_15 : Value) (f_h0_16 : Value) (f_h0_17 : Value) (f_h0_18 : Value) (f_h0_19 : Value) (f_h0_20 : Value) (f_h0_21 : Value) (f_h0_22 : Value) (f_h0_23 : Value) (f_h0_24 : Value) (f_h0_25 : Value) (f_h0_26 : Value) (f_h0_27 : Value) (f_h0_28 : Value) (f_h0_29 : Value) (f_h0_30 : Value) (f_h0_31 : Value) (f_h0_32 : Value) (f_h0_33 : Value) (f_h0_34 : Value) (f_h0_35 : Value) (f_h0_36 : Value) (f_h0_37 : Value) (f_h0_38 : Value) (f_h0_39 : Value) (f_h0_40 : Value) (f_h0_41 : Value) (f_h0_42 : Value) (f_h0_43 : Value) (f_h0_44 : Value) (f_h0_45 : Value) (f_h0_47 : Value) (f_h0_48 : Value) (f_h0_49 : Value) (f_h0_50 : Value) (f_h0_51 : Value) (f_h0_52 : Value) (f_h0_53 : Value) (f_h0_54 : Value) (f_h0_55 : Value) (f_h0_56 : Value) (f_h0_57 : Value) (f_h0_58 : Value) (sz : Nat) : Met l yX12_weighGangs (Cond.code yX12_weighGangs cX12_weighGangs 6 none :: gW) ({ frames := 0, cells := 0, slots := 0, locals := 0 }) (va_Pc [.ref h0, .int 0, .int 0] (Pre G cs [(h0, .inr (12, [f_h0_0, f_h0_1, f_h0_2, f_h0_3, f_h0_4, f_h0_5, f_h0_6, f_h0_7, f_h0_8, f_h0_9, f_h0_10, f_h0_11, f_h0_12, f_h0_13, f_h0_14, f_h0_15, f_h0_16, f_h0_17, f_h0_18, f_h0_19, f_h0_20, f_h0_21, f_h0_22, f_h0_23, f_h0_24, f_h0_25, f_h0_26, f_h0_27, f_h0_28, f_h0_29, f_h0_30, f_h0_31, f_h0_32, f_h0_33, f_h0_34, f_h0_35, f_h0_36, f_h0_37, f_h0_38, f_h0_39, f_h0_40, f_h0_41, f_h0_42, f_h0_43, f_h0_44, f_h0_45, .int 100000000, f_h0_47, f_h0_48, f_h0_49, f_h0_50, f_h0_51, f_h0_52, f_h0_53, f_h0_54, f_h0_55, f_h0_56, f_h0_57, f_h0_58]))] sz)) (va_Qv (fun (u : Unit) => True) (fun (u : Unit) t => Aft G cs (va_A [(h0, .inr (12, [f_h0_0, f_h0_1, f_h0_2, f_h0_3, f_h0_4, f_h0_5, f_h0_6, f_h0_7, f_h0_8, f_h0_9, f_h0_10, f_h0_11, f_h0_12, f_h0_13, f_h0_14, f_h0_15, f_h0_16, f_h0_17, f_h0_18, f_h0_19, f_h0_20, f_h0_21, f_h0_22, f_h0_23, f_h0_24, f_h0_25, f_h0_26, f_h0_27, f_h0_28, f_h0_29, f_h0_30, f_h0_31, f_h0_32, f_h0_33, f_h0_34, f_h0_35, f_h0_36, f_h0_37, f_h0_38, f_h0_39, f_h0_40, f_h0_41, f_h0_42, f_h0_43, f_h0_44, f_h0_45, .int 100000000, f_h0_47, f_h0_48, f_h0_49, f_h0_50, f_h0_51, f_h0_52, f_h0_53, f_h0_54, f_h0_55, f_h0_56, f_h0_57, f_h0_58]))] sz) [(h0, .inr (12, [f_h0_0, f_h0_1, f_h0_2, f_h0_3, f_h0_4, f_h0_5, f_h0_6, f_h0_7, f_h0_8, f_h0_9, f_h0_10, f_h0_11, f_h0_12, f_h0_13, f_h0_14, f_h0_15, f_h0_16, f_h0_17, f_h0_18, f_h0_19, f_h0_20, f_h0_21, f_h0_22, f_h0_23, f_h0_24, f_h0_25, f_h0_26, f_h0_27, f_h0_28, f_h0_29, f_h0_30, f_h0_31, f_h0_32, f_h0_33, f_h0_34, f_h0_35, f_h0_36, f_h0_37, f_h0_38, f_h0_39, f_h0_40, f_h0_41, f_h0_42, f_h0_43, f_h0_44, f_h0_45, .int 0, f_h0_47, f_h0_48, f_h0_49, f_h0_50, f_h0_51, f_h0_52, f_h0_53, f_h0_54, f_h0_55, f_h0_56, f_h0_57, f_h0_58]))] t) (va_A [(h0, .inr (12, [f_h0_0, f_h0_1, f_h0_2, f_h0_3, f_h0_4, f_h0_5, f_h0_6, f_h0_7, f_h0_8, f_h0_9, f_h0_10, f_h0_11, f_h0_12, f_h0_13, f_h0_14, f_h0_15, f_h0_16, f_h0_17, f_h0_18, f_h0_19, f_h0_20, f_h0_21, f_h0_22, f_h0_23, f_h0_24, f_h0_25, f_h0_26, f_h0_27, f_h0_28, f_h0_29, f_h0_30, f_h0_31, f_h0_32, f_h0_33, f_h0_34, f_h0_35, f_h0_36, f_h0_37, f_h0_38, f_h0_39, f_h0_40, f_h0_41, f_h0_42, f_h0_43, f_h0_44, f_h0_45, .int 100000000, f_h0_47, f_h0_48, f_h0_49, f_h0_50, f_h0_51, f_h0_52, f_h0_53, f_h0_54, f_h0_55, f_h0_56, f_h0_57, f_h0_58]))] sz)) 0 0 (va_A [(h0, .inr (12, [f_h0_0, f_h0_1, f_h0_2, f_h0_3, f_h0_4, f_h0_5, f_h0_6, f_h0_7, f_h0_8, f_h0_9, f_h0_10, f_h0_11, f_h0_12, f_h0_13, f_h0_14, f_h0_15, f_h0_16, f_h0_17, f_h0_18, f_h0_19, f_h0_20, f_h0_21, f_h0_22, f_h0_23, f_h0_24, f_h0_25, f_h0_26, f_h0_27, f_h0_28, f_h0_29, f_h0_30, f_h0_31, f_h0_32, f_h0_33, f_h0_34, f_h0_35, f_h0_36, f_h0_37, f_h0_38, f_h0_39, f_h0_40, f_h0_41, f_h0_42, f_h0_43, f_h0_44, f_h0_45, .int 100000000, f_h0_47, f_h0_48, f_h0_49, f_h0_50, f_h0_51, f_h0_52, f_h0_53, f_h0_54, f_h0_55, f_h0_56, f_h0_57, f_h0_58]))] sz) := by
  refine Met.ofW (cc := cX12_weighGangs) (maxL := 6) (ret := none) (by decide) rfl ?_
  intro p e s m args below meth c s₁ B hml hv
  obtain ⟨rfl, hsz, hP, hK, hD0, hN⟩ := hv
  have hx := B.exec
  have hb := B.bytes
  have hr := B.returns
  have hts := atoms_spec (ws := Cond.code yX12_weighGangs cX12_weighGangs 6 none :: gW) B.pre
  have htl : ∀ w ∈ gW, w.before _ s = true := fun w h => hts w (List.mem_cons_of_mem _ h)
  have hown : s.vm.findClass RX12 = some m.cls := findClass_of_methodNamed B.named
  have hlocks := B.notSynchronized
  subst hsz
  have hD := hD0.self (sz := s.heap.size)
  generalize hAe : va_A [(h0, .inr (12, [f_h0_0, f_h0_1, f_h0_2, f_h0_3, f_h0_4, f_h0_5, f_h0_6, f_h0_7, f_h0_8, f_h0_9, f_h0_10, f_h0_11, f_h0_12, f_h0_13, f_h0_14, f_h0_15, f_h0_16, f_h0_17, f_h0_18, f_h0_19, f_h0_20, f_h0_21, f_h0_22, f_h0_23, f_h0_24, f_h0_25, f_h0_26, f_h0_27, f_h0_28, f_h0_29, f_h0_30, f_h0_31, f_h0_32, f_h0_33, f_h0_34, f_h0_35, f_h0_36, f_h0_37, f_h0_38, f_h0_39, f_h0_40, f_h0_41, f_h0_42, f_h0_43, f_h0_44, f_h0_45, .int 100000000, f_h0_47, f_h0_48, f_h0_49, f_h0_50, f_h0_51, f_h0_52, f_h0_53, f_h0_54, f_h0_55, f_h0_56, f_h0_57, f_h0_58]))] s.heap.size = A at hD ⊢
  have hA : ∀ q : Nat, s.heap.size ≤ q → A q := fun q h => by rw [← hAe]; exact Or.inr h
  have hS : va_S A s.heap s.heap [] := va_S.rf
  have hl := lv_entry ([.ref h0, .int 0, .int 0]) (n := 6) (Nat.le_of_ble_eq_true rfl)
  rw [lg_entry_eq]
  generalize (lg_sl ([.ref h0, .int 0, .int 0]) ++ List.replicate (6 - (lg_sl ([.ref h0, .int 0, .int 0])).length) Slot.unset).toArray = ls at hl ⊢
  have hl : lv_has ls 6 [(0, .ref h0), (1, .int 0), (2, .int 0)] := hl
  refine lv_iconst (v := 0) hx hb dX12_weighGangs_0 (by decide) ?_
  refine lv_istore_n (lv' := [(3, .int 0), (0, .ref h0), (1, .int 0), (2, .int 0)]) hx hb dX12_weighGangs_1 rfl hl (by decide) rfl (fun ls hl => ?_)
  refine lv_iconst (v := 0) hx hb dX12_weighGangs_2 (by decide) ?_
  refine lv_istore (lv' := [(4, .int 0), (3, .int 0), (0, .ref h0), (1, .int 0), (2, .int 0)]) hx hb dX12_weighGangs_3 hl (by decide) rfl (fun ls hl => ?_)
  refine lv_iconst (v := 0) hx hb dX12_weighGangs_5 (by decide) ?_
  refine lv_istore (lv' := [(5, .int 0), (4, .int 0), (3, .int 0), (0, .ref h0), (1, .int 0), (2, .int 0)]) hx hb dX12_weighGangs_6 hl (by decide) rfl (fun ls hl => ?_)
  refine lv_iload hx hb dX12_weighGangs_8 (lv_at hl 0 rfl) ?_
  refine lv_iload_n hx hb dX12_weighGangs_10 rfl (lv_at hl 4 rfl) ?_
  refine lv_icmp_ge (tgt := 77) hx hb dX12_weighGangs_11 (by decide) (fun _ => ?_) (fun h => absurd (by decide) h)
  refine lv_iload hx hb dX12_weighGangs_77 (lv_at hl 1 rfl) ?_
  refine lv_iload_n hx hb dX12_weighGangs_79 rfl (lv_at hl 5 rfl) ?_
  refine lv_icmp_ne (tgt := 146) hx hb dX12_weighGangs_80 (by decide) (fun h => absurd (by decide) h) (fun _ => ?_)
  refine lv_iload_n hx hb dX12_weighGangs_83 rfl (lv_at hl 2 rfl) ?_
  refine lv_aload_n hx hb dX12_weighGangs_84 rfl (lv_at hl 3 rfl) ?_
  refine va_get (ci := 12) (v := .int 100000000) (C := RX12) (T := TX12) (N := 59) hx hb htl inX12 hown hK hP 0 rfl rfl 46 (by decide) (htl _ fl_RX12_516) (fun _ h9 => h9) rfl dX12_weighGangs_85 ?_
  refine lv_icmp_ge (tgt := 146) hx hb dX12_weighGangs_88 (by decide) (fun h => absurd h (by decide)) (fun _ => ?_)
  refine lv_aload_n hx hb dX12_weighGangs_91 rfl (lv_at hl 3 rfl) ?_
  refine lv_iload_n hx hb dX12_weighGangs_92 rfl (lv_at hl 2 rfl) ?_
  refine va_put (ci := 12) (v := .int 0) (ty := .int) (C := RX12) (T := TX12) (N := 59) hx hb htl inX12 tyX12 tyX12_ok nmX12 hown hK hP hD hS 0 rfl rfl 46 (by decide) (htl _ fl_RX12_516) (fun _ h9 => h9) rfl (by decide +kernel) (by first | rfl | decide) (by first | rfl | decide) (Nat.le_of_ble_eq_true rfl) dX12_weighGangs_93 (fun H locs hP hD hS => ?_)
  have hP : va_P G vwCl [(h0, .inr (12, [f_h0_0, f_h0_1, f_h0_2, f_h0_3, f_h0_4, f_h0_5, f_h0_6, f_h0_7, f_h0_8, f_h0_9, f_h0_10, f_h0_11, f_h0_12, f_h0_13, f_h0_14, f_h0_15, f_h0_16, f_h0_17, f_h0_18, f_h0_19, f_h0_20, f_h0_21, f_h0_22, f_h0_23, f_h0_24, f_h0_25, f_h0_26, f_h0_27, f_h0_28, f_h0_29, f_h0_30, f_h0_31, f_h0_32, f_h0_33, f_h0_34, f_h0_35, f_h0_36, f_h0_37, f_h0_38, f_h0_39, f_h0_40, f_h0_41, f_h0_42, f_h0_43, f_h0_44, f_h0_45, .int 0, f_h0_47, f_h0_48, f_h0_49, f_h0_50, f_h0_51, f_h0_52, f_h0_53, f_h0_54, f_h0_55, f_h0_56, f_h0_57, f_h0_58]))] H := hP
  have hD : va_D A [(h0, .inr (12, [f_h0_0, f_h0_1, f_h0_2, f_h0_3, f_h0_4, f_h0_5, f_h0_6, f_h0_7, f_h0_8, f_h0_9, f_h0_10, f_h0_11, f_h0_12, f_h0_13, f_h0_14, f_h0_15, f_h0_16, f_h0_17, f_h0_18, f_h0_19, f_h0_20, f_h0_21, f_h0_22, f_h0_23, f_h0_24, f_h0_25, f_h0_26, f_h0_27, f_h0_28, f_h0_29, f_h0_30, f_h0_31, f_h0_32, f_h0_33, f_h0_34, f_h0_35, f_h0_36, f_h0_37, f_h0_38, f_h0_39, f_h0_40, f_h0_41, f_h0_42, f_h0_43, f_h0_44, f_h0_45, .int 0, f_h0_47, f_h0_48, f_h0_49, f_h0_50, f_h0_51, f_h0_52, f_h0_53, f_h0_54, f_h0_55, f_h0_56, f_h0_57, f_h0_58]))] := hD
  refine lv_iconst (v := 0) hx hb dX12_weighGangs_96 (by decide) ?_
  refine lv_istore (lv' := [(5, .int 0), (4, .int 0), (3, .int 0), (0, .ref h0), (1, .int 0), (2, .int 0)]) hx hb dX12_weighGangs_97 hl (by decide) rfl (fun ls hl => ?_)
  refine lv_iload hx hb dX12_weighGangs_99 (lv_at hl 0 rfl) ?_
  refine lv_iload_n hx hb dX12_weighGangs_101 rfl (lv_at hl 4 rfl) ?_
  refine lv_icmp_ge (tgt := 146) hx hb dX12_weighGangs_102 (by decide) (fun _ => ?_) (fun h => absurd (by decide) h)
  have hP9 := hP.pick (wc := [(h0, .inr (12, [f_h0_0, f_h0_1, f_h0_2, f_h0_3, f_h0_4, f_h0_5, f_h0_6, f_h0_7, f_h0_8, f_h0_9, f_h0_10, f_h0_11, f_h0_12, f_h0_13, f_h0_14, f_h0_15, f_h0_16, f_h0_17, f_h0_18, f_h0_19, f_h0_20, f_h0_21, f_h0_22, f_h0_23, f_h0_24, f_h0_25, f_h0_26, f_h0_27, f_h0_28, f_h0_29, f_h0_30, f_h0_31, f_h0_32, f_h0_33, f_h0_34, f_h0_35, f_h0_36, f_h0_37, f_h0_38, f_h0_39, f_h0_40, f_h0_41, f_h0_42, f_h0_43, f_h0_44, f_h0_45, .int 0, f_h0_47, f_h0_48, f_h0_49, f_h0_50, f_h0_51, f_h0_52, f_h0_53, f_h0_54, f_h0_55, f_h0_56, f_h0_57, f_h0_58]))]) (is := [0]) rfl
  have hD9 := hD.sub (ws' := [(h0, .inr (12, [f_h0_0, f_h0_1, f_h0_2, f_h0_3, f_h0_4, f_h0_5, f_h0_6, f_h0_7, f_h0_8, f_h0_9, f_h0_10, f_h0_11, f_h0_12, f_h0_13, f_h0_14, f_h0_15, f_h0_16, f_h0_17, f_h0_18, f_h0_19, f_h0_20, f_h0_21, f_h0_22, f_h0_23, f_h0_24, f_h0_25, f_h0_26, f_h0_27, f_h0_28, f_h0_29, f_h0_30, f_h0_31, f_h0_32, f_h0_33, f_h0_34, f_h0_35, f_h0_36, f_h0_37, f_h0_38, f_h0_39, f_h0_40, f_h0_41, f_h0_42, f_h0_43, f_h0_44, f_h0_45, .int 0, f_h0_47, f_h0_48, f_h0_49, f_h0_50, f_h0_51, f_h0_52, f_h0_53, f_h0_54, f_h0_55, f_h0_56, f_h0_57, f_h0_58]))]) [0] rfl rfl
  exact W.vret hx hb hr (fun t ht hW => ⟨⟨(), rfl, trivial, ⟨by rw [ht]; exact hP9, va_K.moved hW.alike hK, hD9⟩⟩, hS.F ht⟩) hS.2.2 dX12_weighGangs_146

set_option maxHeartbeats 1000000 in
set_option maxRecDepth 100000 in
theorem c_X12_find_0 (l : Launch) (G : va_G) (cs : Nat → ClassId) (h0 : Nat) (f_h0_0 : Value) (f_h0_1 : Value) (f_h0_2 : Value) (ho : Nat) (f_h0_4 : Value) (f_h0_5 : Value) (f_h0_6 : Value) (f_h0_7 : Value) (f_h0_8 : Value) (f_h0_9 : Value) (f_h0_10 : Value) (f_h0_11 : Value) (f_h0_12 : Value) (f_h0_13 : Value) (f_h0_14 : Value) (f_h0_15 : Value) (f_h0_16 : Value) (f_h0_17 : Value) (f_h0_18 : Value) (f_h0_19 : Value) (f_h0_20 : Value) (f_h0_21 : Value) (f_h0_22 : Value) (f_h0_23 : Value) (f_h0_24 : Value) (f_h0_25 : Value) (f_h0_26 : Value) (f_h0_27 : Value) (f_h0_28 : Value) (f_h0_29 : Value) (f_h0_30 : Value) (f_h0_31 : Value) (f_h0_32 : Value) (f_h0_33 : Value) (f_h0_34 : Value) (f_h0_35 : Value) (f_h0_36 : Value) (f_h0_37 : Value) (f_h0_38 : Value) (f_h0_39 : Value) (f_h0_40 : Value) (f_h0_41 : Value) (f_h0_42 : Value) (f_h0_43 : Value) (hg : Nat) (f_h0_45 : Value) (f_h0_46 : Value) (f_h0_47 : Value) (f_h0_48 : Value) (f_h0_49 : Value) (f_h0_50 : Value) (f_h0_51 : Value) (f_h0_52 : Value) (f_h0_53 : Value) (f_h0_54 : Value) (f_h0_55 : Value) (f_h0_56 : Value) (f_h0_57 : Value) (f_h0_58 : Value) (gf : Nat → Int32) (sz : Nat) : Met l yX12_findGangs (Cond.code yX12_findGangs cX12_findGangs 4 none :: gW) ({ frames := 1, cells := 0, slots := 0, locals := 25 }) (va_Pc [.ref h0, .int 0] (Pre G cs [(h0, .inr (12, [f_h0_0, f_h0_1, f_h0_2, .ref ho, f_h0_4, f_h0_5, f_h0_6, f_h0_7, f_h0_8, f_h0_9, f_h0_10, f_h0_11, f_h0_12, f_h0_13, f_h0_14, f_h0_15, f_h0_16, f_h0_17, f_h0_18, f_h0_19, f_h0_20, f_h0_21, f_h0_22, f_h0_23, f_h0_24, f_h0_25, f_h0_26, f_h0_27, f_h0_28, f_h0_29, f_h0_30, f_h0_31, f_h0_32, f_h0_33, f_h0_34, f_h0_35, f_h0_36, f_h0_37, f_h0_38, f_h0_39, f_h0_40, f_h0_41, f_h0_42, f_h0_43, .ref hg, f_h0_45, f_h0_46, f_h0_47, f_h0_48, f_h0_49, f_h0_50, f_h0_51, f_h0_52, f_h0_53, f_h0_54, f_h0_55, f_h0_56, f_h0_57, f_h0_58])), (ho, .inl (cs 0, 5650, .inl mRow)), (hg, .inl (cs 0, 7, .inl gf))] sz)) (va_Qv (fun (u : Unit) => True) (fun (u : Unit) t => Aft G cs (va_A [(h0, .inr (12, [f_h0_0, f_h0_1, f_h0_2, .ref ho, f_h0_4, f_h0_5, f_h0_6, f_h0_7, f_h0_8, f_h0_9, f_h0_10, f_h0_11, f_h0_12, f_h0_13, f_h0_14, f_h0_15, f_h0_16, f_h0_17, f_h0_18, f_h0_19, f_h0_20, f_h0_21, f_h0_22, f_h0_23, f_h0_24, f_h0_25, f_h0_26, f_h0_27, f_h0_28, f_h0_29, f_h0_30, f_h0_31, f_h0_32, f_h0_33, f_h0_34, f_h0_35, f_h0_36, f_h0_37, f_h0_38, f_h0_39, f_h0_40, f_h0_41, f_h0_42, f_h0_43, .ref hg, f_h0_45, f_h0_46, f_h0_47, f_h0_48, f_h0_49, f_h0_50, f_h0_51, f_h0_52, f_h0_53, f_h0_54, f_h0_55, f_h0_56, f_h0_57, f_h0_58])), (ho, .inl (cs 0, 5650, .inl mRow)), (hg, .inl (cs 0, 7, .inl gf))] sz) [(h0, .inr (12, [f_h0_0, f_h0_1, f_h0_2, .ref ho, f_h0_4, f_h0_5, f_h0_6, f_h0_7, f_h0_8, f_h0_9, f_h0_10, f_h0_11, f_h0_12, f_h0_13, f_h0_14, f_h0_15, f_h0_16, f_h0_17, f_h0_18, f_h0_19, f_h0_20, f_h0_21, f_h0_22, f_h0_23, f_h0_24, f_h0_25, f_h0_26, f_h0_27, f_h0_28, f_h0_29, f_h0_30, f_h0_31, f_h0_32, f_h0_33, f_h0_34, f_h0_35, f_h0_36, f_h0_37, f_h0_38, f_h0_39, f_h0_40, f_h0_41, f_h0_42, f_h0_43, .ref hg, f_h0_45, .int 0, f_h0_47, f_h0_48, f_h0_49, f_h0_50, f_h0_51, f_h0_52, f_h0_53, f_h0_54, f_h0_55, f_h0_56, f_h0_57, f_h0_58]))] t) (va_A [(h0, .inr (12, [f_h0_0, f_h0_1, f_h0_2, .ref ho, f_h0_4, f_h0_5, f_h0_6, f_h0_7, f_h0_8, f_h0_9, f_h0_10, f_h0_11, f_h0_12, f_h0_13, f_h0_14, f_h0_15, f_h0_16, f_h0_17, f_h0_18, f_h0_19, f_h0_20, f_h0_21, f_h0_22, f_h0_23, f_h0_24, f_h0_25, f_h0_26, f_h0_27, f_h0_28, f_h0_29, f_h0_30, f_h0_31, f_h0_32, f_h0_33, f_h0_34, f_h0_35, f_h0_36, f_h0_37, f_h0_38, f_h0_39, f_h0_40, f_h0_41, f_h0_42, f_h0_43, .ref hg, f_h0_45, f_h0_46, f_h0_47, f_h0_48, f_h0_49, f_h0_50, f_h0_51, f_h0_52, f_h0_53, f_h0_54, f_h0_55, f_h0_56, f_h0_57, f_h0_58])), (ho, .inl (cs 0, 5650, .inl mRow)), (hg, .inl (cs 0, 7, .inl gf))] sz)) 0 0 (va_A [(h0, .inr (12, [f_h0_0, f_h0_1, f_h0_2, .ref ho, f_h0_4, f_h0_5, f_h0_6, f_h0_7, f_h0_8, f_h0_9, f_h0_10, f_h0_11, f_h0_12, f_h0_13, f_h0_14, f_h0_15, f_h0_16, f_h0_17, f_h0_18, f_h0_19, f_h0_20, f_h0_21, f_h0_22, f_h0_23, f_h0_24, f_h0_25, f_h0_26, f_h0_27, f_h0_28, f_h0_29, f_h0_30, f_h0_31, f_h0_32, f_h0_33, f_h0_34, f_h0_35, f_h0_36, f_h0_37, f_h0_38, f_h0_39, f_h0_40, f_h0_41, f_h0_42, f_h0_43, .ref hg, f_h0_45, f_h0_46, f_h0_47, f_h0_48, f_h0_49, f_h0_50, f_h0_51, f_h0_52, f_h0_53, f_h0_54, f_h0_55, f_h0_56, f_h0_57, f_h0_58])), (ho, .inl (cs 0, 5650, .inl mRow)), (hg, .inl (cs 0, 7, .inl gf))] sz) := by
  refine Met.ofW (cc := cX12_findGangs) (maxL := 4) (ret := none) (by decide) rfl ?_
  intro p e s m args below meth c s₁ B hml hv
  obtain ⟨rfl, hsz, hP, hK, hD0, hN⟩ := hv
  have hx := B.exec
  have hb := B.bytes
  have hr := B.returns
  have hts := atoms_spec (ws := Cond.code yX12_findGangs cX12_findGangs 4 none :: gW) B.pre
  have htl : ∀ w ∈ gW, w.before _ s = true := fun w h => hts w (List.mem_cons_of_mem _ h)
  have hown : s.vm.findClass RX12 = some m.cls := findClass_of_methodNamed B.named
  have hlocks := B.notSynchronized
  subst hsz
  have hD := hD0.self (sz := s.heap.size)
  generalize hAe : va_A [(h0, .inr (12, [f_h0_0, f_h0_1, f_h0_2, .ref ho, f_h0_4, f_h0_5, f_h0_6, f_h0_7, f_h0_8, f_h0_9, f_h0_10, f_h0_11, f_h0_12, f_h0_13, f_h0_14, f_h0_15, f_h0_16, f_h0_17, f_h0_18, f_h0_19, f_h0_20, f_h0_21, f_h0_22, f_h0_23, f_h0_24, f_h0_25, f_h0_26, f_h0_27, f_h0_28, f_h0_29, f_h0_30, f_h0_31, f_h0_32, f_h0_33, f_h0_34, f_h0_35, f_h0_36, f_h0_37, f_h0_38, f_h0_39, f_h0_40, f_h0_41, f_h0_42, f_h0_43, .ref hg, f_h0_45, f_h0_46, f_h0_47, f_h0_48, f_h0_49, f_h0_50, f_h0_51, f_h0_52, f_h0_53, f_h0_54, f_h0_55, f_h0_56, f_h0_57, f_h0_58])), (ho, .inl (cs 0, 5650, .inl mRow)), (hg, .inl (cs 0, 7, .inl gf))] s.heap.size = A at hD ⊢
  have hA : ∀ q : Nat, s.heap.size ≤ q → A q := fun q h => by rw [← hAe]; exact Or.inr h
  have hS : va_S A s.heap s.heap [] := va_S.rf
  have hl := lv_entry ([.ref h0, .int 0]) (n := 4) (Nat.le_of_ble_eq_true rfl)
  rw [lg_entry_eq]
  generalize (lg_sl ([.ref h0, .int 0]) ++ List.replicate (4 - (lg_sl ([.ref h0, .int 0])).length) Slot.unset).toArray = ls at hl ⊢
  have hl : lv_has ls 4 [(0, .ref h0), (1, .int 0)] := hl
  refine lv_aload_n hx hb dX12_findGangs_0 rfl (lv_at hl 0 rfl) ?_
  refine va_get (ci := 12) (v := .ref ho) (C := RX12) (T := TX12) (N := 59) hx hb htl inX12 hown hK hP 0 rfl rfl 3 (by decide) (htl _ fl_RX12_13) (fun _ h9 => h9) rfl dX12_findGangs_1 ?_
  refine lv_iconst (v := 0) hx hb dX12_findGangs_4 (by decide) ?_
  refine va_iald hx hb hK hP 1 0 rfl rfl (by unfold vp_in; decide) dX12_findGangs_5 ?_
  refine lv_topi (fun xv ex => ?_)
  obtain rfl : xv = 0 := ex.trans (by first | exact pk_us | rfl | decide)
  refine lv_istore_n (lv' := [(2, .int 0), (0, .ref h0), (1, .int 0)]) hx hb dX12_findGangs_6 rfl hl (by decide) rfl (fun ls hl => ?_)
  refine lv_aload_n hx hb dX12_findGangs_7 rfl (lv_at hl 1 rfl) ?_
  refine lv_ldcw hx hb hown (htl _ ct_RX12_505) dX12_findGangs_8 ?_
  refine va_put (ci := 12) (v := .int 100000000) (ty := .int) (C := RX12) (T := TX12) (N := 59) hx hb htl inX12 tyX12 tyX12_ok nmX12 hown hK hP hD hS 0 rfl rfl 46 (by decide) (htl _ fl_RX12_516) (fun _ h9 => h9) rfl (by decide +kernel) (by first | rfl | decide) (by first | rfl | decide) (Nat.le_of_ble_eq_true rfl) dX12_findGangs_11 (fun H locs hP hD hS => ?_)
  have hP : va_P G vwCl [(h0, .inr (12, [f_h0_0, f_h0_1, f_h0_2, .ref ho, f_h0_4, f_h0_5, f_h0_6, f_h0_7, f_h0_8, f_h0_9, f_h0_10, f_h0_11, f_h0_12, f_h0_13, f_h0_14, f_h0_15, f_h0_16, f_h0_17, f_h0_18, f_h0_19, f_h0_20, f_h0_21, f_h0_22, f_h0_23, f_h0_24, f_h0_25, f_h0_26, f_h0_27, f_h0_28, f_h0_29, f_h0_30, f_h0_31, f_h0_32, f_h0_33, f_h0_34, f_h0_35, f_h0_36, f_h0_37, f_h0_38, f_h0_39, f_h0_40, f_h0_41, f_h0_42, f_h0_43, .ref hg, f_h0_45, .int 100000000, f_h0_47, f_h0_48, f_h0_49, f_h0_50, f_h0_51, f_h0_52, f_h0_53, f_h0_54, f_h0_55, f_h0_56, f_h0_57, f_h0_58])), (ho, .inl (cs 0, 5650, .inl mRow)), (hg, .inl (cs 0, 7, .inl gf))] H := hP
  have hD : va_D A [(h0, .inr (12, [f_h0_0, f_h0_1, f_h0_2, .ref ho, f_h0_4, f_h0_5, f_h0_6, f_h0_7, f_h0_8, f_h0_9, f_h0_10, f_h0_11, f_h0_12, f_h0_13, f_h0_14, f_h0_15, f_h0_16, f_h0_17, f_h0_18, f_h0_19, f_h0_20, f_h0_21, f_h0_22, f_h0_23, f_h0_24, f_h0_25, f_h0_26, f_h0_27, f_h0_28, f_h0_29, f_h0_30, f_h0_31, f_h0_32, f_h0_33, f_h0_34, f_h0_35, f_h0_36, f_h0_37, f_h0_38, f_h0_39, f_h0_40, f_h0_41, f_h0_42, f_h0_43, .ref hg, f_h0_45, .int 100000000, f_h0_47, f_h0_48, f_h0_49, f_h0_50, f_h0_51, f_h0_52, f_h0_53, f_h0_54, f_h0_55, f_h0_56, f_h0_57, f_h0_58])), (ho, .inl (cs 0, 5650, .inl mRow)), (hg, .inl (cs 0, 7, .inl gf))] := hD
  refine lv_iconst (v := 0) hx hb dX12_findGangs_14 (by decide) ?_
  refine lv_istore_n (lv' := [(3, .int 0), (2, .int 0), (0, .ref h0), (1, .int 0)]) hx hb dX12_findGangs_15 rfl hl (by decide) rfl (fun ls hl => ?_)
  refine lv_aload_n hx hb dX12_findGangs_16 rfl (lv_at hl 2 rfl) ?_
  refine va_get (ci := 12) (v := .ref hg) (C := RX12) (T := TX12) (N := 59) hx hb htl inX12 hown hK hP 0 rfl rfl 44 (by decide) (htl _ fl_RX12_121) (fun _ h9 => h9) rfl dX12_findGangs_17 ?_
  refine lv_iconst (v := 0) hx hb dX12_findGangs_20 (by decide) ?_
  refine lv_iconst (v := (-1)) hx hb dX12_findGangs_21 (by decide) ?_
  refine va_iast hx hb hK hP hD hS 2 0 rfl rfl (by unfold vp_in; decide) dX12_findGangs_22 (fun H locs hP hD hS => ?_)
  have hP : va_P G vwCl [(h0, .inr (12, [f_h0_0, f_h0_1, f_h0_2, .ref ho, f_h0_4, f_h0_5, f_h0_6, f_h0_7, f_h0_8, f_h0_9, f_h0_10, f_h0_11, f_h0_12, f_h0_13, f_h0_14, f_h0_15, f_h0_16, f_h0_17, f_h0_18, f_h0_19, f_h0_20, f_h0_21, f_h0_22, f_h0_23, f_h0_24, f_h0_25, f_h0_26, f_h0_27, f_h0_28, f_h0_29, f_h0_30, f_h0_31, f_h0_32, f_h0_33, f_h0_34, f_h0_35, f_h0_36, f_h0_37, f_h0_38, f_h0_39, f_h0_40, f_h0_41, f_h0_42, f_h0_43, .ref hg, f_h0_45, .int 100000000, f_h0_47, f_h0_48, f_h0_49, f_h0_50, f_h0_51, f_h0_52, f_h0_53, f_h0_54, f_h0_55, f_h0_56, f_h0_57, f_h0_58])), (ho, .inl (cs 0, 5650, .inl mRow)), (hg, .inl (cs 0, 7, .inl (upd gf 0 (-1))))] H := hP
  have hD : va_D A [(h0, .inr (12, [f_h0_0, f_h0_1, f_h0_2, .ref ho, f_h0_4, f_h0_5, f_h0_6, f_h0_7, f_h0_8, f_h0_9, f_h0_10, f_h0_11, f_h0_12, f_h0_13, f_h0_14, f_h0_15, f_h0_16, f_h0_17, f_h0_18, f_h0_19, f_h0_20, f_h0_21, f_h0_22, f_h0_23, f_h0_24, f_h0_25, f_h0_26, f_h0_27, f_h0_28, f_h0_29, f_h0_30, f_h0_31, f_h0_32, f_h0_33, f_h0_34, f_h0_35, f_h0_36, f_h0_37, f_h0_38, f_h0_39, f_h0_40, f_h0_41, f_h0_42, f_h0_43, .ref hg, f_h0_45, .int 100000000, f_h0_47, f_h0_48, f_h0_49, f_h0_50, f_h0_51, f_h0_52, f_h0_53, f_h0_54, f_h0_55, f_h0_56, f_h0_57, f_h0_58])), (ho, .inl (cs 0, 5650, .inl mRow)), (hg, .inl (cs 0, 7, .inl (upd gf 0 (-1))))] := hD
  refine lv_iload_n hx hb dX12_findGangs_23 rfl (lv_at hl 0 rfl) ?_
  refine lv_if_lt (tgt := 123) hx hb dX12_findGangs_24 (by decide) (fun h => absurd h (by decide)) (fun _ => ?_)
  refine lv_iload_n hx hb dX12_findGangs_27 rfl (lv_at hl 0 rfl) ?_
  refine lv_iload_n hx hb dX12_findGangs_28 rfl (lv_at hl 1 rfl) ?_
  refine lv_icmp_ne (tgt := 44) hx hb dX12_findGangs_29 (by decide) (fun h => absurd (by decide) h) (fun _ => ?_)
  refine lv_aload_n hx hb dX12_findGangs_32 rfl (lv_at hl 2 rfl) ?_
  refine lv_iload_n hx hb dX12_findGangs_33 rfl (lv_at hl 1 rfl) ?_
  refine lv_iload_n hx hb dX12_findGangs_34 rfl (lv_at hl 3 rfl) ?_
  refine mv (wr := [(ho, .inl (cs 0, 5650, .inl mRow)), (hg, .inl (cs 0, 7, .inl (upd gf 0 (-1))))]) (mkV (rest := []) ⟨hx, hb, hml, hown, htl⟩ hN hK hP hD (c_X12_weigh_0 l G cs h0 f_h0_0 f_h0_1 f_h0_2 (.ref ho) f_h0_4 f_h0_5 f_h0_6 f_h0_7 f_h0_8 f_h0_9 f_h0_10 f_h0_11 f_h0_12 f_h0_13 f_h0_14 f_h0_15 f_h0_16 f_h0_17 f_h0_18 f_h0_19 f_h0_20 f_h0_21 f_h0_22 f_h0_23 f_h0_24 f_h0_25 f_h0_26 f_h0_27 f_h0_28 f_h0_29 f_h0_30 f_h0_31 f_h0_32 f_h0_33 f_h0_34 f_h0_35 f_h0_36 f_h0_37 f_h0_38 f_h0_39 f_h0_40 f_h0_41 f_h0_42 f_h0_43 (.ref hg) f_h0_45 f_h0_47 f_h0_48 f_h0_49 f_h0_50 f_h0_51 f_h0_52 f_h0_53 f_h0_54 f_h0_55 f_h0_56 f_h0_57 f_h0_58 _) [0] rfl rfl 0 12 rfl rfl (cV 2 htl lk_RX12_519 mI_X12_weighGangs mS_X12_weighGangs mN_RX12 mC_X12_weighGangs ok_X12_weighGangs rfl rfl ⟨(Nat.le_of_ble_eq_true rfl), (Nat.le_of_ble_eq_true rfl)⟩) rfl hl.1 rfl (Nat.le_of_ble_eq_true rfl) dX12_findGangs_35 ⟨(Nat.le_of_ble_eq_true rfl), (Nat.le_of_ble_eq_true rfl)⟩) hP hD hS hA [0] [1, 2] rfl rfl rfl (by decide) (fun u_35 H locs hw hP hD hS => ?_)
  have hP : va_P G vwCl [(ho, .inl (cs 0, 5650, .inl mRow)), (hg, .inl (cs 0, 7, .inl (upd gf 0 (-1)))), (h0, .inr (12, [f_h0_0, f_h0_1, f_h0_2, .ref ho, f_h0_4, f_h0_5, f_h0_6, f_h0_7, f_h0_8, f_h0_9, f_h0_10, f_h0_11, f_h0_12, f_h0_13, f_h0_14, f_h0_15, f_h0_16, f_h0_17, f_h0_18, f_h0_19, f_h0_20, f_h0_21, f_h0_22, f_h0_23, f_h0_24, f_h0_25, f_h0_26, f_h0_27, f_h0_28, f_h0_29, f_h0_30, f_h0_31, f_h0_32, f_h0_33, f_h0_34, f_h0_35, f_h0_36, f_h0_37, f_h0_38, f_h0_39, f_h0_40, f_h0_41, f_h0_42, f_h0_43, .ref hg, f_h0_45, .int 0, f_h0_47, f_h0_48, f_h0_49, f_h0_50, f_h0_51, f_h0_52, f_h0_53, f_h0_54, f_h0_55, f_h0_56, f_h0_57, f_h0_58]))] H := hP
  have hD : va_D A [(ho, .inl (cs 0, 5650, .inl mRow)), (hg, .inl (cs 0, 7, .inl (upd gf 0 (-1)))), (h0, .inr (12, [f_h0_0, f_h0_1, f_h0_2, .ref ho, f_h0_4, f_h0_5, f_h0_6, f_h0_7, f_h0_8, f_h0_9, f_h0_10, f_h0_11, f_h0_12, f_h0_13, f_h0_14, f_h0_15, f_h0_16, f_h0_17, f_h0_18, f_h0_19, f_h0_20, f_h0_21, f_h0_22, f_h0_23, f_h0_24, f_h0_25, f_h0_26, f_h0_27, f_h0_28, f_h0_29, f_h0_30, f_h0_31, f_h0_32, f_h0_33, f_h0_34, f_h0_35, f_h0_36, f_h0_37, f_h0_38, f_h0_39, f_h0_40, f_h0_41, f_h0_42, f_h0_43, .ref hg, f_h0_45, .int 0, f_h0_47, f_h0_48, f_h0_49, f_h0_50, f_h0_51, f_h0_52, f_h0_53, f_h0_54, f_h0_55, f_h0_56, f_h0_57, f_h0_58]))] := hD
  refine lv_iinc (v := (-1)) (lv' := [(3, .int (-1)), (2, .int 0), (0, .ref h0), (1, .int 0)]) hx hb dX12_findGangs_38 hl (k := 0) rfl (by first | rfl | decide) (by decide) rfl (fun ls hl => ?_)
  refine lv_goto (tgt := 23) hx hb dX12_findGangs_41 (by decide) ?_
  refine lv_iload_n hx hb dX12_findGangs_23 rfl (lv_at hl 0 rfl) ?_
  refine lv_if_lt (tgt := 123) hx hb dX12_findGangs_24 (by decide) (fun _ => ?_) (fun h => absurd (by decide) h)
  have hP9 := hP.pick (wc := [(h0, .inr (12, [f_h0_0, f_h0_1, f_h0_2, .ref ho, f_h0_4, f_h0_5, f_h0_6, f_h0_7, f_h0_8, f_h0_9, f_h0_10, f_h0_11, f_h0_12, f_h0_13, f_h0_14, f_h0_15, f_h0_16, f_h0_17, f_h0_18, f_h0_19, f_h0_20, f_h0_21, f_h0_22, f_h0_23, f_h0_24, f_h0_25, f_h0_26, f_h0_27, f_h0_28, f_h0_29, f_h0_30, f_h0_31, f_h0_32, f_h0_33, f_h0_34, f_h0_35, f_h0_36, f_h0_37, f_h0_38, f_h0_39, f_h0_40, f_h0_41, f_h0_42, f_h0_43, .ref hg, f_h0_45, .int 0, f_h0_47, f_h0_48, f_h0_49, f_h0_50, f_h0_51, f_h0_52, f_h0_53, f_h0_54, f_h0_55, f_h0_56, f_h0_57, f_h0_58]))]) (is := [2]) rfl
  have hD9 := hD.sub (ws' := [(h0, .inr (12, [f_h0_0, f_h0_1, f_h0_2, .ref ho, f_h0_4, f_h0_5, f_h0_6, f_h0_7, f_h0_8, f_h0_9, f_h0_10, f_h0_11, f_h0_12, f_h0_13, f_h0_14, f_h0_15, f_h0_16, f_h0_17, f_h0_18, f_h0_19, f_h0_20, f_h0_21, f_h0_22, f_h0_23, f_h0_24, f_h0_25, f_h0_26, f_h0_27, f_h0_28, f_h0_29, f_h0_30, f_h0_31, f_h0_32, f_h0_33, f_h0_34, f_h0_35, f_h0_36, f_h0_37, f_h0_38, f_h0_39, f_h0_40, f_h0_41, f_h0_42, f_h0_43, .ref hg, f_h0_45, .int 0, f_h0_47, f_h0_48, f_h0_49, f_h0_50, f_h0_51, f_h0_52, f_h0_53, f_h0_54, f_h0_55, f_h0_56, f_h0_57, f_h0_58]))]) [2] rfl rfl
  exact W.vret hx hb hr (fun t ht hW => ⟨⟨(), rfl, trivial, ⟨by rw [ht]; exact hP9, va_K.moved hW.alike hK, hD9⟩⟩, hS.F ht⟩) hS.2.2 dX12_findGangs_123

def sp_X12_gangs_0 (a : Int32) : Int32 := if (sp_X12_in a.toInt64 0 0) = 0 then (-1) else 0
set_option maxHeartbeats 1000000 in
set_option maxRecDepth 100000 in
theorem c_X12_gangs_0 (l : Launch) (G : va_G) (cs : Nat → ClassId) (h0 : Nat) (a : Int32) (f_h0_0 : Value) (f_h0_1 : Value) (f_h0_2 : Value) (ho : Nat) (f_h0_4 : Value) (f_h0_5 : Value) (f_h0_6 : Value) (f_h0_7 : Value) (f_h0_8 : Value) (f_h0_9 : Value) (f_h0_10 : Value) (f_h0_11 : Value) (f_h0_12 : Value) (f_h0_13 : Value) (f_h0_14 : Value) (f_h0_15 : Value) (f_h0_16 : Value) (f_h0_17 : Value) (f_h0_18 : Value) (f_h0_19 : Value) (f_h0_20 : Value) (f_h0_21 : Value) (f_h0_22 : Value) (f_h0_23 : Value) (f_h0_24 : Value) (f_h0_25 : Value) (f_h0_26 : Value) (f_h0_27 : Value) (f_h0_28 : Value) (f_h0_29 : Value) (f_h0_30 : Value) (f_h0_31 : Value) (f_h0_32 : Value) (f_h0_33 : Value) (f_h0_34 : Value) (f_h0_35 : Value) (f_h0_36 : Value) (f_h0_37 : Value) (f_h0_38 : Value) (f_h0_39 : Value) (f_h0_40 : Value) (f_h0_41 : Value) (h5 : Nat) (f_h0_43 : Value) (hg : Nat) (f_h0_45 : Value) (f_h0_46 : Value) (f_h0_47 : Value) (f_h0_48 : Value) (f_h0_49 : Value) (f_h0_50 : Value) (f_h0_51 : Value) (f_h0_52 : Value) (f_h0_53 : Value) (f_h0_54 : Value) (f_h0_55 : Value) (f_h0_56 : Value) (f_h0_57 : Value) (f_h0_58 : Value) (g5 : Nat → Int32) (gf : Nat → Int32) (sz : Nat) : Met l yX12_gangs (Cond.code yX12_gangs cX12_gangs 7 (some .int) :: gW) ({ frames := 2, cells := 0, slots := 0, locals := 48 }) (va_Pc [.ref h0, .long 0, .int a] (Pre G cs [(h0, .inr (12, [f_h0_0, f_h0_1, f_h0_2, .ref ho, f_h0_4, f_h0_5, f_h0_6, f_h0_7, f_h0_8, f_h0_9, f_h0_10, f_h0_11, f_h0_12, f_h0_13, f_h0_14, f_h0_15, f_h0_16, f_h0_17, f_h0_18, f_h0_19, f_h0_20, f_h0_21, f_h0_22, f_h0_23, f_h0_24, f_h0_25, f_h0_26, f_h0_27, f_h0_28, f_h0_29, f_h0_30, f_h0_31, f_h0_32, f_h0_33, f_h0_34, f_h0_35, f_h0_36, f_h0_37, f_h0_38, f_h0_39, f_h0_40, f_h0_41, .ref h5, f_h0_43, .ref hg, f_h0_45, f_h0_46, f_h0_47, f_h0_48, f_h0_49, f_h0_50, f_h0_51, f_h0_52, f_h0_53, f_h0_54, f_h0_55, f_h0_56, f_h0_57, f_h0_58])), (ho, .inl (cs 0, 5650, .inl mRow)), (h5, .inl (cs 0, 6, .inl g5)), (hg, .inl (cs 0, 7, .inl gf))] sz)) (va_Qi (fun r (u : Unit) => r = sp_X12_gangs_0 a) (fun (u : Unit) t => Aft G cs (va_A [(h0, .inr (12, [f_h0_0, f_h0_1, f_h0_2, .ref ho, f_h0_4, f_h0_5, f_h0_6, f_h0_7, f_h0_8, f_h0_9, f_h0_10, f_h0_11, f_h0_12, f_h0_13, f_h0_14, f_h0_15, f_h0_16, f_h0_17, f_h0_18, f_h0_19, f_h0_20, f_h0_21, f_h0_22, f_h0_23, f_h0_24, f_h0_25, f_h0_26, f_h0_27, f_h0_28, f_h0_29, f_h0_30, f_h0_31, f_h0_32, f_h0_33, f_h0_34, f_h0_35, f_h0_36, f_h0_37, f_h0_38, f_h0_39, f_h0_40, f_h0_41, .ref h5, f_h0_43, .ref hg, f_h0_45, f_h0_46, f_h0_47, f_h0_48, f_h0_49, f_h0_50, f_h0_51, f_h0_52, f_h0_53, f_h0_54, f_h0_55, f_h0_56, f_h0_57, f_h0_58])), (ho, .inl (cs 0, 5650, .inl mRow)), (h5, .inl (cs 0, 6, .inl g5)), (hg, .inl (cs 0, 7, .inl gf))] sz) [] t) (va_A [(h0, .inr (12, [f_h0_0, f_h0_1, f_h0_2, .ref ho, f_h0_4, f_h0_5, f_h0_6, f_h0_7, f_h0_8, f_h0_9, f_h0_10, f_h0_11, f_h0_12, f_h0_13, f_h0_14, f_h0_15, f_h0_16, f_h0_17, f_h0_18, f_h0_19, f_h0_20, f_h0_21, f_h0_22, f_h0_23, f_h0_24, f_h0_25, f_h0_26, f_h0_27, f_h0_28, f_h0_29, f_h0_30, f_h0_31, f_h0_32, f_h0_33, f_h0_34, f_h0_35, f_h0_36, f_h0_37, f_h0_38, f_h0_39, f_h0_40, f_h0_41, .ref h5, f_h0_43, .ref hg, f_h0_45, f_h0_46, f_h0_47, f_h0_48, f_h0_49, f_h0_50, f_h0_51, f_h0_52, f_h0_53, f_h0_54, f_h0_55, f_h0_56, f_h0_57, f_h0_58])), (ho, .inl (cs 0, 5650, .inl mRow)), (h5, .inl (cs 0, 6, .inl g5)), (hg, .inl (cs 0, 7, .inl gf))] sz)) 0 0 (va_A [(h0, .inr (12, [f_h0_0, f_h0_1, f_h0_2, .ref ho, f_h0_4, f_h0_5, f_h0_6, f_h0_7, f_h0_8, f_h0_9, f_h0_10, f_h0_11, f_h0_12, f_h0_13, f_h0_14, f_h0_15, f_h0_16, f_h0_17, f_h0_18, f_h0_19, f_h0_20, f_h0_21, f_h0_22, f_h0_23, f_h0_24, f_h0_25, f_h0_26, f_h0_27, f_h0_28, f_h0_29, f_h0_30, f_h0_31, f_h0_32, f_h0_33, f_h0_34, f_h0_35, f_h0_36, f_h0_37, f_h0_38, f_h0_39, f_h0_40, f_h0_41, .ref h5, f_h0_43, .ref hg, f_h0_45, f_h0_46, f_h0_47, f_h0_48, f_h0_49, f_h0_50, f_h0_51, f_h0_52, f_h0_53, f_h0_54, f_h0_55, f_h0_56, f_h0_57, f_h0_58])), (ho, .inl (cs 0, 5650, .inl mRow)), (h5, .inl (cs 0, 6, .inl g5)), (hg, .inl (cs 0, 7, .inl gf))] sz) := by
  refine Met.ofW (cc := cX12_gangs) (maxL := 7) (ret := (some .int)) (by decide) rfl ?_
  intro p e s m args below meth c s₁ B hml hv
  obtain ⟨rfl, hsz, hP, hK, hD0, hN⟩ := hv
  have hx := B.exec
  have hb := B.bytes
  have hr := B.returns
  have hts := atoms_spec (ws := Cond.code yX12_gangs cX12_gangs 7 (some .int) :: gW) B.pre
  have htl : ∀ w ∈ gW, w.before _ s = true := fun w h => hts w (List.mem_cons_of_mem _ h)
  have hown : s.vm.findClass RX12 = some m.cls := findClass_of_methodNamed B.named
  have hlocks := B.notSynchronized
  subst hsz
  have hD := hD0.self (sz := s.heap.size)
  generalize hAe : va_A [(h0, .inr (12, [f_h0_0, f_h0_1, f_h0_2, .ref ho, f_h0_4, f_h0_5, f_h0_6, f_h0_7, f_h0_8, f_h0_9, f_h0_10, f_h0_11, f_h0_12, f_h0_13, f_h0_14, f_h0_15, f_h0_16, f_h0_17, f_h0_18, f_h0_19, f_h0_20, f_h0_21, f_h0_22, f_h0_23, f_h0_24, f_h0_25, f_h0_26, f_h0_27, f_h0_28, f_h0_29, f_h0_30, f_h0_31, f_h0_32, f_h0_33, f_h0_34, f_h0_35, f_h0_36, f_h0_37, f_h0_38, f_h0_39, f_h0_40, f_h0_41, .ref h5, f_h0_43, .ref hg, f_h0_45, f_h0_46, f_h0_47, f_h0_48, f_h0_49, f_h0_50, f_h0_51, f_h0_52, f_h0_53, f_h0_54, f_h0_55, f_h0_56, f_h0_57, f_h0_58])), (ho, .inl (cs 0, 5650, .inl mRow)), (h5, .inl (cs 0, 6, .inl g5)), (hg, .inl (cs 0, 7, .inl gf))] s.heap.size = A at hD ⊢
  have hA : ∀ q : Nat, s.heap.size ≤ q → A q := fun q h => by rw [← hAe]; exact Or.inr h
  have hS : va_S A s.heap s.heap [] := va_S.rf
  have hl := lv_entry ([.ref h0, .long 0, .int a]) (n := 7) (Nat.le_of_ble_eq_true rfl)
  rw [lg_entry_eq]
  generalize (lg_sl ([.ref h0, .long 0, .int a]) ++ List.replicate (7 - (lg_sl ([.ref h0, .long 0, .int a])).length) Slot.unset).toArray = ls at hl ⊢
  have hl : lv_has ls 7 [(0, .ref h0), (1, .long 0), (3, .int a)] := hl
  refine lv_aload_n hx hb dX12_gangs_0 rfl (lv_at hl 0 rfl) ?_
  refine lv_iconst (v := 0) hx hb dX12_gangs_1 (by decide) ?_
  refine va_put (ci := 12) (v := .int 0) (ty := .int) (C := RX12) (T := TX12) (N := 59) hx hb htl inX12 tyX12 tyX12_ok nmX12 hown hK hP hD hS 0 rfl rfl 0 (by decide) (htl _ fl_RX12_156) (fun _ h9 => h9) rfl (by decide +kernel) (by first | rfl | decide) (by first | rfl | decide) (Nat.le_of_ble_eq_true rfl) dX12_gangs_2 (fun H locs hP hD hS => ?_)
  have hP : va_P G vwCl [(h0, .inr (12, [.int 0, f_h0_1, f_h0_2, .ref ho, f_h0_4, f_h0_5, f_h0_6, f_h0_7, f_h0_8, f_h0_9, f_h0_10, f_h0_11, f_h0_12, f_h0_13, f_h0_14, f_h0_15, f_h0_16, f_h0_17, f_h0_18, f_h0_19, f_h0_20, f_h0_21, f_h0_22, f_h0_23, f_h0_24, f_h0_25, f_h0_26, f_h0_27, f_h0_28, f_h0_29, f_h0_30, f_h0_31, f_h0_32, f_h0_33, f_h0_34, f_h0_35, f_h0_36, f_h0_37, f_h0_38, f_h0_39, f_h0_40, f_h0_41, .ref h5, f_h0_43, .ref hg, f_h0_45, f_h0_46, f_h0_47, f_h0_48, f_h0_49, f_h0_50, f_h0_51, f_h0_52, f_h0_53, f_h0_54, f_h0_55, f_h0_56, f_h0_57, f_h0_58])), (ho, .inl (cs 0, 5650, .inl mRow)), (h5, .inl (cs 0, 6, .inl g5)), (hg, .inl (cs 0, 7, .inl gf))] H := hP
  have hD : va_D A [(h0, .inr (12, [.int 0, f_h0_1, f_h0_2, .ref ho, f_h0_4, f_h0_5, f_h0_6, f_h0_7, f_h0_8, f_h0_9, f_h0_10, f_h0_11, f_h0_12, f_h0_13, f_h0_14, f_h0_15, f_h0_16, f_h0_17, f_h0_18, f_h0_19, f_h0_20, f_h0_21, f_h0_22, f_h0_23, f_h0_24, f_h0_25, f_h0_26, f_h0_27, f_h0_28, f_h0_29, f_h0_30, f_h0_31, f_h0_32, f_h0_33, f_h0_34, f_h0_35, f_h0_36, f_h0_37, f_h0_38, f_h0_39, f_h0_40, f_h0_41, .ref h5, f_h0_43, .ref hg, f_h0_45, f_h0_46, f_h0_47, f_h0_48, f_h0_49, f_h0_50, f_h0_51, f_h0_52, f_h0_53, f_h0_54, f_h0_55, f_h0_56, f_h0_57, f_h0_58])), (ho, .inl (cs 0, 5650, .inl mRow)), (h5, .inl (cs 0, 6, .inl g5)), (hg, .inl (cs 0, 7, .inl gf))] := hD
  refine lv_lload_n hx hb dX12_gangs_5 rfl (lv_at hl 1 rfl) ?_
  refine lv_lconst (v := 0) hx hb dX12_gangs_6 (by decide) ?_
  refine lv_ldc2 hx hb hown (htl _ ct_RX12_525) dX12_gangs_7 ?_
  refine vp_callSi (mkSr (rest := []) ⟨hx, hb, hml, hown, htl⟩ hN hK (c_X12_in l G cs 0 0 1099511627775) (cS 3 htl lk_RX12_180 mT_X12_in mN_RX12 mC_X12_in ok_X12_in rfl rfl ⟨(Nat.le_of_ble_eq_true rfl), (Nat.le_of_ble_eq_true rfl)⟩) rfl hl.1 rfl (Nat.le_of_ble_eq_true rfl) dX12_gangs_10 ⟨(Nat.le_of_ble_eq_true rfl), (Nat.le_of_ble_eq_true rfl)⟩) (fun r hw => ?_)
  obtain rfl : r = 1 := hw.1.trans (by unfold sp_X12_in; (try rw [if_neg (by decide), if_neg (by decide)]) <;> first | rfl | decide)
  refine lv_if_eq (tgt := 41) hx hb dX12_gangs_13 (by decide) (fun h => absurd h (by decide)) (fun _ => ?_)
  refine lv_lload_n hx hb dX12_gangs_16 rfl (lv_at hl 1 rfl) ?_
  refine vp_callSi (mkSr (rest := []) ⟨hx, hb, hml, hown, htl⟩ hN hK (c_X12_ones l G cs 0) (cS 1 htl lk_RX12_527 mT_X12_ones mN_RX12 mC_X12_ones ok_X12_ones rfl rfl ⟨(Nat.le_of_ble_eq_true rfl), (Nat.le_of_ble_eq_true rfl)⟩) rfl hl.1 rfl (Nat.le_of_ble_eq_true rfl) dX12_gangs_17 ⟨(Nat.le_of_ble_eq_true rfl), (Nat.le_of_ble_eq_true rfl)⟩) (fun r hw => ?_)
  obtain rfl : r = 0 := hw.trans (by decide +kernel)
  refine lv_bipush (v := 6) hx hb dX12_gangs_20 (by decide) ?_
  refine lv_icmp_gt (tgt := 41) hx hb dX12_gangs_22 (by decide) (fun h => absurd h (by decide)) (fun _ => ?_)
  refine lv_iload_n hx hb dX12_gangs_25 rfl (lv_at hl 2 rfl) ?_
  refine lv_i2l (v := a.toInt64) hx hb dX12_gangs_26 (by first | rfl | decide) ?_
  refine lv_lconst (v := 0) hx hb dX12_gangs_27 (by decide) ?_
  refine lv_aload_n hx hb dX12_gangs_28 rfl (lv_at hl 0 rfl) ?_
  refine va_get (ci := 12) (v := .ref ho) (C := RX12) (T := TX12) (N := 59) hx hb htl inX12 hown hK hP 0 rfl rfl 3 (by decide) (htl _ fl_RX12_13) (fun _ h9 => h9) rfl dX12_gangs_29 ?_
  refine lv_iconst (v := 0) hx hb dX12_gangs_32 (by decide) ?_
  refine va_iald hx hb hK hP 1 0 rfl rfl (by unfold vp_in; decide) dX12_gangs_33 ?_
  refine lv_topi (fun xv ex => ?_)
  obtain rfl : xv = 0 := ex.trans (by first | exact pk_us | rfl | decide)
  refine lv_i2l (v := 0) hx hb dX12_gangs_34 (by first | rfl | decide) ?_
  refine vp_callSi (mkSr (rest := []) ⟨hx, hb, hml, hown, htl⟩ hN hK (c_X12_in l G cs a.toInt64 0 0) (cS 3 htl lk_RX12_180 mT_X12_in mN_RX12 mC_X12_in ok_X12_in rfl rfl ⟨(Nat.le_of_ble_eq_true rfl), (Nat.le_of_ble_eq_true rfl)⟩) rfl hl.1 rfl (Nat.le_of_ble_eq_true rfl) dX12_gangs_35 ⟨(Nat.le_of_ble_eq_true rfl), (Nat.le_of_ble_eq_true rfl)⟩) (fun r hw => ?_)
  obtain ⟨rfl, hz_1⟩ := hw
  refine lv_if_ne (tgt := 43) hx hb dX12_gangs_38 (by decide) (fun c_38 => ?_) (fun c_38 => ?_)
  · refine lv_iconst (v := 0) hx hb dX12_gangs_43 (by decide) ?_
    refine lv_istore (lv' := [(4, .int 0), (0, .ref h0), (1, .long 0), (3, .int a)]) hx hb dX12_gangs_44 hl (by decide) rfl (fun ls hl => ?_)
    refine lv_iconst (v := 0) hx hb dX12_gangs_46 (by decide) ?_
    refine lv_istore (lv' := [(5, .int 0), (4, .int 0), (0, .ref h0), (1, .long 0), (3, .int a)]) hx hb dX12_gangs_47 hl (by decide) rfl (fun ls hl => ?_)
    refine lv_iload hx hb dX12_gangs_49 (lv_at hl 0 rfl) ?_
    refine lv_bipush (v := 40) hx hb dX12_gangs_51 (by decide) ?_
    refine lv_icmp_ge (tgt := 83) hx hb dX12_gangs_53 (by decide) (fun h => absurd h (by decide)) (fun _ => ?_)
    refine lv_lload_n hx hb dX12_gangs_56 rfl (lv_at hl 3 rfl) ?_
    refine lv_iload hx hb dX12_gangs_57 (lv_at hl 0 rfl) ?_
    refine vp_callSi (mkSr (rest := []) ⟨hx, hb, hml, hown, htl⟩ hN hK (c_X12_is l G cs 0 0) (cS 2 htl lk_RX12_159 mT_X12_is mN_RX12 mC_X12_is ok_X12_is rfl rfl ⟨(Nat.le_of_ble_eq_true rfl), (Nat.le_of_ble_eq_true rfl)⟩) rfl hl.1 rfl (Nat.le_of_ble_eq_true rfl) dX12_gangs_59 ⟨(Nat.le_of_ble_eq_true rfl), (Nat.le_of_ble_eq_true rfl)⟩) (fun r hw => ?_)
    obtain rfl : r = 0 := hw.1.trans (by unfold sp_X12_is; (try rw [if_neg (by decide)]) <;> first | rfl | decide)
    refine lv_if_eq (tgt := 77) hx hb dX12_gangs_62 (by decide) (fun _ => ?_) (fun h => absurd (by decide) h)
    refine lv_iinc (v := 1) (lv' := [(5, .int 1), (4, .int 0), (0, .ref h0), (1, .long 0), (3, .int a)]) hx hb dX12_gangs_77 hl (k := 0) rfl (by first | rfl | decide) (by decide) rfl (fun ls hl => ?_)
    refine lv_goto (tgt := 49) hx hb dX12_gangs_80 (by decide) ?_
    refine lv_iload hx hb dX12_gangs_49 (lv_at hl 0 rfl) ?_
    refine lv_bipush (v := 40) hx hb dX12_gangs_51 (by decide) ?_
    refine lv_icmp_ge (tgt := 83) hx hb dX12_gangs_53 (by decide) (fun h => absurd h (by decide)) (fun _ => ?_)
    refine lv_lload_n hx hb dX12_gangs_56 rfl (lv_at hl 3 rfl) ?_
    refine lv_iload hx hb dX12_gangs_57 (lv_at hl 0 rfl) ?_
    refine vp_callSi (mkSr (rest := []) ⟨hx, hb, hml, hown, htl⟩ hN hK (c_X12_is l G cs 0 1) (cS 2 htl lk_RX12_159 mT_X12_is mN_RX12 mC_X12_is ok_X12_is rfl rfl ⟨(Nat.le_of_ble_eq_true rfl), (Nat.le_of_ble_eq_true rfl)⟩) rfl hl.1 rfl (Nat.le_of_ble_eq_true rfl) dX12_gangs_59 ⟨(Nat.le_of_ble_eq_true rfl), (Nat.le_of_ble_eq_true rfl)⟩) (fun r hw => ?_)
    obtain rfl : r = 0 := hw.1.trans (by unfold sp_X12_is; (try rw [if_neg (by decide)]) <;> first | rfl | decide)
    refine lv_if_eq (tgt := 77) hx hb dX12_gangs_62 (by decide) (fun _ => ?_) (fun h => absurd (by decide) h)
    refine lv_iinc (v := 2) (lv' := [(5, .int 2), (4, .int 0), (0, .ref h0), (1, .long 0), (3, .int a)]) hx hb dX12_gangs_77 hl (k := 0) rfl (by first | rfl | decide) (by decide) rfl (fun ls hl => ?_)
    refine lv_goto (tgt := 49) hx hb dX12_gangs_80 (by decide) ?_
    refine lv_iload hx hb dX12_gangs_49 (lv_at hl 0 rfl) ?_
    refine lv_bipush (v := 40) hx hb dX12_gangs_51 (by decide) ?_
    refine lv_icmp_ge (tgt := 83) hx hb dX12_gangs_53 (by decide) (fun h => absurd h (by decide)) (fun _ => ?_)
    refine lv_lload_n hx hb dX12_gangs_56 rfl (lv_at hl 3 rfl) ?_
    refine lv_iload hx hb dX12_gangs_57 (lv_at hl 0 rfl) ?_
    refine vp_callSi (mkSr (rest := []) ⟨hx, hb, hml, hown, htl⟩ hN hK (c_X12_is l G cs 0 2) (cS 2 htl lk_RX12_159 mT_X12_is mN_RX12 mC_X12_is ok_X12_is rfl rfl ⟨(Nat.le_of_ble_eq_true rfl), (Nat.le_of_ble_eq_true rfl)⟩) rfl hl.1 rfl (Nat.le_of_ble_eq_true rfl) dX12_gangs_59 ⟨(Nat.le_of_ble_eq_true rfl), (Nat.le_of_ble_eq_true rfl)⟩) (fun r hw => ?_)
    obtain rfl : r = 0 := hw.1.trans (by unfold sp_X12_is; (try rw [if_neg (by decide)]) <;> first | rfl | decide)
    refine lv_if_eq (tgt := 77) hx hb dX12_gangs_62 (by decide) (fun _ => ?_) (fun h => absurd (by decide) h)
    refine lv_iinc (v := 3) (lv' := [(5, .int 3), (4, .int 0), (0, .ref h0), (1, .long 0), (3, .int a)]) hx hb dX12_gangs_77 hl (k := 0) rfl (by first | rfl | decide) (by decide) rfl (fun ls hl => ?_)
    refine lv_goto (tgt := 49) hx hb dX12_gangs_80 (by decide) ?_
    refine lv_iload hx hb dX12_gangs_49 (lv_at hl 0 rfl) ?_
    refine lv_bipush (v := 40) hx hb dX12_gangs_51 (by decide) ?_
    refine lv_icmp_ge (tgt := 83) hx hb dX12_gangs_53 (by decide) (fun h => absurd h (by decide)) (fun _ => ?_)
    refine lv_lload_n hx hb dX12_gangs_56 rfl (lv_at hl 3 rfl) ?_
    refine lv_iload hx hb dX12_gangs_57 (lv_at hl 0 rfl) ?_
    refine vp_callSi (mkSr (rest := []) ⟨hx, hb, hml, hown, htl⟩ hN hK (c_X12_is l G cs 0 3) (cS 2 htl lk_RX12_159 mT_X12_is mN_RX12 mC_X12_is ok_X12_is rfl rfl ⟨(Nat.le_of_ble_eq_true rfl), (Nat.le_of_ble_eq_true rfl)⟩) rfl hl.1 rfl (Nat.le_of_ble_eq_true rfl) dX12_gangs_59 ⟨(Nat.le_of_ble_eq_true rfl), (Nat.le_of_ble_eq_true rfl)⟩) (fun r hw => ?_)
    obtain rfl : r = 0 := hw.1.trans (by unfold sp_X12_is; (try rw [if_neg (by decide)]) <;> first | rfl | decide)
    refine lv_if_eq (tgt := 77) hx hb dX12_gangs_62 (by decide) (fun _ => ?_) (fun h => absurd (by decide) h)
    refine lv_iinc (v := 4) (lv' := [(5, .int 4), (4, .int 0), (0, .ref h0), (1, .long 0), (3, .int a)]) hx hb dX12_gangs_77 hl (k := 0) rfl (by first | rfl | decide) (by decide) rfl (fun ls hl => ?_)
    refine lv_goto (tgt := 49) hx hb dX12_gangs_80 (by decide) ?_
    refine lv_iload hx hb dX12_gangs_49 (lv_at hl 0 rfl) ?_
    refine lv_bipush (v := 40) hx hb dX12_gangs_51 (by decide) ?_
    refine lv_icmp_ge (tgt := 83) hx hb dX12_gangs_53 (by decide) (fun h => absurd h (by decide)) (fun _ => ?_)
    refine lv_lload_n hx hb dX12_gangs_56 rfl (lv_at hl 3 rfl) ?_
    refine lv_iload hx hb dX12_gangs_57 (lv_at hl 0 rfl) ?_
    refine vp_callSi (mkSr (rest := []) ⟨hx, hb, hml, hown, htl⟩ hN hK (c_X12_is l G cs 0 4) (cS 2 htl lk_RX12_159 mT_X12_is mN_RX12 mC_X12_is ok_X12_is rfl rfl ⟨(Nat.le_of_ble_eq_true rfl), (Nat.le_of_ble_eq_true rfl)⟩) rfl hl.1 rfl (Nat.le_of_ble_eq_true rfl) dX12_gangs_59 ⟨(Nat.le_of_ble_eq_true rfl), (Nat.le_of_ble_eq_true rfl)⟩) (fun r hw => ?_)
    obtain rfl : r = 0 := hw.1.trans (by unfold sp_X12_is; (try rw [if_neg (by decide)]) <;> first | rfl | decide)
    refine lv_if_eq (tgt := 77) hx hb dX12_gangs_62 (by decide) (fun _ => ?_) (fun h => absurd (by decide) h)
    refine lv_iinc (v := 5) (lv' := [(5, .int 5), (4, .int 0), (0, .ref h0), (1, .long 0), (3, .int a)]) hx hb dX12_gangs_77 hl (k := 0) rfl (by first | rfl | decide) (by decide) rfl (fun ls hl => ?_)
    refine lv_goto (tgt := 49) hx hb dX12_gangs_80 (by decide) ?_
    refine lv_iload hx hb dX12_gangs_49 (lv_at hl 0 rfl) ?_
    refine lv_bipush (v := 40) hx hb dX12_gangs_51 (by decide) ?_
    refine lv_icmp_ge (tgt := 83) hx hb dX12_gangs_53 (by decide) (fun h => absurd h (by decide)) (fun _ => ?_)
    refine lv_lload_n hx hb dX12_gangs_56 rfl (lv_at hl 3 rfl) ?_
    refine lv_iload hx hb dX12_gangs_57 (lv_at hl 0 rfl) ?_
    refine vp_callSi (mkSr (rest := []) ⟨hx, hb, hml, hown, htl⟩ hN hK (c_X12_is l G cs 0 5) (cS 2 htl lk_RX12_159 mT_X12_is mN_RX12 mC_X12_is ok_X12_is rfl rfl ⟨(Nat.le_of_ble_eq_true rfl), (Nat.le_of_ble_eq_true rfl)⟩) rfl hl.1 rfl (Nat.le_of_ble_eq_true rfl) dX12_gangs_59 ⟨(Nat.le_of_ble_eq_true rfl), (Nat.le_of_ble_eq_true rfl)⟩) (fun r hw => ?_)
    obtain rfl : r = 0 := hw.1.trans (by unfold sp_X12_is; (try rw [if_neg (by decide)]) <;> first | rfl | decide)
    refine lv_if_eq (tgt := 77) hx hb dX12_gangs_62 (by decide) (fun _ => ?_) (fun h => absurd (by decide) h)
    refine lv_iinc (v := 6) (lv' := [(5, .int 6), (4, .int 0), (0, .ref h0), (1, .long 0), (3, .int a)]) hx hb dX12_gangs_77 hl (k := 0) rfl (by first | rfl | decide) (by decide) rfl (fun ls hl => ?_)
    refine lv_goto (tgt := 49) hx hb dX12_gangs_80 (by decide) ?_
    refine lv_iload hx hb dX12_gangs_49 (lv_at hl 0 rfl) ?_
    refine lv_bipush (v := 40) hx hb dX12_gangs_51 (by decide) ?_
    refine lv_icmp_ge (tgt := 83) hx hb dX12_gangs_53 (by decide) (fun h => absurd h (by decide)) (fun _ => ?_)
    refine lv_lload_n hx hb dX12_gangs_56 rfl (lv_at hl 3 rfl) ?_
    refine lv_iload hx hb dX12_gangs_57 (lv_at hl 0 rfl) ?_
    refine vp_callSi (mkSr (rest := []) ⟨hx, hb, hml, hown, htl⟩ hN hK (c_X12_is l G cs 0 6) (cS 2 htl lk_RX12_159 mT_X12_is mN_RX12 mC_X12_is ok_X12_is rfl rfl ⟨(Nat.le_of_ble_eq_true rfl), (Nat.le_of_ble_eq_true rfl)⟩) rfl hl.1 rfl (Nat.le_of_ble_eq_true rfl) dX12_gangs_59 ⟨(Nat.le_of_ble_eq_true rfl), (Nat.le_of_ble_eq_true rfl)⟩) (fun r hw => ?_)
    obtain rfl : r = 0 := hw.1.trans (by unfold sp_X12_is; (try rw [if_neg (by decide)]) <;> first | rfl | decide)
    refine lv_if_eq (tgt := 77) hx hb dX12_gangs_62 (by decide) (fun _ => ?_) (fun h => absurd (by decide) h)
    refine lv_iinc (v := 7) (lv' := [(5, .int 7), (4, .int 0), (0, .ref h0), (1, .long 0), (3, .int a)]) hx hb dX12_gangs_77 hl (k := 0) rfl (by first | rfl | decide) (by decide) rfl (fun ls hl => ?_)
    refine lv_goto (tgt := 49) hx hb dX12_gangs_80 (by decide) ?_
    refine lv_iload hx hb dX12_gangs_49 (lv_at hl 0 rfl) ?_
    refine lv_bipush (v := 40) hx hb dX12_gangs_51 (by decide) ?_
    refine lv_icmp_ge (tgt := 83) hx hb dX12_gangs_53 (by decide) (fun h => absurd h (by decide)) (fun _ => ?_)
    refine lv_lload_n hx hb dX12_gangs_56 rfl (lv_at hl 3 rfl) ?_
    refine lv_iload hx hb dX12_gangs_57 (lv_at hl 0 rfl) ?_
    refine vp_callSi (mkSr (rest := []) ⟨hx, hb, hml, hown, htl⟩ hN hK (c_X12_is l G cs 0 7) (cS 2 htl lk_RX12_159 mT_X12_is mN_RX12 mC_X12_is ok_X12_is rfl rfl ⟨(Nat.le_of_ble_eq_true rfl), (Nat.le_of_ble_eq_true rfl)⟩) rfl hl.1 rfl (Nat.le_of_ble_eq_true rfl) dX12_gangs_59 ⟨(Nat.le_of_ble_eq_true rfl), (Nat.le_of_ble_eq_true rfl)⟩) (fun r hw => ?_)
    obtain rfl : r = 0 := hw.1.trans (by unfold sp_X12_is; (try rw [if_neg (by decide)]) <;> first | rfl | decide)
    refine lv_if_eq (tgt := 77) hx hb dX12_gangs_62 (by decide) (fun _ => ?_) (fun h => absurd (by decide) h)
    refine lv_iinc (v := 8) (lv' := [(5, .int 8), (4, .int 0), (0, .ref h0), (1, .long 0), (3, .int a)]) hx hb dX12_gangs_77 hl (k := 0) rfl (by first | rfl | decide) (by decide) rfl (fun ls hl => ?_)
    refine lv_goto (tgt := 49) hx hb dX12_gangs_80 (by decide) ?_
    refine lv_iload hx hb dX12_gangs_49 (lv_at hl 0 rfl) ?_
    refine lv_bipush (v := 40) hx hb dX12_gangs_51 (by decide) ?_
    refine lv_icmp_ge (tgt := 83) hx hb dX12_gangs_53 (by decide) (fun h => absurd h (by decide)) (fun _ => ?_)
    refine lv_lload_n hx hb dX12_gangs_56 rfl (lv_at hl 3 rfl) ?_
    refine lv_iload hx hb dX12_gangs_57 (lv_at hl 0 rfl) ?_
    refine vp_callSi (mkSr (rest := []) ⟨hx, hb, hml, hown, htl⟩ hN hK (c_X12_is l G cs 0 8) (cS 2 htl lk_RX12_159 mT_X12_is mN_RX12 mC_X12_is ok_X12_is rfl rfl ⟨(Nat.le_of_ble_eq_true rfl), (Nat.le_of_ble_eq_true rfl)⟩) rfl hl.1 rfl (Nat.le_of_ble_eq_true rfl) dX12_gangs_59 ⟨(Nat.le_of_ble_eq_true rfl), (Nat.le_of_ble_eq_true rfl)⟩) (fun r hw => ?_)
    obtain rfl : r = 0 := hw.1.trans (by unfold sp_X12_is; (try rw [if_neg (by decide)]) <;> first | rfl | decide)
    refine lv_if_eq (tgt := 77) hx hb dX12_gangs_62 (by decide) (fun _ => ?_) (fun h => absurd (by decide) h)
    refine lv_iinc (v := 9) (lv' := [(5, .int 9), (4, .int 0), (0, .ref h0), (1, .long 0), (3, .int a)]) hx hb dX12_gangs_77 hl (k := 0) rfl (by first | rfl | decide) (by decide) rfl (fun ls hl => ?_)
    refine lv_goto (tgt := 49) hx hb dX12_gangs_80 (by decide) ?_
    refine lv_iload hx hb dX12_gangs_49 (lv_at hl 0 rfl) ?_
    refine lv_bipush (v := 40) hx hb dX12_gangs_51 (by decide) ?_
    refine lv_icmp_ge (tgt := 83) hx hb dX12_gangs_53 (by decide) (fun h => absurd h (by decide)) (fun _ => ?_)
    refine lv_lload_n hx hb dX12_gangs_56 rfl (lv_at hl 3 rfl) ?_
    refine lv_iload hx hb dX12_gangs_57 (lv_at hl 0 rfl) ?_
    refine vp_callSi (mkSr (rest := []) ⟨hx, hb, hml, hown, htl⟩ hN hK (c_X12_is l G cs 0 9) (cS 2 htl lk_RX12_159 mT_X12_is mN_RX12 mC_X12_is ok_X12_is rfl rfl ⟨(Nat.le_of_ble_eq_true rfl), (Nat.le_of_ble_eq_true rfl)⟩) rfl hl.1 rfl (Nat.le_of_ble_eq_true rfl) dX12_gangs_59 ⟨(Nat.le_of_ble_eq_true rfl), (Nat.le_of_ble_eq_true rfl)⟩) (fun r hw => ?_)
    obtain rfl : r = 0 := hw.1.trans (by unfold sp_X12_is; (try rw [if_neg (by decide)]) <;> first | rfl | decide)
    refine lv_if_eq (tgt := 77) hx hb dX12_gangs_62 (by decide) (fun _ => ?_) (fun h => absurd (by decide) h)
    refine lv_iinc (v := 10) (lv' := [(5, .int 10), (4, .int 0), (0, .ref h0), (1, .long 0), (3, .int a)]) hx hb dX12_gangs_77 hl (k := 0) rfl (by first | rfl | decide) (by decide) rfl (fun ls hl => ?_)
    refine lv_goto (tgt := 49) hx hb dX12_gangs_80 (by decide) ?_
    refine lv_iload hx hb dX12_gangs_49 (lv_at hl 0 rfl) ?_
    refine lv_bipush (v := 40) hx hb dX12_gangs_51 (by decide) ?_
    refine lv_icmp_ge (tgt := 83) hx hb dX12_gangs_53 (by decide) (fun h => absurd h (by decide)) (fun _ => ?_)
    refine lv_lload_n hx hb dX12_gangs_56 rfl (lv_at hl 3 rfl) ?_
    refine lv_iload hx hb dX12_gangs_57 (lv_at hl 0 rfl) ?_
    refine vp_callSi (mkSr (rest := []) ⟨hx, hb, hml, hown, htl⟩ hN hK (c_X12_is l G cs 0 10) (cS 2 htl lk_RX12_159 mT_X12_is mN_RX12 mC_X12_is ok_X12_is rfl rfl ⟨(Nat.le_of_ble_eq_true rfl), (Nat.le_of_ble_eq_true rfl)⟩) rfl hl.1 rfl (Nat.le_of_ble_eq_true rfl) dX12_gangs_59 ⟨(Nat.le_of_ble_eq_true rfl), (Nat.le_of_ble_eq_true rfl)⟩) (fun r hw => ?_)
    obtain rfl : r = 0 := hw.1.trans (by unfold sp_X12_is; (try rw [if_neg (by decide)]) <;> first | rfl | decide)
    refine lv_if_eq (tgt := 77) hx hb dX12_gangs_62 (by decide) (fun _ => ?_) (fun h => absurd (by decide) h)
    refine lv_iinc (v := 11) (lv' := [(5, .int 11), (4, .int 0), (0, .ref h0), (1, .long 0), (3, .int a)]) hx hb dX12_gangs_77 hl (k := 0) rfl (by first | rfl | decide) (by decide) rfl (fun ls hl => ?_)
    refine lv_goto (tgt := 49) hx hb dX12_gangs_80 (by decide) ?_
    refine lv_iload hx hb dX12_gangs_49 (lv_at hl 0 rfl) ?_
    refine lv_bipush (v := 40) hx hb dX12_gangs_51 (by decide) ?_
    refine lv_icmp_ge (tgt := 83) hx hb dX12_gangs_53 (by decide) (fun h => absurd h (by decide)) (fun _ => ?_)
    refine lv_lload_n hx hb dX12_gangs_56 rfl (lv_at hl 3 rfl) ?_
    refine lv_iload hx hb dX12_gangs_57 (lv_at hl 0 rfl) ?_
    refine vp_callSi (mkSr (rest := []) ⟨hx, hb, hml, hown, htl⟩ hN hK (c_X12_is l G cs 0 11) (cS 2 htl lk_RX12_159 mT_X12_is mN_RX12 mC_X12_is ok_X12_is rfl rfl ⟨(Nat.le_of_ble_eq_true rfl), (Nat.le_of_ble_eq_true rfl)⟩) rfl hl.1 rfl (Nat.le_of_ble_eq_true rfl) dX12_gangs_59 ⟨(Nat.le_of_ble_eq_true rfl), (Nat.le_of_ble_eq_true rfl)⟩) (fun r hw => ?_)
    obtain rfl : r = 0 := hw.1.trans (by unfold sp_X12_is; (try rw [if_neg (by decide)]) <;> first | rfl | decide)
    refine lv_if_eq (tgt := 77) hx hb dX12_gangs_62 (by decide) (fun _ => ?_) (fun h => absurd (by decide) h)
    refine lv_iinc (v := 12) (lv' := [(5, .int 12), (4, .int 0), (0, .ref h0), (1, .long 0), (3, .int a)]) hx hb dX12_gangs_77 hl (k := 0) rfl (by first | rfl | decide) (by decide) rfl (fun ls hl => ?_)
    refine lv_goto (tgt := 49) hx hb dX12_gangs_80 (by decide) ?_
    refine lv_iload hx hb dX12_gangs_49 (lv_at hl 0 rfl) ?_
    refine lv_bipush (v := 40) hx hb dX12_gangs_51 (by decide) ?_
    refine lv_icmp_ge (tgt := 83) hx hb dX12_gangs_53 (by decide) (fun h => absurd h (by decide)) (fun _ => ?_)
    refine lv_lload_n hx hb dX12_gangs_56 rfl (lv_at hl 3 rfl) ?_
    refine lv_iload hx hb dX12_gangs_57 (lv_at hl 0 rfl) ?_
    refine vp_callSi (mkSr (rest := []) ⟨hx, hb, hml, hown, htl⟩ hN hK (c_X12_is l G cs 0 12) (cS 2 htl lk_RX12_159 mT_X12_is mN_RX12 mC_X12_is ok_X12_is rfl rfl ⟨(Nat.le_of_ble_eq_true rfl), (Nat.le_of_ble_eq_true rfl)⟩) rfl hl.1 rfl (Nat.le_of_ble_eq_true rfl) dX12_gangs_59 ⟨(Nat.le_of_ble_eq_true rfl), (Nat.le_of_ble_eq_true rfl)⟩) (fun r hw => ?_)
    obtain rfl : r = 0 := hw.1.trans (by unfold sp_X12_is; (try rw [if_neg (by decide)]) <;> first | rfl | decide)
    refine lv_if_eq (tgt := 77) hx hb dX12_gangs_62 (by decide) (fun _ => ?_) (fun h => absurd (by decide) h)
    refine lv_iinc (v := 13) (lv' := [(5, .int 13), (4, .int 0), (0, .ref h0), (1, .long 0), (3, .int a)]) hx hb dX12_gangs_77 hl (k := 0) rfl (by first | rfl | decide) (by decide) rfl (fun ls hl => ?_)
    refine lv_goto (tgt := 49) hx hb dX12_gangs_80 (by decide) ?_
    refine lv_iload hx hb dX12_gangs_49 (lv_at hl 0 rfl) ?_
    refine lv_bipush (v := 40) hx hb dX12_gangs_51 (by decide) ?_
    refine lv_icmp_ge (tgt := 83) hx hb dX12_gangs_53 (by decide) (fun h => absurd h (by decide)) (fun _ => ?_)
    refine lv_lload_n hx hb dX12_gangs_56 rfl (lv_at hl 3 rfl) ?_
    refine lv_iload hx hb dX12_gangs_57 (lv_at hl 0 rfl) ?_
    refine vp_callSi (mkSr (rest := []) ⟨hx, hb, hml, hown, htl⟩ hN hK (c_X12_is l G cs 0 13) (cS 2 htl lk_RX12_159 mT_X12_is mN_RX12 mC_X12_is ok_X12_is rfl rfl ⟨(Nat.le_of_ble_eq_true rfl), (Nat.le_of_ble_eq_true rfl)⟩) rfl hl.1 rfl (Nat.le_of_ble_eq_true rfl) dX12_gangs_59 ⟨(Nat.le_of_ble_eq_true rfl), (Nat.le_of_ble_eq_true rfl)⟩) (fun r hw => ?_)
    obtain rfl : r = 0 := hw.1.trans (by unfold sp_X12_is; (try rw [if_neg (by decide)]) <;> first | rfl | decide)
    refine lv_if_eq (tgt := 77) hx hb dX12_gangs_62 (by decide) (fun _ => ?_) (fun h => absurd (by decide) h)
    refine lv_iinc (v := 14) (lv' := [(5, .int 14), (4, .int 0), (0, .ref h0), (1, .long 0), (3, .int a)]) hx hb dX12_gangs_77 hl (k := 0) rfl (by first | rfl | decide) (by decide) rfl (fun ls hl => ?_)
    refine lv_goto (tgt := 49) hx hb dX12_gangs_80 (by decide) ?_
    refine lv_iload hx hb dX12_gangs_49 (lv_at hl 0 rfl) ?_
    refine lv_bipush (v := 40) hx hb dX12_gangs_51 (by decide) ?_
    refine lv_icmp_ge (tgt := 83) hx hb dX12_gangs_53 (by decide) (fun h => absurd h (by decide)) (fun _ => ?_)
    refine lv_lload_n hx hb dX12_gangs_56 rfl (lv_at hl 3 rfl) ?_
    refine lv_iload hx hb dX12_gangs_57 (lv_at hl 0 rfl) ?_
    refine vp_callSi (mkSr (rest := []) ⟨hx, hb, hml, hown, htl⟩ hN hK (c_X12_is l G cs 0 14) (cS 2 htl lk_RX12_159 mT_X12_is mN_RX12 mC_X12_is ok_X12_is rfl rfl ⟨(Nat.le_of_ble_eq_true rfl), (Nat.le_of_ble_eq_true rfl)⟩) rfl hl.1 rfl (Nat.le_of_ble_eq_true rfl) dX12_gangs_59 ⟨(Nat.le_of_ble_eq_true rfl), (Nat.le_of_ble_eq_true rfl)⟩) (fun r hw => ?_)
    obtain rfl : r = 0 := hw.1.trans (by unfold sp_X12_is; (try rw [if_neg (by decide)]) <;> first | rfl | decide)
    refine lv_if_eq (tgt := 77) hx hb dX12_gangs_62 (by decide) (fun _ => ?_) (fun h => absurd (by decide) h)
    refine lv_iinc (v := 15) (lv' := [(5, .int 15), (4, .int 0), (0, .ref h0), (1, .long 0), (3, .int a)]) hx hb dX12_gangs_77 hl (k := 0) rfl (by first | rfl | decide) (by decide) rfl (fun ls hl => ?_)
    refine lv_goto (tgt := 49) hx hb dX12_gangs_80 (by decide) ?_
    refine lv_iload hx hb dX12_gangs_49 (lv_at hl 0 rfl) ?_
    refine lv_bipush (v := 40) hx hb dX12_gangs_51 (by decide) ?_
    refine lv_icmp_ge (tgt := 83) hx hb dX12_gangs_53 (by decide) (fun h => absurd h (by decide)) (fun _ => ?_)
    refine lv_lload_n hx hb dX12_gangs_56 rfl (lv_at hl 3 rfl) ?_
    refine lv_iload hx hb dX12_gangs_57 (lv_at hl 0 rfl) ?_
    refine vp_callSi (mkSr (rest := []) ⟨hx, hb, hml, hown, htl⟩ hN hK (c_X12_is l G cs 0 15) (cS 2 htl lk_RX12_159 mT_X12_is mN_RX12 mC_X12_is ok_X12_is rfl rfl ⟨(Nat.le_of_ble_eq_true rfl), (Nat.le_of_ble_eq_true rfl)⟩) rfl hl.1 rfl (Nat.le_of_ble_eq_true rfl) dX12_gangs_59 ⟨(Nat.le_of_ble_eq_true rfl), (Nat.le_of_ble_eq_true rfl)⟩) (fun r hw => ?_)
    obtain rfl : r = 0 := hw.1.trans (by unfold sp_X12_is; (try rw [if_neg (by decide)]) <;> first | rfl | decide)
    refine lv_if_eq (tgt := 77) hx hb dX12_gangs_62 (by decide) (fun _ => ?_) (fun h => absurd (by decide) h)
    refine lv_iinc (v := 16) (lv' := [(5, .int 16), (4, .int 0), (0, .ref h0), (1, .long 0), (3, .int a)]) hx hb dX12_gangs_77 hl (k := 0) rfl (by first | rfl | decide) (by decide) rfl (fun ls hl => ?_)
    refine lv_goto (tgt := 49) hx hb dX12_gangs_80 (by decide) ?_
    refine lv_iload hx hb dX12_gangs_49 (lv_at hl 0 rfl) ?_
    refine lv_bipush (v := 40) hx hb dX12_gangs_51 (by decide) ?_
    refine lv_icmp_ge (tgt := 83) hx hb dX12_gangs_53 (by decide) (fun h => absurd h (by decide)) (fun _ => ?_)
    refine lv_lload_n hx hb dX12_gangs_56 rfl (lv_at hl 3 rfl) ?_
    refine lv_iload hx hb dX12_gangs_57 (lv_at hl 0 rfl) ?_
    refine vp_callSi (mkSr (rest := []) ⟨hx, hb, hml, hown, htl⟩ hN hK (c_X12_is l G cs 0 16) (cS 2 htl lk_RX12_159 mT_X12_is mN_RX12 mC_X12_is ok_X12_is rfl rfl ⟨(Nat.le_of_ble_eq_true rfl), (Nat.le_of_ble_eq_true rfl)⟩) rfl hl.1 rfl (Nat.le_of_ble_eq_true rfl) dX12_gangs_59 ⟨(Nat.le_of_ble_eq_true rfl), (Nat.le_of_ble_eq_true rfl)⟩) (fun r hw => ?_)
    obtain rfl : r = 0 := hw.1.trans (by unfold sp_X12_is; (try rw [if_neg (by decide)]) <;> first | rfl | decide)
    refine lv_if_eq (tgt := 77) hx hb dX12_gangs_62 (by decide) (fun _ => ?_) (fun h => absurd (by decide) h)
    refine lv_iinc (v := 17) (lv' := [(5, .int 17), (4, .int 0), (0, .ref h0), (1, .long 0), (3, .int a)]) hx hb dX12_gangs_77 hl (k := 0) rfl (by first | rfl | decide) (by decide) rfl (fun ls hl => ?_)
    refine lv_goto (tgt := 49) hx hb dX12_gangs_80 (by decide) ?_
    refine lv_iload hx hb dX12_gangs_49 (lv_at hl 0 rfl) ?_
    refine lv_bipush (v := 40) hx hb dX12_gangs_51 (by decide) ?_
    refine lv_icmp_ge (tgt := 83) hx hb dX12_gangs_53 (by decide) (fun h => absurd h (by decide)) (fun _ => ?_)
    refine lv_lload_n hx hb dX12_gangs_56 rfl (lv_at hl 3 rfl) ?_
    refine lv_iload hx hb dX12_gangs_57 (lv_at hl 0 rfl) ?_
    refine vp_callSi (mkSr (rest := []) ⟨hx, hb, hml, hown, htl⟩ hN hK (c_X12_is l G cs 0 17) (cS 2 htl lk_RX12_159 mT_X12_is mN_RX12 mC_X12_is ok_X12_is rfl rfl ⟨(Nat.le_of_ble_eq_true rfl), (Nat.le_of_ble_eq_true rfl)⟩) rfl hl.1 rfl (Nat.le_of_ble_eq_true rfl) dX12_gangs_59 ⟨(Nat.le_of_ble_eq_true rfl), (Nat.le_of_ble_eq_true rfl)⟩) (fun r hw => ?_)
    obtain rfl : r = 0 := hw.1.trans (by unfold sp_X12_is; (try rw [if_neg (by decide)]) <;> first | rfl | decide)
    refine lv_if_eq (tgt := 77) hx hb dX12_gangs_62 (by decide) (fun _ => ?_) (fun h => absurd (by decide) h)
    refine lv_iinc (v := 18) (lv' := [(5, .int 18), (4, .int 0), (0, .ref h0), (1, .long 0), (3, .int a)]) hx hb dX12_gangs_77 hl (k := 0) rfl (by first | rfl | decide) (by decide) rfl (fun ls hl => ?_)
    refine lv_goto (tgt := 49) hx hb dX12_gangs_80 (by decide) ?_
    refine lv_iload hx hb dX12_gangs_49 (lv_at hl 0 rfl) ?_
    refine lv_bipush (v := 40) hx hb dX12_gangs_51 (by decide) ?_
    refine lv_icmp_ge (tgt := 83) hx hb dX12_gangs_53 (by decide) (fun h => absurd h (by decide)) (fun _ => ?_)
    refine lv_lload_n hx hb dX12_gangs_56 rfl (lv_at hl 3 rfl) ?_
    refine lv_iload hx hb dX12_gangs_57 (lv_at hl 0 rfl) ?_
    refine vp_callSi (mkSr (rest := []) ⟨hx, hb, hml, hown, htl⟩ hN hK (c_X12_is l G cs 0 18) (cS 2 htl lk_RX12_159 mT_X12_is mN_RX12 mC_X12_is ok_X12_is rfl rfl ⟨(Nat.le_of_ble_eq_true rfl), (Nat.le_of_ble_eq_true rfl)⟩) rfl hl.1 rfl (Nat.le_of_ble_eq_true rfl) dX12_gangs_59 ⟨(Nat.le_of_ble_eq_true rfl), (Nat.le_of_ble_eq_true rfl)⟩) (fun r hw => ?_)
    obtain rfl : r = 0 := hw.1.trans (by unfold sp_X12_is; (try rw [if_neg (by decide)]) <;> first | rfl | decide)
    refine lv_if_eq (tgt := 77) hx hb dX12_gangs_62 (by decide) (fun _ => ?_) (fun h => absurd (by decide) h)
    refine lv_iinc (v := 19) (lv' := [(5, .int 19), (4, .int 0), (0, .ref h0), (1, .long 0), (3, .int a)]) hx hb dX12_gangs_77 hl (k := 0) rfl (by first | rfl | decide) (by decide) rfl (fun ls hl => ?_)
    refine lv_goto (tgt := 49) hx hb dX12_gangs_80 (by decide) ?_
    refine lv_iload hx hb dX12_gangs_49 (lv_at hl 0 rfl) ?_
    refine lv_bipush (v := 40) hx hb dX12_gangs_51 (by decide) ?_
    refine lv_icmp_ge (tgt := 83) hx hb dX12_gangs_53 (by decide) (fun h => absurd h (by decide)) (fun _ => ?_)
    refine lv_lload_n hx hb dX12_gangs_56 rfl (lv_at hl 3 rfl) ?_
    refine lv_iload hx hb dX12_gangs_57 (lv_at hl 0 rfl) ?_
    refine vp_callSi (mkSr (rest := []) ⟨hx, hb, hml, hown, htl⟩ hN hK (c_X12_is l G cs 0 19) (cS 2 htl lk_RX12_159 mT_X12_is mN_RX12 mC_X12_is ok_X12_is rfl rfl ⟨(Nat.le_of_ble_eq_true rfl), (Nat.le_of_ble_eq_true rfl)⟩) rfl hl.1 rfl (Nat.le_of_ble_eq_true rfl) dX12_gangs_59 ⟨(Nat.le_of_ble_eq_true rfl), (Nat.le_of_ble_eq_true rfl)⟩) (fun r hw => ?_)
    obtain rfl : r = 0 := hw.1.trans (by unfold sp_X12_is; (try rw [if_neg (by decide)]) <;> first | rfl | decide)
    refine lv_if_eq (tgt := 77) hx hb dX12_gangs_62 (by decide) (fun _ => ?_) (fun h => absurd (by decide) h)
    refine lv_iinc (v := 20) (lv' := [(5, .int 20), (4, .int 0), (0, .ref h0), (1, .long 0), (3, .int a)]) hx hb dX12_gangs_77 hl (k := 0) rfl (by first | rfl | decide) (by decide) rfl (fun ls hl => ?_)
    refine lv_goto (tgt := 49) hx hb dX12_gangs_80 (by decide) ?_
    refine lv_iload hx hb dX12_gangs_49 (lv_at hl 0 rfl) ?_
    refine lv_bipush (v := 40) hx hb dX12_gangs_51 (by decide) ?_
    refine lv_icmp_ge (tgt := 83) hx hb dX12_gangs_53 (by decide) (fun h => absurd h (by decide)) (fun _ => ?_)
    refine lv_lload_n hx hb dX12_gangs_56 rfl (lv_at hl 3 rfl) ?_
    refine lv_iload hx hb dX12_gangs_57 (lv_at hl 0 rfl) ?_
    refine vp_callSi (mkSr (rest := []) ⟨hx, hb, hml, hown, htl⟩ hN hK (c_X12_is l G cs 0 20) (cS 2 htl lk_RX12_159 mT_X12_is mN_RX12 mC_X12_is ok_X12_is rfl rfl ⟨(Nat.le_of_ble_eq_true rfl), (Nat.le_of_ble_eq_true rfl)⟩) rfl hl.1 rfl (Nat.le_of_ble_eq_true rfl) dX12_gangs_59 ⟨(Nat.le_of_ble_eq_true rfl), (Nat.le_of_ble_eq_true rfl)⟩) (fun r hw => ?_)
    obtain rfl : r = 0 := hw.1.trans (by unfold sp_X12_is; (try rw [if_neg (by decide)]) <;> first | rfl | decide)
    refine lv_if_eq (tgt := 77) hx hb dX12_gangs_62 (by decide) (fun _ => ?_) (fun h => absurd (by decide) h)
    refine lv_iinc (v := 21) (lv' := [(5, .int 21), (4, .int 0), (0, .ref h0), (1, .long 0), (3, .int a)]) hx hb dX12_gangs_77 hl (k := 0) rfl (by first | rfl | decide) (by decide) rfl (fun ls hl => ?_)
    refine lv_goto (tgt := 49) hx hb dX12_gangs_80 (by decide) ?_
    refine lv_iload hx hb dX12_gangs_49 (lv_at hl 0 rfl) ?_
    refine lv_bipush (v := 40) hx hb dX12_gangs_51 (by decide) ?_
    refine lv_icmp_ge (tgt := 83) hx hb dX12_gangs_53 (by decide) (fun h => absurd h (by decide)) (fun _ => ?_)
    refine lv_lload_n hx hb dX12_gangs_56 rfl (lv_at hl 3 rfl) ?_
    refine lv_iload hx hb dX12_gangs_57 (lv_at hl 0 rfl) ?_
    refine vp_callSi (mkSr (rest := []) ⟨hx, hb, hml, hown, htl⟩ hN hK (c_X12_is l G cs 0 21) (cS 2 htl lk_RX12_159 mT_X12_is mN_RX12 mC_X12_is ok_X12_is rfl rfl ⟨(Nat.le_of_ble_eq_true rfl), (Nat.le_of_ble_eq_true rfl)⟩) rfl hl.1 rfl (Nat.le_of_ble_eq_true rfl) dX12_gangs_59 ⟨(Nat.le_of_ble_eq_true rfl), (Nat.le_of_ble_eq_true rfl)⟩) (fun r hw => ?_)
    obtain rfl : r = 0 := hw.1.trans (by unfold sp_X12_is; (try rw [if_neg (by decide)]) <;> first | rfl | decide)
    refine lv_if_eq (tgt := 77) hx hb dX12_gangs_62 (by decide) (fun _ => ?_) (fun h => absurd (by decide) h)
    refine lv_iinc (v := 22) (lv' := [(5, .int 22), (4, .int 0), (0, .ref h0), (1, .long 0), (3, .int a)]) hx hb dX12_gangs_77 hl (k := 0) rfl (by first | rfl | decide) (by decide) rfl (fun ls hl => ?_)
    refine lv_goto (tgt := 49) hx hb dX12_gangs_80 (by decide) ?_
    refine lv_iload hx hb dX12_gangs_49 (lv_at hl 0 rfl) ?_
    refine lv_bipush (v := 40) hx hb dX12_gangs_51 (by decide) ?_
    refine lv_icmp_ge (tgt := 83) hx hb dX12_gangs_53 (by decide) (fun h => absurd h (by decide)) (fun _ => ?_)
    refine lv_lload_n hx hb dX12_gangs_56 rfl (lv_at hl 3 rfl) ?_
    refine lv_iload hx hb dX12_gangs_57 (lv_at hl 0 rfl) ?_
    refine vp_callSi (mkSr (rest := []) ⟨hx, hb, hml, hown, htl⟩ hN hK (c_X12_is l G cs 0 22) (cS 2 htl lk_RX12_159 mT_X12_is mN_RX12 mC_X12_is ok_X12_is rfl rfl ⟨(Nat.le_of_ble_eq_true rfl), (Nat.le_of_ble_eq_true rfl)⟩) rfl hl.1 rfl (Nat.le_of_ble_eq_true rfl) dX12_gangs_59 ⟨(Nat.le_of_ble_eq_true rfl), (Nat.le_of_ble_eq_true rfl)⟩) (fun r hw => ?_)
    obtain rfl : r = 0 := hw.1.trans (by unfold sp_X12_is; (try rw [if_neg (by decide)]) <;> first | rfl | decide)
    refine lv_if_eq (tgt := 77) hx hb dX12_gangs_62 (by decide) (fun _ => ?_) (fun h => absurd (by decide) h)
    refine lv_iinc (v := 23) (lv' := [(5, .int 23), (4, .int 0), (0, .ref h0), (1, .long 0), (3, .int a)]) hx hb dX12_gangs_77 hl (k := 0) rfl (by first | rfl | decide) (by decide) rfl (fun ls hl => ?_)
    refine lv_goto (tgt := 49) hx hb dX12_gangs_80 (by decide) ?_
    refine lv_iload hx hb dX12_gangs_49 (lv_at hl 0 rfl) ?_
    refine lv_bipush (v := 40) hx hb dX12_gangs_51 (by decide) ?_
    refine lv_icmp_ge (tgt := 83) hx hb dX12_gangs_53 (by decide) (fun h => absurd h (by decide)) (fun _ => ?_)
    refine lv_lload_n hx hb dX12_gangs_56 rfl (lv_at hl 3 rfl) ?_
    refine lv_iload hx hb dX12_gangs_57 (lv_at hl 0 rfl) ?_
    refine vp_callSi (mkSr (rest := []) ⟨hx, hb, hml, hown, htl⟩ hN hK (c_X12_is l G cs 0 23) (cS 2 htl lk_RX12_159 mT_X12_is mN_RX12 mC_X12_is ok_X12_is rfl rfl ⟨(Nat.le_of_ble_eq_true rfl), (Nat.le_of_ble_eq_true rfl)⟩) rfl hl.1 rfl (Nat.le_of_ble_eq_true rfl) dX12_gangs_59 ⟨(Nat.le_of_ble_eq_true rfl), (Nat.le_of_ble_eq_true rfl)⟩) (fun r hw => ?_)
    obtain rfl : r = 0 := hw.1.trans (by unfold sp_X12_is; (try rw [if_neg (by decide)]) <;> first | rfl | decide)
    refine lv_if_eq (tgt := 77) hx hb dX12_gangs_62 (by decide) (fun _ => ?_) (fun h => absurd (by decide) h)
    refine lv_iinc (v := 24) (lv' := [(5, .int 24), (4, .int 0), (0, .ref h0), (1, .long 0), (3, .int a)]) hx hb dX12_gangs_77 hl (k := 0) rfl (by first | rfl | decide) (by decide) rfl (fun ls hl => ?_)
    refine lv_goto (tgt := 49) hx hb dX12_gangs_80 (by decide) ?_
    refine lv_iload hx hb dX12_gangs_49 (lv_at hl 0 rfl) ?_
    refine lv_bipush (v := 40) hx hb dX12_gangs_51 (by decide) ?_
    refine lv_icmp_ge (tgt := 83) hx hb dX12_gangs_53 (by decide) (fun h => absurd h (by decide)) (fun _ => ?_)
    refine lv_lload_n hx hb dX12_gangs_56 rfl (lv_at hl 3 rfl) ?_
    refine lv_iload hx hb dX12_gangs_57 (lv_at hl 0 rfl) ?_
    refine vp_callSi (mkSr (rest := []) ⟨hx, hb, hml, hown, htl⟩ hN hK (c_X12_is l G cs 0 24) (cS 2 htl lk_RX12_159 mT_X12_is mN_RX12 mC_X12_is ok_X12_is rfl rfl ⟨(Nat.le_of_ble_eq_true rfl), (Nat.le_of_ble_eq_true rfl)⟩) rfl hl.1 rfl (Nat.le_of_ble_eq_true rfl) dX12_gangs_59 ⟨(Nat.le_of_ble_eq_true rfl), (Nat.le_of_ble_eq_true rfl)⟩) (fun r hw => ?_)
    obtain rfl : r = 0 := hw.1.trans (by unfold sp_X12_is; (try rw [if_neg (by decide)]) <;> first | rfl | decide)
    refine lv_if_eq (tgt := 77) hx hb dX12_gangs_62 (by decide) (fun _ => ?_) (fun h => absurd (by decide) h)
    refine lv_iinc (v := 25) (lv' := [(5, .int 25), (4, .int 0), (0, .ref h0), (1, .long 0), (3, .int a)]) hx hb dX12_gangs_77 hl (k := 0) rfl (by first | rfl | decide) (by decide) rfl (fun ls hl => ?_)
    refine lv_goto (tgt := 49) hx hb dX12_gangs_80 (by decide) ?_
    refine lv_iload hx hb dX12_gangs_49 (lv_at hl 0 rfl) ?_
    refine lv_bipush (v := 40) hx hb dX12_gangs_51 (by decide) ?_
    refine lv_icmp_ge (tgt := 83) hx hb dX12_gangs_53 (by decide) (fun h => absurd h (by decide)) (fun _ => ?_)
    refine lv_lload_n hx hb dX12_gangs_56 rfl (lv_at hl 3 rfl) ?_
    refine lv_iload hx hb dX12_gangs_57 (lv_at hl 0 rfl) ?_
    refine vp_callSi (mkSr (rest := []) ⟨hx, hb, hml, hown, htl⟩ hN hK (c_X12_is l G cs 0 25) (cS 2 htl lk_RX12_159 mT_X12_is mN_RX12 mC_X12_is ok_X12_is rfl rfl ⟨(Nat.le_of_ble_eq_true rfl), (Nat.le_of_ble_eq_true rfl)⟩) rfl hl.1 rfl (Nat.le_of_ble_eq_true rfl) dX12_gangs_59 ⟨(Nat.le_of_ble_eq_true rfl), (Nat.le_of_ble_eq_true rfl)⟩) (fun r hw => ?_)
    obtain rfl : r = 0 := hw.1.trans (by unfold sp_X12_is; (try rw [if_neg (by decide)]) <;> first | rfl | decide)
    refine lv_if_eq (tgt := 77) hx hb dX12_gangs_62 (by decide) (fun _ => ?_) (fun h => absurd (by decide) h)
    refine lv_iinc (v := 26) (lv' := [(5, .int 26), (4, .int 0), (0, .ref h0), (1, .long 0), (3, .int a)]) hx hb dX12_gangs_77 hl (k := 0) rfl (by first | rfl | decide) (by decide) rfl (fun ls hl => ?_)
    refine lv_goto (tgt := 49) hx hb dX12_gangs_80 (by decide) ?_
    refine lv_iload hx hb dX12_gangs_49 (lv_at hl 0 rfl) ?_
    refine lv_bipush (v := 40) hx hb dX12_gangs_51 (by decide) ?_
    refine lv_icmp_ge (tgt := 83) hx hb dX12_gangs_53 (by decide) (fun h => absurd h (by decide)) (fun _ => ?_)
    refine lv_lload_n hx hb dX12_gangs_56 rfl (lv_at hl 3 rfl) ?_
    refine lv_iload hx hb dX12_gangs_57 (lv_at hl 0 rfl) ?_
    refine vp_callSi (mkSr (rest := []) ⟨hx, hb, hml, hown, htl⟩ hN hK (c_X12_is l G cs 0 26) (cS 2 htl lk_RX12_159 mT_X12_is mN_RX12 mC_X12_is ok_X12_is rfl rfl ⟨(Nat.le_of_ble_eq_true rfl), (Nat.le_of_ble_eq_true rfl)⟩) rfl hl.1 rfl (Nat.le_of_ble_eq_true rfl) dX12_gangs_59 ⟨(Nat.le_of_ble_eq_true rfl), (Nat.le_of_ble_eq_true rfl)⟩) (fun r hw => ?_)
    obtain rfl : r = 0 := hw.1.trans (by unfold sp_X12_is; (try rw [if_neg (by decide)]) <;> first | rfl | decide)
    refine lv_if_eq (tgt := 77) hx hb dX12_gangs_62 (by decide) (fun _ => ?_) (fun h => absurd (by decide) h)
    refine lv_iinc (v := 27) (lv' := [(5, .int 27), (4, .int 0), (0, .ref h0), (1, .long 0), (3, .int a)]) hx hb dX12_gangs_77 hl (k := 0) rfl (by first | rfl | decide) (by decide) rfl (fun ls hl => ?_)
    refine lv_goto (tgt := 49) hx hb dX12_gangs_80 (by decide) ?_
    refine lv_iload hx hb dX12_gangs_49 (lv_at hl 0 rfl) ?_
    refine lv_bipush (v := 40) hx hb dX12_gangs_51 (by decide) ?_
    refine lv_icmp_ge (tgt := 83) hx hb dX12_gangs_53 (by decide) (fun h => absurd h (by decide)) (fun _ => ?_)
    refine lv_lload_n hx hb dX12_gangs_56 rfl (lv_at hl 3 rfl) ?_
    refine lv_iload hx hb dX12_gangs_57 (lv_at hl 0 rfl) ?_
    refine vp_callSi (mkSr (rest := []) ⟨hx, hb, hml, hown, htl⟩ hN hK (c_X12_is l G cs 0 27) (cS 2 htl lk_RX12_159 mT_X12_is mN_RX12 mC_X12_is ok_X12_is rfl rfl ⟨(Nat.le_of_ble_eq_true rfl), (Nat.le_of_ble_eq_true rfl)⟩) rfl hl.1 rfl (Nat.le_of_ble_eq_true rfl) dX12_gangs_59 ⟨(Nat.le_of_ble_eq_true rfl), (Nat.le_of_ble_eq_true rfl)⟩) (fun r hw => ?_)
    obtain rfl : r = 0 := hw.1.trans (by unfold sp_X12_is; (try rw [if_neg (by decide)]) <;> first | rfl | decide)
    refine lv_if_eq (tgt := 77) hx hb dX12_gangs_62 (by decide) (fun _ => ?_) (fun h => absurd (by decide) h)
    refine lv_iinc (v := 28) (lv' := [(5, .int 28), (4, .int 0), (0, .ref h0), (1, .long 0), (3, .int a)]) hx hb dX12_gangs_77 hl (k := 0) rfl (by first | rfl | decide) (by decide) rfl (fun ls hl => ?_)
    refine lv_goto (tgt := 49) hx hb dX12_gangs_80 (by decide) ?_
    refine lv_iload hx hb dX12_gangs_49 (lv_at hl 0 rfl) ?_
    refine lv_bipush (v := 40) hx hb dX12_gangs_51 (by decide) ?_
    refine lv_icmp_ge (tgt := 83) hx hb dX12_gangs_53 (by decide) (fun h => absurd h (by decide)) (fun _ => ?_)
    refine lv_lload_n hx hb dX12_gangs_56 rfl (lv_at hl 3 rfl) ?_
    refine lv_iload hx hb dX12_gangs_57 (lv_at hl 0 rfl) ?_
    refine vp_callSi (mkSr (rest := []) ⟨hx, hb, hml, hown, htl⟩ hN hK (c_X12_is l G cs 0 28) (cS 2 htl lk_RX12_159 mT_X12_is mN_RX12 mC_X12_is ok_X12_is rfl rfl ⟨(Nat.le_of_ble_eq_true rfl), (Nat.le_of_ble_eq_true rfl)⟩) rfl hl.1 rfl (Nat.le_of_ble_eq_true rfl) dX12_gangs_59 ⟨(Nat.le_of_ble_eq_true rfl), (Nat.le_of_ble_eq_true rfl)⟩) (fun r hw => ?_)
    obtain rfl : r = 0 := hw.1.trans (by unfold sp_X12_is; (try rw [if_neg (by decide)]) <;> first | rfl | decide)
    refine lv_if_eq (tgt := 77) hx hb dX12_gangs_62 (by decide) (fun _ => ?_) (fun h => absurd (by decide) h)
    refine lv_iinc (v := 29) (lv' := [(5, .int 29), (4, .int 0), (0, .ref h0), (1, .long 0), (3, .int a)]) hx hb dX12_gangs_77 hl (k := 0) rfl (by first | rfl | decide) (by decide) rfl (fun ls hl => ?_)
    refine lv_goto (tgt := 49) hx hb dX12_gangs_80 (by decide) ?_
    refine lv_iload hx hb dX12_gangs_49 (lv_at hl 0 rfl) ?_
    refine lv_bipush (v := 40) hx hb dX12_gangs_51 (by decide) ?_
    refine lv_icmp_ge (tgt := 83) hx hb dX12_gangs_53 (by decide) (fun h => absurd h (by decide)) (fun _ => ?_)
    refine lv_lload_n hx hb dX12_gangs_56 rfl (lv_at hl 3 rfl) ?_
    refine lv_iload hx hb dX12_gangs_57 (lv_at hl 0 rfl) ?_
    refine vp_callSi (mkSr (rest := []) ⟨hx, hb, hml, hown, htl⟩ hN hK (c_X12_is l G cs 0 29) (cS 2 htl lk_RX12_159 mT_X12_is mN_RX12 mC_X12_is ok_X12_is rfl rfl ⟨(Nat.le_of_ble_eq_true rfl), (Nat.le_of_ble_eq_true rfl)⟩) rfl hl.1 rfl (Nat.le_of_ble_eq_true rfl) dX12_gangs_59 ⟨(Nat.le_of_ble_eq_true rfl), (Nat.le_of_ble_eq_true rfl)⟩) (fun r hw => ?_)
    obtain rfl : r = 0 := hw.1.trans (by unfold sp_X12_is; (try rw [if_neg (by decide)]) <;> first | rfl | decide)
    refine lv_if_eq (tgt := 77) hx hb dX12_gangs_62 (by decide) (fun _ => ?_) (fun h => absurd (by decide) h)
    refine lv_iinc (v := 30) (lv' := [(5, .int 30), (4, .int 0), (0, .ref h0), (1, .long 0), (3, .int a)]) hx hb dX12_gangs_77 hl (k := 0) rfl (by first | rfl | decide) (by decide) rfl (fun ls hl => ?_)
    refine lv_goto (tgt := 49) hx hb dX12_gangs_80 (by decide) ?_
    refine lv_iload hx hb dX12_gangs_49 (lv_at hl 0 rfl) ?_
    refine lv_bipush (v := 40) hx hb dX12_gangs_51 (by decide) ?_
    refine lv_icmp_ge (tgt := 83) hx hb dX12_gangs_53 (by decide) (fun h => absurd h (by decide)) (fun _ => ?_)
    refine lv_lload_n hx hb dX12_gangs_56 rfl (lv_at hl 3 rfl) ?_
    refine lv_iload hx hb dX12_gangs_57 (lv_at hl 0 rfl) ?_
    refine vp_callSi (mkSr (rest := []) ⟨hx, hb, hml, hown, htl⟩ hN hK (c_X12_is l G cs 0 30) (cS 2 htl lk_RX12_159 mT_X12_is mN_RX12 mC_X12_is ok_X12_is rfl rfl ⟨(Nat.le_of_ble_eq_true rfl), (Nat.le_of_ble_eq_true rfl)⟩) rfl hl.1 rfl (Nat.le_of_ble_eq_true rfl) dX12_gangs_59 ⟨(Nat.le_of_ble_eq_true rfl), (Nat.le_of_ble_eq_true rfl)⟩) (fun r hw => ?_)
    obtain rfl : r = 0 := hw.1.trans (by unfold sp_X12_is; (try rw [if_neg (by decide)]) <;> first | rfl | decide)
    refine lv_if_eq (tgt := 77) hx hb dX12_gangs_62 (by decide) (fun _ => ?_) (fun h => absurd (by decide) h)
    refine lv_iinc (v := 31) (lv' := [(5, .int 31), (4, .int 0), (0, .ref h0), (1, .long 0), (3, .int a)]) hx hb dX12_gangs_77 hl (k := 0) rfl (by first | rfl | decide) (by decide) rfl (fun ls hl => ?_)
    refine lv_goto (tgt := 49) hx hb dX12_gangs_80 (by decide) ?_
    refine lv_iload hx hb dX12_gangs_49 (lv_at hl 0 rfl) ?_
    refine lv_bipush (v := 40) hx hb dX12_gangs_51 (by decide) ?_
    refine lv_icmp_ge (tgt := 83) hx hb dX12_gangs_53 (by decide) (fun h => absurd h (by decide)) (fun _ => ?_)
    refine lv_lload_n hx hb dX12_gangs_56 rfl (lv_at hl 3 rfl) ?_
    refine lv_iload hx hb dX12_gangs_57 (lv_at hl 0 rfl) ?_
    refine vp_callSi (mkSr (rest := []) ⟨hx, hb, hml, hown, htl⟩ hN hK (c_X12_is l G cs 0 31) (cS 2 htl lk_RX12_159 mT_X12_is mN_RX12 mC_X12_is ok_X12_is rfl rfl ⟨(Nat.le_of_ble_eq_true rfl), (Nat.le_of_ble_eq_true rfl)⟩) rfl hl.1 rfl (Nat.le_of_ble_eq_true rfl) dX12_gangs_59 ⟨(Nat.le_of_ble_eq_true rfl), (Nat.le_of_ble_eq_true rfl)⟩) (fun r hw => ?_)
    obtain rfl : r = 0 := hw.1.trans (by unfold sp_X12_is; (try rw [if_neg (by decide)]) <;> first | rfl | decide)
    refine lv_if_eq (tgt := 77) hx hb dX12_gangs_62 (by decide) (fun _ => ?_) (fun h => absurd (by decide) h)
    refine lv_iinc (v := 32) (lv' := [(5, .int 32), (4, .int 0), (0, .ref h0), (1, .long 0), (3, .int a)]) hx hb dX12_gangs_77 hl (k := 0) rfl (by first | rfl | decide) (by decide) rfl (fun ls hl => ?_)
    refine lv_goto (tgt := 49) hx hb dX12_gangs_80 (by decide) ?_
    refine lv_iload hx hb dX12_gangs_49 (lv_at hl 0 rfl) ?_
    refine lv_bipush (v := 40) hx hb dX12_gangs_51 (by decide) ?_
    refine lv_icmp_ge (tgt := 83) hx hb dX12_gangs_53 (by decide) (fun h => absurd h (by decide)) (fun _ => ?_)
    refine lv_lload_n hx hb dX12_gangs_56 rfl (lv_at hl 3 rfl) ?_
    refine lv_iload hx hb dX12_gangs_57 (lv_at hl 0 rfl) ?_
    refine vp_callSi (mkSr (rest := []) ⟨hx, hb, hml, hown, htl⟩ hN hK (c_X12_is l G cs 0 32) (cS 2 htl lk_RX12_159 mT_X12_is mN_RX12 mC_X12_is ok_X12_is rfl rfl ⟨(Nat.le_of_ble_eq_true rfl), (Nat.le_of_ble_eq_true rfl)⟩) rfl hl.1 rfl (Nat.le_of_ble_eq_true rfl) dX12_gangs_59 ⟨(Nat.le_of_ble_eq_true rfl), (Nat.le_of_ble_eq_true rfl)⟩) (fun r hw => ?_)
    obtain rfl : r = 0 := hw.1.trans (by unfold sp_X12_is; (try rw [if_neg (by decide)]) <;> first | rfl | decide)
    refine lv_if_eq (tgt := 77) hx hb dX12_gangs_62 (by decide) (fun _ => ?_) (fun h => absurd (by decide) h)
    refine lv_iinc (v := 33) (lv' := [(5, .int 33), (4, .int 0), (0, .ref h0), (1, .long 0), (3, .int a)]) hx hb dX12_gangs_77 hl (k := 0) rfl (by first | rfl | decide) (by decide) rfl (fun ls hl => ?_)
    refine lv_goto (tgt := 49) hx hb dX12_gangs_80 (by decide) ?_
    refine lv_iload hx hb dX12_gangs_49 (lv_at hl 0 rfl) ?_
    refine lv_bipush (v := 40) hx hb dX12_gangs_51 (by decide) ?_
    refine lv_icmp_ge (tgt := 83) hx hb dX12_gangs_53 (by decide) (fun h => absurd h (by decide)) (fun _ => ?_)
    refine lv_lload_n hx hb dX12_gangs_56 rfl (lv_at hl 3 rfl) ?_
    refine lv_iload hx hb dX12_gangs_57 (lv_at hl 0 rfl) ?_
    refine vp_callSi (mkSr (rest := []) ⟨hx, hb, hml, hown, htl⟩ hN hK (c_X12_is l G cs 0 33) (cS 2 htl lk_RX12_159 mT_X12_is mN_RX12 mC_X12_is ok_X12_is rfl rfl ⟨(Nat.le_of_ble_eq_true rfl), (Nat.le_of_ble_eq_true rfl)⟩) rfl hl.1 rfl (Nat.le_of_ble_eq_true rfl) dX12_gangs_59 ⟨(Nat.le_of_ble_eq_true rfl), (Nat.le_of_ble_eq_true rfl)⟩) (fun r hw => ?_)
    obtain rfl : r = 0 := hw.1.trans (by unfold sp_X12_is; (try rw [if_neg (by decide)]) <;> first | rfl | decide)
    refine lv_if_eq (tgt := 77) hx hb dX12_gangs_62 (by decide) (fun _ => ?_) (fun h => absurd (by decide) h)
    refine lv_iinc (v := 34) (lv' := [(5, .int 34), (4, .int 0), (0, .ref h0), (1, .long 0), (3, .int a)]) hx hb dX12_gangs_77 hl (k := 0) rfl (by first | rfl | decide) (by decide) rfl (fun ls hl => ?_)
    refine lv_goto (tgt := 49) hx hb dX12_gangs_80 (by decide) ?_
    refine lv_iload hx hb dX12_gangs_49 (lv_at hl 0 rfl) ?_
    refine lv_bipush (v := 40) hx hb dX12_gangs_51 (by decide) ?_
    refine lv_icmp_ge (tgt := 83) hx hb dX12_gangs_53 (by decide) (fun h => absurd h (by decide)) (fun _ => ?_)
    refine lv_lload_n hx hb dX12_gangs_56 rfl (lv_at hl 3 rfl) ?_
    refine lv_iload hx hb dX12_gangs_57 (lv_at hl 0 rfl) ?_
    refine vp_callSi (mkSr (rest := []) ⟨hx, hb, hml, hown, htl⟩ hN hK (c_X12_is l G cs 0 34) (cS 2 htl lk_RX12_159 mT_X12_is mN_RX12 mC_X12_is ok_X12_is rfl rfl ⟨(Nat.le_of_ble_eq_true rfl), (Nat.le_of_ble_eq_true rfl)⟩) rfl hl.1 rfl (Nat.le_of_ble_eq_true rfl) dX12_gangs_59 ⟨(Nat.le_of_ble_eq_true rfl), (Nat.le_of_ble_eq_true rfl)⟩) (fun r hw => ?_)
    obtain rfl : r = 0 := hw.1.trans (by unfold sp_X12_is; (try rw [if_neg (by decide)]) <;> first | rfl | decide)
    refine lv_if_eq (tgt := 77) hx hb dX12_gangs_62 (by decide) (fun _ => ?_) (fun h => absurd (by decide) h)
    refine lv_iinc (v := 35) (lv' := [(5, .int 35), (4, .int 0), (0, .ref h0), (1, .long 0), (3, .int a)]) hx hb dX12_gangs_77 hl (k := 0) rfl (by first | rfl | decide) (by decide) rfl (fun ls hl => ?_)
    refine lv_goto (tgt := 49) hx hb dX12_gangs_80 (by decide) ?_
    refine lv_iload hx hb dX12_gangs_49 (lv_at hl 0 rfl) ?_
    refine lv_bipush (v := 40) hx hb dX12_gangs_51 (by decide) ?_
    refine lv_icmp_ge (tgt := 83) hx hb dX12_gangs_53 (by decide) (fun h => absurd h (by decide)) (fun _ => ?_)
    refine lv_lload_n hx hb dX12_gangs_56 rfl (lv_at hl 3 rfl) ?_
    refine lv_iload hx hb dX12_gangs_57 (lv_at hl 0 rfl) ?_
    refine vp_callSi (mkSr (rest := []) ⟨hx, hb, hml, hown, htl⟩ hN hK (c_X12_is l G cs 0 35) (cS 2 htl lk_RX12_159 mT_X12_is mN_RX12 mC_X12_is ok_X12_is rfl rfl ⟨(Nat.le_of_ble_eq_true rfl), (Nat.le_of_ble_eq_true rfl)⟩) rfl hl.1 rfl (Nat.le_of_ble_eq_true rfl) dX12_gangs_59 ⟨(Nat.le_of_ble_eq_true rfl), (Nat.le_of_ble_eq_true rfl)⟩) (fun r hw => ?_)
    obtain rfl : r = 0 := hw.1.trans (by unfold sp_X12_is; (try rw [if_neg (by decide)]) <;> first | rfl | decide)
    refine lv_if_eq (tgt := 77) hx hb dX12_gangs_62 (by decide) (fun _ => ?_) (fun h => absurd (by decide) h)
    refine lv_iinc (v := 36) (lv' := [(5, .int 36), (4, .int 0), (0, .ref h0), (1, .long 0), (3, .int a)]) hx hb dX12_gangs_77 hl (k := 0) rfl (by first | rfl | decide) (by decide) rfl (fun ls hl => ?_)
    refine lv_goto (tgt := 49) hx hb dX12_gangs_80 (by decide) ?_
    refine lv_iload hx hb dX12_gangs_49 (lv_at hl 0 rfl) ?_
    refine lv_bipush (v := 40) hx hb dX12_gangs_51 (by decide) ?_
    refine lv_icmp_ge (tgt := 83) hx hb dX12_gangs_53 (by decide) (fun h => absurd h (by decide)) (fun _ => ?_)
    refine lv_lload_n hx hb dX12_gangs_56 rfl (lv_at hl 3 rfl) ?_
    refine lv_iload hx hb dX12_gangs_57 (lv_at hl 0 rfl) ?_
    refine vp_callSi (mkSr (rest := []) ⟨hx, hb, hml, hown, htl⟩ hN hK (c_X12_is l G cs 0 36) (cS 2 htl lk_RX12_159 mT_X12_is mN_RX12 mC_X12_is ok_X12_is rfl rfl ⟨(Nat.le_of_ble_eq_true rfl), (Nat.le_of_ble_eq_true rfl)⟩) rfl hl.1 rfl (Nat.le_of_ble_eq_true rfl) dX12_gangs_59 ⟨(Nat.le_of_ble_eq_true rfl), (Nat.le_of_ble_eq_true rfl)⟩) (fun r hw => ?_)
    obtain rfl : r = 0 := hw.1.trans (by unfold sp_X12_is; (try rw [if_neg (by decide)]) <;> first | rfl | decide)
    refine lv_if_eq (tgt := 77) hx hb dX12_gangs_62 (by decide) (fun _ => ?_) (fun h => absurd (by decide) h)
    refine lv_iinc (v := 37) (lv' := [(5, .int 37), (4, .int 0), (0, .ref h0), (1, .long 0), (3, .int a)]) hx hb dX12_gangs_77 hl (k := 0) rfl (by first | rfl | decide) (by decide) rfl (fun ls hl => ?_)
    refine lv_goto (tgt := 49) hx hb dX12_gangs_80 (by decide) ?_
    refine lv_iload hx hb dX12_gangs_49 (lv_at hl 0 rfl) ?_
    refine lv_bipush (v := 40) hx hb dX12_gangs_51 (by decide) ?_
    refine lv_icmp_ge (tgt := 83) hx hb dX12_gangs_53 (by decide) (fun h => absurd h (by decide)) (fun _ => ?_)
    refine lv_lload_n hx hb dX12_gangs_56 rfl (lv_at hl 3 rfl) ?_
    refine lv_iload hx hb dX12_gangs_57 (lv_at hl 0 rfl) ?_
    refine vp_callSi (mkSr (rest := []) ⟨hx, hb, hml, hown, htl⟩ hN hK (c_X12_is l G cs 0 37) (cS 2 htl lk_RX12_159 mT_X12_is mN_RX12 mC_X12_is ok_X12_is rfl rfl ⟨(Nat.le_of_ble_eq_true rfl), (Nat.le_of_ble_eq_true rfl)⟩) rfl hl.1 rfl (Nat.le_of_ble_eq_true rfl) dX12_gangs_59 ⟨(Nat.le_of_ble_eq_true rfl), (Nat.le_of_ble_eq_true rfl)⟩) (fun r hw => ?_)
    obtain rfl : r = 0 := hw.1.trans (by unfold sp_X12_is; (try rw [if_neg (by decide)]) <;> first | rfl | decide)
    refine lv_if_eq (tgt := 77) hx hb dX12_gangs_62 (by decide) (fun _ => ?_) (fun h => absurd (by decide) h)
    refine lv_iinc (v := 38) (lv' := [(5, .int 38), (4, .int 0), (0, .ref h0), (1, .long 0), (3, .int a)]) hx hb dX12_gangs_77 hl (k := 0) rfl (by first | rfl | decide) (by decide) rfl (fun ls hl => ?_)
    refine lv_goto (tgt := 49) hx hb dX12_gangs_80 (by decide) ?_
    refine lv_iload hx hb dX12_gangs_49 (lv_at hl 0 rfl) ?_
    refine lv_bipush (v := 40) hx hb dX12_gangs_51 (by decide) ?_
    refine lv_icmp_ge (tgt := 83) hx hb dX12_gangs_53 (by decide) (fun h => absurd h (by decide)) (fun _ => ?_)
    refine lv_lload_n hx hb dX12_gangs_56 rfl (lv_at hl 3 rfl) ?_
    refine lv_iload hx hb dX12_gangs_57 (lv_at hl 0 rfl) ?_
    refine vp_callSi (mkSr (rest := []) ⟨hx, hb, hml, hown, htl⟩ hN hK (c_X12_is l G cs 0 38) (cS 2 htl lk_RX12_159 mT_X12_is mN_RX12 mC_X12_is ok_X12_is rfl rfl ⟨(Nat.le_of_ble_eq_true rfl), (Nat.le_of_ble_eq_true rfl)⟩) rfl hl.1 rfl (Nat.le_of_ble_eq_true rfl) dX12_gangs_59 ⟨(Nat.le_of_ble_eq_true rfl), (Nat.le_of_ble_eq_true rfl)⟩) (fun r hw => ?_)
    obtain rfl : r = 0 := hw.1.trans (by unfold sp_X12_is; (try rw [if_neg (by decide)]) <;> first | rfl | decide)
    refine lv_if_eq (tgt := 77) hx hb dX12_gangs_62 (by decide) (fun _ => ?_) (fun h => absurd (by decide) h)
    refine lv_iinc (v := 39) (lv' := [(5, .int 39), (4, .int 0), (0, .ref h0), (1, .long 0), (3, .int a)]) hx hb dX12_gangs_77 hl (k := 0) rfl (by first | rfl | decide) (by decide) rfl (fun ls hl => ?_)
    refine lv_goto (tgt := 49) hx hb dX12_gangs_80 (by decide) ?_
    refine lv_iload hx hb dX12_gangs_49 (lv_at hl 0 rfl) ?_
    refine lv_bipush (v := 40) hx hb dX12_gangs_51 (by decide) ?_
    refine lv_icmp_ge (tgt := 83) hx hb dX12_gangs_53 (by decide) (fun h => absurd h (by decide)) (fun _ => ?_)
    refine lv_lload_n hx hb dX12_gangs_56 rfl (lv_at hl 3 rfl) ?_
    refine lv_iload hx hb dX12_gangs_57 (lv_at hl 0 rfl) ?_
    refine vp_callSi (mkSr (rest := []) ⟨hx, hb, hml, hown, htl⟩ hN hK (c_X12_is l G cs 0 39) (cS 2 htl lk_RX12_159 mT_X12_is mN_RX12 mC_X12_is ok_X12_is rfl rfl ⟨(Nat.le_of_ble_eq_true rfl), (Nat.le_of_ble_eq_true rfl)⟩) rfl hl.1 rfl (Nat.le_of_ble_eq_true rfl) dX12_gangs_59 ⟨(Nat.le_of_ble_eq_true rfl), (Nat.le_of_ble_eq_true rfl)⟩) (fun r hw => ?_)
    obtain rfl : r = 0 := hw.1.trans (by unfold sp_X12_is; (try rw [if_neg (by decide)]) <;> first | rfl | decide)
    refine lv_if_eq (tgt := 77) hx hb dX12_gangs_62 (by decide) (fun _ => ?_) (fun h => absurd (by decide) h)
    refine lv_iinc (v := 40) (lv' := [(5, .int 40), (4, .int 0), (0, .ref h0), (1, .long 0), (3, .int a)]) hx hb dX12_gangs_77 hl (k := 0) rfl (by first | rfl | decide) (by decide) rfl (fun ls hl => ?_)
    refine lv_goto (tgt := 49) hx hb dX12_gangs_80 (by decide) ?_
    refine lv_iload hx hb dX12_gangs_49 (lv_at hl 0 rfl) ?_
    refine lv_bipush (v := 40) hx hb dX12_gangs_51 (by decide) ?_
    refine lv_icmp_ge (tgt := 83) hx hb dX12_gangs_53 (by decide) (fun _ => ?_) (fun h => absurd (by decide) h)
    refine lv_iconst (v := 0) hx hb dX12_gangs_83 (by decide) ?_
    refine lv_istore (lv' := [(5, .int 0), (4, .int 0), (0, .ref h0), (1, .long 0), (3, .int a)]) hx hb dX12_gangs_84 hl (by decide) rfl (fun ls hl => ?_)
    refine lv_iload hx hb dX12_gangs_86 (lv_at hl 0 rfl) ?_
    refine lv_aload_n hx hb dX12_gangs_88 rfl (lv_at hl 2 rfl) ?_
    refine va_get (ci := 12) (v := .ref ho) (C := RX12) (T := TX12) (N := 59) hx hb htl inX12 hown hK hP 0 rfl rfl 3 (by decide) (htl _ fl_RX12_13) (fun _ h9 => h9) rfl dX12_gangs_89 ?_
    refine lv_iconst (v := 0) hx hb dX12_gangs_92 (by decide) ?_
    refine va_iald hx hb hK hP 1 0 rfl rfl (by unfold vp_in; decide) dX12_gangs_93 ?_
    refine lv_topi (fun xv ex => ?_)
    obtain rfl : xv = 0 := ex.trans (by first | exact pk_us | rfl | decide)
    refine lv_icmp_ge (tgt := 145) hx hb dX12_gangs_94 (by decide) (fun _ => ?_) (fun h => absurd (by decide) h)
    refine lv_aload_n hx hb dX12_gangs_145 rfl (lv_at hl 2 rfl) ?_
    refine lv_iload hx hb dX12_gangs_146 (lv_at hl 1 rfl) ?_
    refine mv (wr := [(h5, .inl (cs 0, 6, .inl g5))]) (mkV (rest := []) ⟨hx, hb, hml, hown, htl⟩ hN hK hP hD (c_X12_find_0 l G cs h0 (.int 0) f_h0_1 f_h0_2 ho f_h0_4 f_h0_5 f_h0_6 f_h0_7 f_h0_8 f_h0_9 f_h0_10 f_h0_11 f_h0_12 f_h0_13 f_h0_14 f_h0_15 f_h0_16 f_h0_17 f_h0_18 f_h0_19 f_h0_20 f_h0_21 f_h0_22 f_h0_23 f_h0_24 f_h0_25 f_h0_26 f_h0_27 f_h0_28 f_h0_29 f_h0_30 f_h0_31 f_h0_32 f_h0_33 f_h0_34 f_h0_35 f_h0_36 f_h0_37 f_h0_38 f_h0_39 f_h0_40 f_h0_41 (.ref h5) f_h0_43 hg f_h0_45 f_h0_46 f_h0_47 f_h0_48 f_h0_49 f_h0_50 f_h0_51 f_h0_52 f_h0_53 f_h0_54 f_h0_55 f_h0_56 f_h0_57 f_h0_58 (gf) _) [0, 1, 3] rfl rfl 0 12 rfl rfl (cV 1 htl lk_RX12_531 mI_X12_findGangs mS_X12_findGangs mN_RX12 mC_X12_findGangs ok_X12_findGangs rfl rfl ⟨(Nat.le_of_ble_eq_true rfl), (Nat.le_of_ble_eq_true rfl)⟩) rfl hl.1 rfl (Nat.le_of_ble_eq_true rfl) dX12_gangs_148 ⟨(Nat.le_of_ble_eq_true rfl), (Nat.le_of_ble_eq_true rfl)⟩) hP hD hS hA [0, 1, 3] [2] rfl rfl rfl (by decide) (fun u_148 H locs hw hP hD hS => ?_)
    have hP : va_P G vwCl [(h5, .inl (cs 0, 6, .inl g5)), (h0, .inr (12, [.int 0, f_h0_1, f_h0_2, .ref ho, f_h0_4, f_h0_5, f_h0_6, f_h0_7, f_h0_8, f_h0_9, f_h0_10, f_h0_11, f_h0_12, f_h0_13, f_h0_14, f_h0_15, f_h0_16, f_h0_17, f_h0_18, f_h0_19, f_h0_20, f_h0_21, f_h0_22, f_h0_23, f_h0_24, f_h0_25, f_h0_26, f_h0_27, f_h0_28, f_h0_29, f_h0_30, f_h0_31, f_h0_32, f_h0_33, f_h0_34, f_h0_35, f_h0_36, f_h0_37, f_h0_38, f_h0_39, f_h0_40, f_h0_41, .ref h5, f_h0_43, .ref hg, f_h0_45, .int 0, f_h0_47, f_h0_48, f_h0_49, f_h0_50, f_h0_51, f_h0_52, f_h0_53, f_h0_54, f_h0_55, f_h0_56, f_h0_57, f_h0_58]))] H := hP
    have hD : va_D A [(h5, .inl (cs 0, 6, .inl g5)), (h0, .inr (12, [.int 0, f_h0_1, f_h0_2, .ref ho, f_h0_4, f_h0_5, f_h0_6, f_h0_7, f_h0_8, f_h0_9, f_h0_10, f_h0_11, f_h0_12, f_h0_13, f_h0_14, f_h0_15, f_h0_16, f_h0_17, f_h0_18, f_h0_19, f_h0_20, f_h0_21, f_h0_22, f_h0_23, f_h0_24, f_h0_25, f_h0_26, f_h0_27, f_h0_28, f_h0_29, f_h0_30, f_h0_31, f_h0_32, f_h0_33, f_h0_34, f_h0_35, f_h0_36, f_h0_37, f_h0_38, f_h0_39, f_h0_40, f_h0_41, .ref h5, f_h0_43, .ref hg, f_h0_45, .int 0, f_h0_47, f_h0_48, f_h0_49, f_h0_50, f_h0_51, f_h0_52, f_h0_53, f_h0_54, f_h0_55, f_h0_56, f_h0_57, f_h0_58]))] := hD
    refine lv_aload_n hx hb dX12_gangs_151 rfl (lv_at hl 2 rfl) ?_
    refine va_get (ci := 12) (v := .int 0) (C := RX12) (T := TX12) (N := 59) hx hb htl inX12 hown hK hP 1 rfl rfl 46 (by decide) (htl _ fl_RX12_516) (fun _ h9 => h9) rfl dX12_gangs_152 ?_
    refine lv_ldcw hx hb hown (htl _ ct_RX12_505) dX12_gangs_155 ?_
    refine lv_icmp_ne (tgt := 165) hx hb dX12_gangs_158 (by decide) (fun _ => ?_) (fun h => absurd h (by decide))
    refine lv_iload_n hx hb dX12_gangs_165 rfl (lv_at hl 4 rfl) ?_
    refine lv_if_ne (tgt := 176) hx hb dX12_gangs_166 (by decide) (fun h => absurd (in_00 c_38) h) (fun _ => ?_)
    refine lv_aload_n hx hb dX12_gangs_169 rfl (lv_at hl 2 rfl) ?_
    refine va_get (ci := 12) (v := .int 0) (C := RX12) (T := TX12) (N := 59) hx hb htl inX12 hown hK hP 1 rfl rfl 46 (by decide) (htl _ fl_RX12_516) (fun _ h9 => h9) rfl dX12_gangs_170 ?_
    refine lv_goto (tgt := 184) hx hb dX12_gangs_173 (by decide) ?_
    exact W.iret (v := 0) hx hb hr (fun t ht hW => ⟨⟨0, (), rfl, (by unfold sp_X12_gangs_0; rw [if_neg c_38]), ⟨fun k q h => by simp at h, va_K.moved hW.alike hK, ⟨fun i j p q h => by simp at h, fun k q h => by simp at h⟩⟩⟩, hS.F ht⟩) hS.2.2 dX12_gangs_184
  · refine lv_iconst (v := (-1)) hx hb dX12_gangs_41 (by decide) ?_
    exact W.iret (v := (-1)) hx hb hr (fun t ht hW => ⟨⟨(-1), (), rfl, (by unfold sp_X12_gangs_0; rw [if_pos c_38]), ⟨fun k q h => by simp at h, va_K.moved hW.alike hK, ⟨fun i j p q h => by simp at h, fun k q h => by simp at h⟩⟩⟩, hS.F ht⟩) hS.2.2 dX12_gangs_42
