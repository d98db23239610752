section
set_option maxHeartbeats 1000000 in
set_option maxRecDepth 100000 in
theorem g_X5_aimHere (l : Launch) (G : va_G) (cs : Nat → ClassId) (h0 : Nat) (a : Int32) (h0_bytes : Nat) (h0_length : Int32) (h0_tokens : Nat) (h0_places : Nat) (h0_tokenCount : Int32) (h0_now : Int32) (h0_parts : Int32) (h0_asOrders : Int32) (h0_faultPlace : Int32) (h0_draft : Nat) (h0_draft_heads : Nat) (h0_draft_code : Nat) (h0_draft_clauses : Int32) (h0_draft_length : Int32) (f_h0_draft_code : Nat → Int32) (sz : Nat) (Q : (Nat → Int32) → Prop) (h : wp_X5_aimHere a h0_draft_length f_h0_draft_code Q) : Met l yX5_aimHere (Cond.code yX5_aimHere cX5_aimHere 2 none :: gW) ({ frames := 0, cells := 0, slots := 0, locals := 0 }) (va_Pc [Value.ref h0, Value.int a] (Pre G cs [(h0, Sum.inr (5, [Value.ref h0_bytes, Value.int h0_length, Value.ref h0_tokens, Value.ref h0_places, Value.int h0_tokenCount, Value.int h0_now, Value.int h0_parts, Value.int h0_asOrders, Value.int h0_faultPlace, Value.ref h0_draft])), (h0_draft, Sum.inr (8, [Value.ref h0_draft_heads, Value.ref h0_draft_code, Value.int h0_draft_clauses, Value.int h0_draft_length])), (h0_draft_code, Sum.inl (cs 0, 400, Sum.inl f_h0_draft_code))] sz)) (va_Qv (fun (u : Nat → Int32) => Q u) (fun (u : Nat → Int32) t => Aft G cs (va_A [(h0, Sum.inr (5, [Value.ref h0_bytes, Value.int h0_length, Value.ref h0_tokens, Value.ref h0_places, Value.int h0_tokenCount, Value.int h0_now, Value.int h0_parts, Value.int h0_asOrders, Value.int h0_faultPlace, Value.ref h0_draft])), (h0_draft, Sum.inr (8, [Value.ref h0_draft_heads, Value.ref h0_draft_code, Value.int h0_draft_clauses, Value.int h0_draft_length])), (h0_draft_code, Sum.inl (cs 0, 400, Sum.inl f_h0_draft_code))] sz) [(h0, Sum.inr (5, [Value.ref h0_bytes, Value.int h0_length, Value.ref h0_tokens, Value.ref h0_places, Value.int h0_tokenCount, Value.int h0_now, Value.int h0_parts, Value.int h0_asOrders, Value.int h0_faultPlace, Value.ref h0_draft])), (h0_draft, Sum.inr (8, [Value.ref h0_draft_heads, Value.ref h0_draft_code, Value.int h0_draft_clauses, Value.int h0_draft_length])), (h0_draft_code, Sum.inl (cs 0, 400, Sum.inl u))] t) (va_A [(h0, Sum.inr (5, [Value.ref h0_bytes, Value.int h0_length, Value.ref h0_tokens, Value.ref h0_places, Value.int h0_tokenCount, Value.int h0_now, Value.int h0_parts, Value.int h0_asOrders, Value.int h0_faultPlace, Value.ref h0_draft])), (h0_draft, Sum.inr (8, [Value.ref h0_draft_heads, Value.ref h0_draft_code, Value.int h0_draft_clauses, Value.int h0_draft_length])), (h0_draft_code, Sum.inl (cs 0, 400, Sum.inl f_h0_draft_code))] sz)) 0 0 (va_A [(h0, Sum.inr (5, [Value.ref h0_bytes, Value.int h0_length, Value.ref h0_tokens, Value.ref h0_places, Value.int h0_tokenCount, Value.int h0_now, Value.int h0_parts, Value.int h0_asOrders, Value.int h0_faultPlace, Value.ref h0_draft])), (h0_draft, Sum.inr (8, [Value.ref h0_draft_heads, Value.ref h0_draft_code, Value.int h0_draft_clauses, Value.int h0_draft_length])), (h0_draft_code, Sum.inl (cs 0, 400, Sum.inl f_h0_draft_code))] sz) := by
  unfold wp_X5_aimHere at h
  refine Met.ofW (cc := cX5_aimHere) (maxL := 2) (ret := none) (by decide) rfl ?_
  intro p e s m args below meth c s₁ B hml hv
  obtain ⟨rfl, hsz, hP, hK, hD0, hN⟩ := hv
  have hx := B.exec
  have hb := B.bytes
  have hr := B.returns
  have hts := atoms_spec (ws := Cond.code yX5_aimHere cX5_aimHere 2 none :: gW) B.pre
  have htl : ∀ w ∈ gW, w.before _ s = true := fun w h => hts w (List.mem_cons_of_mem _ h)
  have hown : s.vm.findClass RX5 = some m.cls := findClass_of_methodNamed B.named
  have hlocks := B.notSynchronized
  subst hsz
  have hD := hD0.self (sz := s.heap.size)
  generalize hAe : va_A [(h0, Sum.inr (5, [Value.ref h0_bytes, Value.int h0_length, Value.ref h0_tokens, Value.ref h0_places, Value.int h0_tokenCount, Value.int h0_now, Value.int h0_parts, Value.int h0_asOrders, Value.int h0_faultPlace, Value.ref h0_draft])), (h0_draft, Sum.inr (8, [Value.ref h0_draft_heads, Value.ref h0_draft_code, Value.int h0_draft_clauses, Value.int h0_draft_length])), (h0_draft_code, Sum.inl (cs 0, 400, Sum.inl f_h0_draft_code))] s.heap.size = A at hD ⊢
  have hA : ∀ q : Nat, s.heap.size ≤ q → A q := fun q h => by rw [← hAe]; exact Or.inr h
  have hS : va_S A s.heap s.heap [] := va_S.rf
  have hl := lv_entry ([Value.ref h0, Value.int a]) (n := 2) (Nat.le_of_ble_eq_true rfl)
  rw [lg_entry_eq]
  generalize (lg_sl ([Value.ref h0, Value.int a]) ++ List.replicate (2 - (lg_sl ([Value.ref h0, Value.int a])).length) Slot.unset).toArray = ls at hl ⊢
  have hl : lv_has ls 2 [(0, Value.ref h0), (1, Value.int a)] := hl
  refine lv_iload_n hx hb dX5_aimHere_0 rfl (lv_at hl 1 rfl) ?_
  refine lv_if_lt (tgt := 37) hx hb dX5_aimHere_1 (by decide) (fun c_1 => ?_) (fun c_1 => ?_)
  · replace h := ok_t h c_1
    obtain ⟨hP9, hD9⟩ := PD_pk hP hD [(h0, Sum.inr (5, [Value.ref h0_bytes, Value.int h0_length, Value.ref h0_tokens, Value.ref h0_places, Value.int h0_tokenCount, Value.int h0_now, Value.int h0_parts, Value.int h0_asOrders, Value.int h0_faultPlace, Value.ref h0_draft])), (h0_draft, Sum.inr (8, [Value.ref h0_draft_heads, Value.ref h0_draft_code, Value.int h0_draft_clauses, Value.int h0_draft_length])), (h0_draft_code, Sum.inl (cs 0, 400, Sum.inl f_h0_draft_code))] [0, 1, 2] rfl rfl
    exact W.vret hx hb hr (fun t ht hW => ⟨⟨f_h0_draft_code, rfl, h, ⟨by rw [ht]; exact hP9, va_K.moved hW.alike hK, hD9⟩⟩, hS.F ht⟩) hS.2.2 dX5_aimHere_37
  · replace h := ok_f h c_1
    refine lv_iload_n hx hb dX5_aimHere_4 rfl (lv_at hl 1 rfl) ?_
    refine lv_aload_n hx hb dX5_aimHere_5 rfl (lv_at hl 0 rfl) ?_
    refine va_get (ci := 5) (v := Value.ref h0_draft) (C := RX5) (T := TX5) (N := 10) hx hb htl inX5 hown hK hP 0 rfl rfl 9 (by decide) (htl _ fl_RX5_30) (fun _ h9 => h9) rfl dX5_aimHere_6 ?_
    refine va_get (ci := 8) (v := Value.int h0_draft_length) (C := RX8) (T := TX8) (N := 4) hx hb htl inX8 hown hK hP 1 rfl rfl 3 (by decide) (htl _ fl_RX5_72) (fun _ h9 => h9) rfl dX5_aimHere_9 ?_
    refine lv_icmp_ge (tgt := 37) hx hb dX5_aimHere_12 (by decide) (fun c_12 => ?_) (fun c_12 => ?_)
    · replace h := ok_t h c_12
      obtain ⟨hP9, hD9⟩ := PD_pk hP hD [(h0, Sum.inr (5, [Value.ref h0_bytes, Value.int h0_length, Value.ref h0_tokens, Value.ref h0_places, Value.int h0_tokenCount, Value.int h0_now, Value.int h0_parts, Value.int h0_asOrders, Value.int h0_faultPlace, Value.ref h0_draft])), (h0_draft, Sum.inr (8, [Value.ref h0_draft_heads, Value.ref h0_draft_code, Value.int h0_draft_clauses, Value.int h0_draft_length])), (h0_draft_code, Sum.inl (cs 0, 400, Sum.inl f_h0_draft_code))] [0, 1, 2] rfl rfl
      exact W.vret hx hb hr (fun t ht hW => ⟨⟨f_h0_draft_code, rfl, h, ⟨by rw [ht]; exact hP9, va_K.moved hW.alike hK, hD9⟩⟩, hS.F ht⟩) hS.2.2 dX5_aimHere_37
    · replace h := ok_f h c_12
      refine lv_aload_n hx hb dX5_aimHere_15 rfl (lv_at hl 0 rfl) ?_
      refine va_get (ci := 5) (v := Value.ref h0_draft) (C := RX5) (T := TX5) (N := 10) hx hb htl inX5 hown hK hP 0 rfl rfl 9 (by decide) (htl _ fl_RX5_30) (fun _ h9 => h9) rfl dX5_aimHere_16 ?_
      refine va_get (ci := 8) (v := Value.ref h0_draft_code) (C := RX8) (T := TX8) (N := 4) hx hb htl inX8 hown hK hP 1 rfl rfl 1 (by decide) (htl _ fl_RX5_182) (fun _ h9 => h9) rfl dX5_aimHere_19 ?_
      refine lv_iload_n hx hb dX5_aimHere_22 rfl (lv_at hl 1 rfl) ?_
      refine lv_dup2_11 hx hb dX5_aimHere_23 rfl rfl ?_
      obtain ⟨hq_1, h⟩ := h
      refine va_iald hx hb hK hP 2 0 rfl rfl hq_1 dX5_aimHere_24 ?_
      refine lv_aload_n hx hb dX5_aimHere_25 rfl (lv_at hl 0 rfl) ?_
      refine va_get (ci := 5) (v := Value.ref h0_draft) (C := RX5) (T := TX5) (N := 10) hx hb htl inX5 hown hK hP 0 rfl rfl 9 (by decide) (htl _ fl_RX5_30) (fun _ h9 => h9) rfl dX5_aimHere_26 ?_
      refine va_get (ci := 8) (v := Value.int h0_draft_length) (C := RX8) (T := TX8) (N := 4) hx hb htl inX8 hown hK hP 1 rfl rfl 3 (by decide) (htl _ fl_RX5_72) (fun _ h9 => h9) rfl dX5_aimHere_29 ?_
      refine lv_bipush (v := 6) hx hb dX5_aimHere_32 (by decide) ?_
      refine lv_ishl hx hb dX5_aimHere_34 ?_
      refine lv_ior hx hb dX5_aimHere_35 ?_
      obtain ⟨hq_2, h⟩ := h
      refine va_iast hx hb hK hP hD hS 2 0 rfl rfl hq_2 dX5_aimHere_36 (fun H locs hP hD hS => ?_)
      obtain ⟨hP, hD⟩ := PD_as hP [(h0, Sum.inr (5, [Value.ref h0_bytes, Value.int h0_length, Value.ref h0_tokens, Value.ref h0_places, Value.int h0_tokenCount, Value.int h0_now, Value.int h0_parts, Value.int h0_asOrders, Value.int h0_faultPlace, Value.ref h0_draft])), (h0_draft, Sum.inr (8, [Value.ref h0_draft_heads, Value.ref h0_draft_code, Value.int h0_draft_clauses, Value.int h0_draft_length])), (h0_draft_code, Sum.inl (cs 0, 400, Sum.inl (upd f_h0_draft_code a.toNatClampNeg ((f_h0_draft_code a.toNatClampNeg) ||| (h0_draft_length <<< ((6 : Int32) &&& 31))))))] rfl hD
      obtain ⟨hP9, hD9⟩ := PD_pk hP hD [(h0, Sum.inr (5, [Value.ref h0_bytes, Value.int h0_length, Value.ref h0_tokens, Value.ref h0_places, Value.int h0_tokenCount, Value.int h0_now, Value.int h0_parts, Value.int h0_asOrders, Value.int h0_faultPlace, Value.ref h0_draft])), (h0_draft, Sum.inr (8, [Value.ref h0_draft_heads, Value.ref h0_draft_code, Value.int h0_draft_clauses, Value.int h0_draft_length])), (h0_draft_code, Sum.inl (cs 0, 400, Sum.inl (upd f_h0_draft_code a.toNatClampNeg ((f_h0_draft_code a.toNatClampNeg) ||| (h0_draft_length <<< ((6 : Int32) &&& 31))))))] [0, 1, 2] rfl rfl
      exact W.vret hx hb hr (fun t ht hW => ⟨⟨(upd f_h0_draft_code a.toNatClampNeg ((f_h0_draft_code a.toNatClampNeg) ||| (h0_draft_length <<< ((6 : Int32) &&& 31)))), rfl, h, ⟨by rw [ht]; exact hP9, va_K.moved hW.alike hK, hD9⟩⟩, hS.F ht⟩) hS.2.2 dX5_aimHere_37
set_option maxHeartbeats 1000000 in
set_option maxRecDepth 100000 in
theorem lg_X6_veinOf_5 (l : Launch) (G : va_G) (cs : Nat → ClassId) (h0 : Nat) (a : Int32) (h0_kind : Nat) (h0_hard : Nat) (h0_water : Nat) (h0_dug : Int64) (f_h0_kind : Nat → Int32) (Qb : Int32 → Int64 → Prop) {p : Program} {e : Env} {s : State} {m : MethodId} {args : Array Value} {below : List Frame} {meth : Method} {c : Code} {QX : State → Prop} (hx : p.tables.exec = Jvm.exec) (hb : c.code = cX6_veinOf) (hml : c.maxLocals = 13) (hown : s.vm.findClass RX6 = some m.cls) (htl : ∀ w ∈ gW, w.before args s = true) (hN : NW s) (hK : va_K G vwCl (tyL cs) s) (hP : va_P G vwCl [(h0, Sum.inr (6, [Value.ref h0_kind, Value.ref h0_hard, Value.ref h0_water, Value.long h0_dug])), (h0_kind, Sum.inl (cs 0, 40, Sum.inl f_h0_kind))] s.heap) (K : ∀ (x_5_0 : Int32) (x_5_1 : Int64), Qb x_5_0 x_5_1 → ∀ (ls : Array Slot), lv_has ls 13 [(4, Value.int x_5_0), (2, Value.long x_5_1), (0, Value.ref h0), (1, Value.int a)] → W p l e (headSpec (Cond.code yX6_veinOf cX6_veinOf 13 (some .long) :: gW) ({ frames := 0, cells := 0, slots := 0, locals := 0 })).room s m args below meth c s.heap [] 0 0 QX (F0 m 36 ls [])) : ∀ (n : Nat) (x_5_0 : Int32) (x_5_1 : Int64), wl_X6_veinOf_5 f_h0_kind Qb n x_5_0 x_5_1 → ∀ (ls : Array Slot), lv_has ls 13 [(4, Value.int x_5_0), (2, Value.long x_5_1), (0, Value.ref h0), (1, Value.int a)] → W p l e (headSpec (Cond.code yX6_veinOf cX6_veinOf 13 (some .long) :: gW) ({ frames := 0, cells := 0, slots := 0, locals := 0 })).room s m args below meth c s.heap [] 0 0 QX (F0 m 5 ls []) := by
  intro n
  induction n with
  | zero =>
    intro x_5_0 x_5_1 h
    exact h.elim
  | succ n ih =>
    intro x_5_0 x_5_1 h ls hl
    unfold wl_X6_veinOf_5 at h
    refine lv_iload hx hb dX6_veinOf_5 (lv_at hl 0 rfl) ?_
    refine lv_bipush (v := 40) hx hb dX6_veinOf_7 (by decide) ?_
    refine lv_icmp_ge (tgt := 36) hx hb dX6_veinOf_9 (by decide) (fun c_9 => ?_) (fun c_9 => ?_)
    · replace h := ok_t h c_9
      exact K x_5_0 x_5_1 h ls (lv_sub hl [0, 1, 2, 3] rfl)
    · replace h := ok_f h c_9
      refine lv_aload_n hx hb dX6_veinOf_12 rfl (lv_at hl 2 rfl) ?_
      refine va_get (ci := 6) (v := Value.ref h0_kind) (C := RX6) (T := TX6) (N := 4) hx hb htl inX6 hown hK hP 0 rfl rfl 0 (by decide) (htl _ fl_RX6_9) (fun _ h9 => h9) rfl dX6_veinOf_13 ?_
      refine lv_iload hx hb dX6_veinOf_16 (lv_at hl 0 rfl) ?_
      obtain ⟨hq_2001, h⟩ := h
      refine va_iald hx hb hK hP 1 0 rfl rfl hq_2001 dX6_veinOf_18 ?_
      refine lv_iconst (v := 3) hx hb dX6_veinOf_19 (by decide) ?_
      refine lv_icmp_ne (tgt := 30) hx hb dX6_veinOf_20 (by decide) (fun c_20 => ?_) (fun c_20 => ?_)
      · replace h := ok_f h c_20
        refine lv_iinc (v := (x_5_0 + 1)) hx hb dX6_veinOf_30 hl (k := 0) rfl (by first | rfl | decide) (by decide) (rfl : _ = ([(4, Value.int (x_5_0 + 1)), (2, Value.long x_5_1), (0, Value.ref h0), (1, Value.int a)] : List (Nat × Value))) (fun ls hl => ?_)
        refine lv_goto (tgt := 5) hx hb dX6_veinOf_33 (by decide) ?_
        exact ih (x_5_0 + 1) x_5_1 h ls (lv_sub hl [0, 1, 2, 3] rfl)
      · replace h := ok_t h c_20
        refine lv_lload_n hx hb dX6_veinOf_23 rfl (lv_at hl 1 rfl) ?_
        refine lv_lconst (v := 1) hx hb dX6_veinOf_24 (by decide) ?_
        refine lv_iload hx hb dX6_veinOf_25 (lv_at hl 0 rfl) ?_
        refine lv_lshl (v := ((1 : Int64) <<< (x_5_0.toInt64 &&& 63))) hx hb dX6_veinOf_27 (by first | rfl | decide) ?_
        refine lv_lor hx hb dX6_veinOf_28 ?_
        refine lv_lstore_n hx hb dX6_veinOf_29 rfl hl (by decide) (rfl : _ = ([(2, Value.long (x_5_1 ||| ((1 : Int64) <<< (x_5_0.toInt64 &&& 63)))), (4, Value.int x_5_0), (0, Value.ref h0), (1, Value.int a)] : List (Nat × Value))) (fun ls hl => ?_)
        refine lv_iinc (v := (x_5_0 + 1)) hx hb dX6_veinOf_30 hl (k := 1) rfl (by first | rfl | decide) (by decide) (rfl : _ = ([(4, Value.int (x_5_0 + 1)), (2, Value.long (x_5_1 ||| ((1 : Int64) <<< (x_5_0.toInt64 &&& 63)))), (0, Value.ref h0), (1, Value.int a)] : List (Nat × Value))) (fun ls hl => ?_)
        refine lv_goto (tgt := 5) hx hb dX6_veinOf_33 (by decide) ?_
        exact ih (x_5_0 + 1) (x_5_1 ||| ((1 : Int64) <<< (x_5_0.toInt64 &&& 63))) h ls (lv_sub hl [0, 1, 2, 3] rfl)
set_option maxHeartbeats 1000000 in
set_option maxRecDepth 100000 in
theorem lg_X6_veinOf_46 (l : Launch) (G : va_G) (cs : Nat → ClassId) (h0 : Nat) (a : Int32) (h0_kind : Nat) (h0_hard : Nat) (h0_water : Nat) (h0_dug : Int64) (f_h0_kind : Nat → Int32) (x_5_0 : Int32) (x_5_1 : Int64) (Qb : Int32 → Int64 → Prop) {p : Program} {e : Env} {s : State} {m : MethodId} {args : Array Value} {below : List Frame} {meth : Method} {c : Code} {QX : State → Prop} (hx : p.tables.exec = Jvm.exec) (hb : c.code = cX6_veinOf) (hml : c.maxLocals = 13) (hown : s.vm.findClass RX6 = some m.cls) (htl : ∀ w ∈ gW, w.before args s = true) (hN : NW s) (hK : va_K G vwCl (tyL cs) s) (hP : va_P G vwCl [(h0, Sum.inr (6, [Value.ref h0_kind, Value.ref h0_hard, Value.ref h0_water, Value.long h0_dug])), (h0_kind, Sum.inl (cs 0, 40, Sum.inl f_h0_kind))] s.heap) (K : ∀ (x_46_0 : Int32) (x_46_1 : Int64), Qb x_46_0 x_46_1 → ∀ (ls : Array Slot), lv_has ls 13 [(6, Value.int x_46_0), (4, Value.long x_46_1), (2, Value.long x_5_1)] → W p l e (headSpec (Cond.code yX6_veinOf cX6_veinOf 13 (some .long) :: gW) ({ frames := 0, cells := 0, slots := 0, locals := 0 })).room s m args below meth c s.heap [] 0 0 QX (F0 m 118 ls [])) : ∀ (n : Nat) (x_46_0 : Int32) (x_46_1 : Int64), wl_X6_veinOf_46 x_5_1 Qb n x_46_0 x_46_1 → ∀ (ls : Array Slot), lv_has ls 13 [(6, Value.int x_46_0), (4, Value.long x_46_1), (2, Value.long x_5_1)] → W p l e (headSpec (Cond.code yX6_veinOf cX6_veinOf 13 (some .long) :: gW) ({ frames := 0, cells := 0, slots := 0, locals := 0 })).room s m args below meth c s.heap [] 0 0 QX (F0 m 46 ls []) := by
  intro n
  induction n with
  | zero =>
    intro x_46_0 x_46_1 h
    exact h.elim
  | succ n ih =>
    intro x_46_0 x_46_1 h ls hl
    unfold wl_X6_veinOf_46 at h
    refine lv_iload hx hb dX6_veinOf_46 (lv_at hl 0 rfl) ?_
    refine lv_bipush (v := 40) hx hb dX6_veinOf_48 (by decide) ?_
    refine lv_icmp_ge (tgt := 118) hx hb dX6_veinOf_50 (by decide) (fun c_50 => ?_) (fun c_50 => ?_)
    · replace h := ok_t h c_50
      exact K x_46_0 x_46_1 h ls (lv_sub hl [0, 1, 2] rfl)
    · replace h := ok_f h c_50
      refine lv_lload hx hb dX6_veinOf_53 (lv_at hl 1 rfl) ?_
      refine lv_ldc2 hx hb hown (htl _ ct_RX6_33) dX6_veinOf_55 ?_
      refine lv_land hx hb dX6_veinOf_58 ?_
      refine lv_iconst (v := 1) hx hb dX6_veinOf_59 (by decide) ?_
      refine lv_lshr (v := ((x_46_1 &&& (-4311810306)) >>> ((1 : Int32).toInt64 &&& 63))) hx hb dX6_veinOf_60 (by first | rfl | decide) ?_
      refine lv_lstore hx hb dX6_veinOf_61 hl (by decide) (rfl : _ = ([(7, Value.long ((x_46_1 &&& (-4311810306)) >>> ((1 : Int32).toInt64 &&& 63))), (6, Value.int x_46_0), (4, Value.long x_46_1), (2, Value.long x_5_1)] : List (Nat × Value))) (fun ls hl => ?_)
      refine lv_lload hx hb dX6_veinOf_63 (lv_at hl 2 rfl) ?_
      refine lv_ldc2 hx hb hown (htl _ ct_RX6_35) dX6_veinOf_65 ?_
      refine lv_land hx hb dX6_veinOf_68 ?_
      refine lv_iconst (v := 1) hx hb dX6_veinOf_69 (by decide) ?_
      refine lv_lshl (v := ((x_46_1 &&& (-551911719041)) <<< ((1 : Int32).toInt64 &&& 63))) hx hb dX6_veinOf_70 (by first | rfl | decide) ?_
      refine lv_lstore hx hb dX6_veinOf_71 hl (by decide) (rfl : _ = ([(9, Value.long ((x_46_1 &&& (-551911719041)) <<< ((1 : Int32).toInt64 &&& 63))), (7, Value.long ((x_46_1 &&& (-4311810306)) >>> ((1 : Int32).toInt64 &&& 63))), (6, Value.int x_46_0), (4, Value.long x_46_1), (2, Value.long x_5_1)] : List (Nat × Value))) (fun ls hl => ?_)
      refine lv_lload hx hb dX6_veinOf_73 (lv_at hl 3 rfl) ?_
      refine lv_lload hx hb dX6_veinOf_75 (lv_at hl 1 rfl) ?_
      refine lv_lor hx hb dX6_veinOf_77 ?_
      refine lv_lload hx hb dX6_veinOf_78 (lv_at hl 0 rfl) ?_
      refine lv_lor hx hb dX6_veinOf_80 ?_
      refine lv_lload hx hb dX6_veinOf_81 (lv_at hl 3 rfl) ?_
      refine lv_bipush (v := 8) hx hb dX6_veinOf_83 (by decide) ?_
      refine lv_lshl (v := (x_46_1 <<< ((8 : Int32).toInt64 &&& 63))) hx hb dX6_veinOf_85 (by first | rfl | decide) ?_
      refine lv_lor hx hb dX6_veinOf_86 ?_
      refine lv_lload hx hb dX6_veinOf_87 (lv_at hl 3 rfl) ?_
      refine lv_bipush (v := 8) hx hb dX6_veinOf_89 (by decide) ?_
      refine lv_lshr (v := (x_46_1 >>> ((8 : Int32).toInt64 &&& 63))) hx hb dX6_veinOf_91 (by first | rfl | decide) ?_
      refine lv_lor hx hb dX6_veinOf_92 ?_
      refine lv_lload_n hx hb dX6_veinOf_93 rfl (lv_at hl 4 rfl) ?_
      refine lv_land hx hb dX6_veinOf_94 ?_
      refine lv_lstore hx hb dX6_veinOf_95 hl (by decide) (rfl : _ = ([(11, Value.long (((((x_46_1 ||| ((x_46_1 &&& (-4311810306)) >>> ((1 : Int32).toInt64 &&& 63))) ||| ((x_46_1 &&& (-551911719041)) <<< ((1 : Int32).toInt64 &&& 63))) ||| (x_46_1 <<< ((8 : Int32).toInt64 &&& 63))) ||| (x_46_1 >>> ((8 : Int32).toInt64 &&& 63))) &&& x_5_1)), (9, Value.long ((x_46_1 &&& (-551911719041)) <<< ((1 : Int32).toInt64 &&& 63))), (7, Value.long ((x_46_1 &&& (-4311810306)) >>> ((1 : Int32).toInt64 &&& 63))), (6, Value.int x_46_0), (4, Value.long x_46_1), (2, Value.long x_5_1)] : List (Nat × Value))) (fun ls hl => ?_)
      refine lv_lload hx hb dX6_veinOf_97 (lv_at hl 0 rfl) ?_
      refine lv_lload hx hb dX6_veinOf_99 (lv_at hl 4 rfl) ?_
      refine W.lcmp hx hb dX6_veinOf_101 ?_
      refine lv_if_ne (tgt := 108) hx hb dX6_veinOf_102 (by decide) (fun c_102 => ?_) (fun c_102 => ?_)
      · replace h := ok_f h c_102
        refine lv_lload hx hb dX6_veinOf_108 (lv_at hl 0 rfl) ?_
        refine lv_lstore hx hb dX6_veinOf_110 hl (by decide) (rfl : _ = ([(4, Value.long (((((x_46_1 ||| ((x_46_1 &&& (-4311810306)) >>> ((1 : Int32).toInt64 &&& 63))) ||| ((x_46_1 &&& (-551911719041)) <<< ((1 : Int32).toInt64 &&& 63))) ||| (x_46_1 <<< ((8 : Int32).toInt64 &&& 63))) ||| (x_46_1 >>> ((8 : Int32).toInt64 &&& 63))) &&& x_5_1)), (11, Value.long (((((x_46_1 ||| ((x_46_1 &&& (-4311810306)) >>> ((1 : Int32).toInt64 &&& 63))) ||| ((x_46_1 &&& (-551911719041)) <<< ((1 : Int32).toInt64 &&& 63))) ||| (x_46_1 <<< ((8 : Int32).toInt64 &&& 63))) ||| (x_46_1 >>> ((8 : Int32).toInt64 &&& 63))) &&& x_5_1)), (9, Value.long ((x_46_1 &&& (-551911719041)) <<< ((1 : Int32).toInt64 &&& 63))), (7, Value.long ((x_46_1 &&& (-4311810306)) >>> ((1 : Int32).toInt64 &&& 63))), (6, Value.int x_46_0), (2, Value.long x_5_1)] : List (Nat × Value))) (fun ls hl => ?_)
        refine lv_iinc (v := (x_46_0 + 1)) hx hb dX6_veinOf_112 hl (k := 4) rfl (by first | rfl | decide) (by decide) (rfl : _ = ([(6, Value.int (x_46_0 + 1)), (4, Value.long (((((x_46_1 ||| ((x_46_1 &&& (-4311810306)) >>> ((1 : Int32).toInt64 &&& 63))) ||| ((x_46_1 &&& (-551911719041)) <<< ((1 : Int32).toInt64 &&& 63))) ||| (x_46_1 <<< ((8 : Int32).toInt64 &&& 63))) ||| (x_46_1 >>> ((8 : Int32).toInt64 &&& 63))) &&& x_5_1)), (11, Value.long (((((x_46_1 ||| ((x_46_1 &&& (-4311810306)) >>> ((1 : Int32).toInt64 &&& 63))) ||| ((x_46_1 &&& (-551911719041)) <<< ((1 : Int32).toInt64 &&& 63))) ||| (x_46_1 <<< ((8 : Int32).toInt64 &&& 63))) ||| (x_46_1 >>> ((8 : Int32).toInt64 &&& 63))) &&& x_5_1)), (9, Value.long ((x_46_1 &&& (-551911719041)) <<< ((1 : Int32).toInt64 &&& 63))), (7, Value.long ((x_46_1 &&& (-4311810306)) >>> ((1 : Int32).toInt64 &&& 63))), (2, Value.long x_5_1)] : List (Nat × Value))) (fun ls hl => ?_)
        refine lv_goto (tgt := 46) hx hb dX6_veinOf_115 (by decide) ?_
        exact ih (x_46_0 + 1) (((((x_46_1 ||| ((x_46_1 &&& (-4311810306)) >>> ((1 : Int32).toInt64 &&& 63))) ||| ((x_46_1 &&& (-551911719041)) <<< ((1 : Int32).toInt64 &&& 63))) ||| (x_46_1 <<< ((8 : Int32).toInt64 &&& 63))) ||| (x_46_1 >>> ((8 : Int32).toInt64 &&& 63))) &&& x_5_1) h ls (lv_sub hl [0, 1, 5] rfl)
      · replace h := ok_t h c_102
        refine lv_goto (tgt := 118) hx hb dX6_veinOf_105 (by decide) ?_
        exact K x_46_0 x_46_1 h ls (lv_sub hl [3, 4, 5] rfl)
set_option maxHeartbeats 1000000 in
set_option maxRecDepth 100000 in
theorem g_X6_veinOf (l : Launch) (G : va_G) (cs : Nat → ClassId) (h0 : Nat) (a : Int32) (h0_kind : Nat) (h0_hard : Nat) (h0_water : Nat) (h0_dug : Int64) (f_h0_kind : Nat → Int32) (Q : Int64 → Prop) (h : wp_X6_veinOf a f_h0_kind Q) : Met l yX6_veinOf (Cond.code yX6_veinOf cX6_veinOf 13 (some .long) :: gW) ({ frames := 0, cells := 0, slots := 0, locals := 0 }) (va_Pc [Value.ref h0, Value.int a] (PrS G cs [(h0, Sum.inr (6, [Value.ref h0_kind, Value.ref h0_hard, Value.ref h0_water, Value.long h0_dug])), (h0_kind, Sum.inl (cs 0, 40, Sum.inl f_h0_kind))])) (vp_Sl (fun r => Q r)) 0 0 (fun _ => False) := by
  unfold wp_X6_veinOf at h
  refine Met.ofW (cc := cX6_veinOf) (maxL := 13) (ret := (some .long)) (by decide) rfl ?_
  intro p e s m args below meth c s₁ B hml hv
  obtain ⟨rfl, hP, hK, hN⟩ := hv
  have hx := B.exec
  have hb := B.bytes
  have hr := B.returns
  have hts := atoms_spec (ws := Cond.code yX6_veinOf cX6_veinOf 13 (some .long) :: gW) B.pre
  have htl : ∀ w ∈ gW, w.before _ s = true := fun w h => hts w (List.mem_cons_of_mem _ h)
  have hown : s.vm.findClass RX6 = some m.cls := findClass_of_methodNamed B.named
  have hlocks := B.notSynchronized
  have hl := lv_entry ([Value.ref h0, Value.int a]) (n := 13) (Nat.le_of_ble_eq_true rfl)
  rw [lg_entry_eq]
  generalize (lg_sl ([Value.ref h0, Value.int a]) ++ List.replicate (13 - (lg_sl ([Value.ref h0, Value.int a])).length) Slot.unset).toArray = ls at hl ⊢
  have hl : lv_has ls 13 [(0, Value.ref h0), (1, Value.int a)] := hl
  refine lv_lconst (v := 0) hx hb dX6_veinOf_0 (by decide) ?_
  refine lv_lstore_n hx hb dX6_veinOf_1 rfl hl (by decide) (rfl : _ = ([(2, Value.long 0), (0, Value.ref h0), (1, Value.int a)] : List (Nat × Value))) (fun ls hl => ?_)
  refine lv_iconst (v := 0) hx hb dX6_veinOf_2 (by decide) ?_
  refine lv_istore hx hb dX6_veinOf_3 hl (by decide) (rfl : _ = ([(4, Value.int 0), (2, Value.long 0), (0, Value.ref h0), (1, Value.int a)] : List (Nat × Value))) (fun ls hl => ?_)
  refine lg_X6_veinOf_5 l G cs h0 a h0_kind h0_hard h0_water h0_dug f_h0_kind _ hx hb hml hown htl hN hK hP (fun x_5_0 x_5_1 h ls hl => ?_) 1000000000000 0 0 h ls (lv_sub hl [0, 1, 2, 3] rfl)
  refine lv_lconst (v := 1) hx hb dX6_veinOf_36 (by decide) ?_
  refine lv_iload_n hx hb dX6_veinOf_37 rfl (lv_at hl 3 rfl) ?_
  refine lv_lshl (v := ((1 : Int64) <<< (a.toInt64 &&& 63))) hx hb dX6_veinOf_38 (by first | rfl | decide) ?_
  refine lv_lload_n hx hb dX6_veinOf_39 rfl (lv_at hl 1 rfl) ?_
  refine lv_land hx hb dX6_veinOf_40 ?_
  refine lv_lstore hx hb dX6_veinOf_41 hl (by decide) (rfl : _ = ([(4, Value.long (((1 : Int64) <<< (a.toInt64 &&& 63)) &&& x_5_1)), (2, Value.long x_5_1), (0, Value.ref h0), (1, Value.int a)] : List (Nat × Value))) (fun ls hl => ?_)
  refine lv_iconst (v := 0) hx hb dX6_veinOf_43 (by decide) ?_
  refine lv_istore hx hb dX6_veinOf_44 hl (by decide) (rfl : _ = ([(6, Value.int 0), (4, Value.long (((1 : Int64) <<< (a.toInt64 &&& 63)) &&& x_5_1)), (2, Value.long x_5_1), (0, Value.ref h0), (1, Value.int a)] : List (Nat × Value))) (fun ls hl => ?_)
  refine lg_X6_veinOf_46 l G cs h0 a h0_kind h0_hard h0_water h0_dug f_h0_kind x_5_0 x_5_1 _ hx hb hml hown htl hN hK hP (fun x_46_0 x_46_1 h ls hl => ?_) 1000000000000 0 (((1 : Int64) <<< (a.toInt64 &&& 63)) &&& x_5_1) h ls (lv_sub hl [0, 1, 2] rfl)
  refine lv_lload hx hb dX6_veinOf_118 (lv_at hl 1 rfl) ?_
  exact W.lret (v := x_46_1) hx hb hr (fun t ht hW => ⟨x_46_1, rfl, h, ht⟩) (fun q h => by cases h) dX6_veinOf_120
set_option maxHeartbeats 1000000 in
set_option maxRecDepth 100000 in
theorem g_X6_copyFrom (l : Launch) (G : va_G) (cs : Nat → ClassId) (h0 : Nat) (p0 : Nat) (h0_kind : Nat) (h0_hard : Nat) (h0_water : Nat) (h0_dug : Int64) (p0_kind : Nat) (p0_hard : Nat) (p0_water : Nat) (p0_dug : Int64) (f_p0_kind : Nat → Int32) (f_h0_kind : Nat → Int32) (f_p0_hard : Nat → Int32) (f_h0_hard : Nat → Int32) (f_p0_water : Nat → Int32) (f_h0_water : Nat → Int32) (sz : Nat) (Q : (Int64 × (Nat → Int32) × (Nat → Int32) × (Nat → Int32)) → Prop) (h : wp_X6_copyFrom p0_dug f_p0_kind f_h0_kind f_p0_hard f_h0_hard f_p0_water f_h0_water Q) : Met l yX6_copyFrom (Cond.code yX6_copyFrom cX6_copyFrom 2 none :: gW) ({ frames := 1, cells := 0, slots := 0, locals := 60 }) (va_Pc [Value.ref h0, Value.ref p0] (Pre G cs [(h0, Sum.inr (6, [Value.ref h0_kind, Value.ref h0_hard, Value.ref h0_water, Value.long h0_dug])), (p0, Sum.inr (6, [Value.ref p0_kind, Value.ref p0_hard, Value.ref p0_water, Value.long p0_dug])), (p0_kind, Sum.inl (cs 0, 40, Sum.inl f_p0_kind)), (h0_kind, Sum.inl (cs 0, 40, Sum.inl f_h0_kind)), (p0_hard, Sum.inl (cs 0, 40, Sum.inl f_p0_hard)), (h0_hard, Sum.inl (cs 0, 40, Sum.inl f_h0_hard)), (p0_water, Sum.inl (cs 0, 40, Sum.inl f_p0_water)), (h0_water, Sum.inl (cs 0, 40, Sum.inl f_h0_water))] sz)) (va_Qv (fun (u : Int64 × (Nat → Int32) × (Nat → Int32) × (Nat → Int32)) => Q u) (fun (u : Int64 × (Nat → Int32) × (Nat → Int32) × (Nat → Int32)) t => Aft G cs (va_A [(h0, Sum.inr (6, [Value.ref h0_kind, Value.ref h0_hard, Value.ref h0_water, Value.long h0_dug])), (p0, Sum.inr (6, [Value.ref p0_kind, Value.ref p0_hard, Value.ref p0_water, Value.long p0_dug])), (p0_kind, Sum.inl (cs 0, 40, Sum.inl f_p0_kind)), (h0_kind, Sum.inl (cs 0, 40, Sum.inl f_h0_kind)), (p0_hard, Sum.inl (cs 0, 40, Sum.inl f_p0_hard)), (h0_hard, Sum.inl (cs 0, 40, Sum.inl f_h0_hard)), (p0_water, Sum.inl (cs 0, 40, Sum.inl f_p0_water)), (h0_water, Sum.inl (cs 0, 40, Sum.inl f_h0_water))] sz) [(h0, Sum.inr (6, [Value.ref h0_kind, Value.ref h0_hard, Value.ref h0_water, Value.long u.1])), (p0, Sum.inr (6, [Value.ref p0_kind, Value.ref p0_hard, Value.ref p0_water, Value.long p0_dug])), (p0_kind, Sum.inl (cs 0, 40, Sum.inl f_p0_kind)), (h0_kind, Sum.inl (cs 0, 40, Sum.inl u.2.1)), (p0_hard, Sum.inl (cs 0, 40, Sum.inl f_p0_hard)), (h0_hard, Sum.inl (cs 0, 40, Sum.inl u.2.2.1)), (p0_water, Sum.inl (cs 0, 40, Sum.inl f_p0_water)), (h0_water, Sum.inl (cs 0, 40, Sum.inl u.2.2.2))] t) (va_A [(h0, Sum.inr (6, [Value.ref h0_kind, Value.ref h0_hard, Value.ref h0_water, Value.long h0_dug])), (p0, Sum.inr (6, [Value.ref p0_kind, Value.ref p0_hard, Value.ref p0_water, Value.long p0_dug])), (p0_kind, Sum.inl (cs 0, 40, Sum.inl f_p0_kind)), (h0_kind, Sum.inl (cs 0, 40, Sum.inl f_h0_kind)), (p0_hard, Sum.inl (cs 0, 40, Sum.inl f_p0_hard)), (h0_hard, Sum.inl (cs 0, 40, Sum.inl f_h0_hard)), (p0_water, Sum.inl (cs 0, 40, Sum.inl f_p0_water)), (h0_water, Sum.inl (cs 0, 40, Sum.inl f_h0_water))] sz)) 0 0 (va_A [(h0, Sum.inr (6, [Value.ref h0_kind, Value.ref h0_hard, Value.ref h0_water, Value.long h0_dug])), (p0, Sum.inr (6, [Value.ref p0_kind, Value.ref p0_hard, Value.ref p0_water, Value.long p0_dug])), (p0_kind, Sum.inl (cs 0, 40, Sum.inl f_p0_kind)), (h0_kind, Sum.inl (cs 0, 40, Sum.inl f_h0_kind)), (p0_hard, Sum.inl (cs 0, 40, Sum.inl f_p0_hard)), (h0_hard, Sum.inl (cs 0, 40, Sum.inl f_h0_hard)), (p0_water, Sum.inl (cs 0, 40, Sum.inl f_p0_water)), (h0_water, Sum.inl (cs 0, 40, Sum.inl f_h0_water))] sz) := by
  unfold wp_X6_copyFrom at h
  refine Met.ofW (cc := cX6_copyFrom) (maxL := 2) (ret := none) (by decide) rfl ?_
  intro p e s m args below meth c s₁ B hml hv
  obtain ⟨rfl, hsz, hP, hK, hD0, hN⟩ := hv
  have hx := B.exec
  have hb := B.bytes
  have hr := B.returns
  have hts := atoms_spec (ws := Cond.code yX6_copyFrom cX6_copyFrom 2 none :: gW) B.pre
  have htl : ∀ w ∈ gW, w.before _ s = true := fun w h => hts w (List.mem_cons_of_mem _ h)
  have hown : s.vm.findClass RX6 = some m.cls := findClass_of_methodNamed B.named
  have hlocks := B.notSynchronized
  subst hsz
  have hD := hD0.self (sz := s.heap.size)
  generalize hAe : va_A [(h0, Sum.inr (6, [Value.ref h0_kind, Value.ref h0_hard, Value.ref h0_water, Value.long h0_dug])), (p0, Sum.inr (6, [Value.ref p0_kind, Value.ref p0_hard, Value.ref p0_water, Value.long p0_dug])), (p0_kind, Sum.inl (cs 0, 40, Sum.inl f_p0_kind)), (h0_kind, Sum.inl (cs 0, 40, Sum.inl f_h0_kind)), (p0_hard, Sum.inl (cs 0, 40, Sum.inl f_p0_hard)), (h0_hard, Sum.inl (cs 0, 40, Sum.inl f_h0_hard)), (p0_water, Sum.inl (cs 0, 40, Sum.inl f_p0_water)), (h0_water, Sum.inl (cs 0, 40, Sum.inl f_h0_water))] s.heap.size = A at hD ⊢
  have hA : ∀ q : Nat, s.heap.size ≤ q → A q := fun q h => by rw [← hAe]; exact Or.inr h
  have hS : va_S A s.heap s.heap [] := va_S.rf
  have hl := lv_entry ([Value.ref h0, Value.ref p0]) (n := 2) (Nat.le_of_ble_eq_true rfl)
  rw [lg_entry_eq]
  generalize (lg_sl ([Value.ref h0, Value.ref p0]) ++ List.replicate (2 - (lg_sl ([Value.ref h0, Value.ref p0])).length) Slot.unset).toArray = ls at hl ⊢
  have hl : lv_has ls 2 [(0, Value.ref h0), (1, Value.ref p0)] := hl
  refine lv_aload_n hx hb dX6_copyFrom_0 rfl (lv_at hl 1 rfl) ?_
  refine va_get (ci := 6) (v := Value.ref p0_kind) (C := RX6) (T := TX6) (N := 4) hx hb htl inX6 hown hK hP 1 rfl rfl 0 (by decide) (htl _ fl_RX6_9) (fun _ h9 => h9) rfl dX6_copyFrom_1 ?_
  refine lv_iconst (v := 0) hx hb dX6_copyFrom_4 (by decide) ?_
  refine lv_aload_n hx hb dX6_copyFrom_5 rfl (lv_at hl 0 rfl) ?_
  refine va_get (ci := 6) (v := Value.ref h0_kind) (C := RX6) (T := TX6) (N := 4) hx hb htl inX6 hown hK hP 0 rfl rfl 0 (by decide) (htl _ fl_RX6_9) (fun _ h9 => h9) rfl dX6_copyFrom_6 ?_
  refine lv_iconst (v := 0) hx hb dX6_copyFrom_9 (by decide) ?_
  refine lv_bipush (v := 40) hx hb dX6_copyFrom_10 (by decide) ?_
  refine va_copyi hx hb (hml.trans hl.1.symm) hown (htl _ lk_RX6_37) (htl _ ac_n) (htl _ ac_s) (htl _ ac_i) hK hP hD hS 2 3 0 0 rfl rfl rfl rfl rfl (by decide) (by decide) (by decide) (by decide) (by decide) (fun _ _ => rfl) (Nat.le_of_ble_eq_true rfl) (by decide) dX6_copyFrom_12 (fun H locs hP hD hS => ?_)
  obtain ⟨hP, hD⟩ := PD_as hP [(h0, Sum.inr (6, [Value.ref h0_kind, Value.ref h0_hard, Value.ref h0_water, Value.long h0_dug])), (p0, Sum.inr (6, [Value.ref p0_kind, Value.ref p0_hard, Value.ref p0_water, Value.long p0_dug])), (p0_kind, Sum.inl (cs 0, 40, Sum.inl f_p0_kind)), (h0_kind, Sum.inl (cs 0, 40, Sum.inl (va_cpy f_p0_kind f_h0_kind 0 0 40))), (p0_hard, Sum.inl (cs 0, 40, Sum.inl f_p0_hard)), (h0_hard, Sum.inl (cs 0, 40, Sum.inl f_h0_hard)), (p0_water, Sum.inl (cs 0, 40, Sum.inl f_p0_water)), (h0_water, Sum.inl (cs 0, 40, Sum.inl f_h0_water))] rfl hD
  refine lv_aload_n hx hb dX6_copyFrom_15 rfl (lv_at hl 1 rfl) ?_
  refine va_get (ci := 6) (v := Value.ref p0_hard) (C := RX6) (T := TX6) (N := 4) hx hb htl inX6 hown hK hP 1 rfl rfl 1 (by decide) (htl _ fl_RX6_15) (fun _ h9 => h9) rfl dX6_copyFrom_16 ?_
  refine lv_iconst (v := 0) hx hb dX6_copyFrom_19 (by decide) ?_
  refine lv_aload_n hx hb dX6_copyFrom_20 rfl (lv_at hl 0 rfl) ?_
  refine va_get (ci := 6) (v := Value.ref h0_hard) (C := RX6) (T := TX6) (N := 4) hx hb htl inX6 hown hK hP 0 rfl rfl 1 (by decide) (htl _ fl_RX6_15) (fun _ h9 => h9) rfl dX6_copyFrom_21 ?_
  refine lv_iconst (v := 0) hx hb dX6_copyFrom_24 (by decide) ?_
  refine lv_bipush (v := 40) hx hb dX6_copyFrom_25 (by decide) ?_
  refine va_copyi hx hb (hml.trans hl.1.symm) hown (htl _ lk_RX6_37) (htl _ ac_n) (htl _ ac_s) (htl _ ac_i) hK hP hD hS 4 5 0 0 rfl rfl rfl rfl rfl (by decide) (by decide) (by decide) (by decide) (by decide) (fun _ _ => rfl) (Nat.le_of_ble_eq_true rfl) (by decide) dX6_copyFrom_27 (fun H locs hP hD hS => ?_)
  obtain ⟨hP, hD⟩ := PD_as hP [(h0, Sum.inr (6, [Value.ref h0_kind, Value.ref h0_hard, Value.ref h0_water, Value.long h0_dug])), (p0, Sum.inr (6, [Value.ref p0_kind, Value.ref p0_hard, Value.ref p0_water, Value.long p0_dug])), (p0_kind, Sum.inl (cs 0, 40, Sum.inl f_p0_kind)), (h0_kind, Sum.inl (cs 0, 40, Sum.inl (va_cpy f_p0_kind f_h0_kind 0 0 40))), (p0_hard, Sum.inl (cs 0, 40, Sum.inl f_p0_hard)), (h0_hard, Sum.inl (cs 0, 40, Sum.inl (va_cpy f_p0_hard f_h0_hard 0 0 40))), (p0_water, Sum.inl (cs 0, 40, Sum.inl f_p0_water)), (h0_water, Sum.inl (cs 0, 40, Sum.inl f_h0_water))] rfl hD
  refine lv_aload_n hx hb dX6_copyFrom_30 rfl (lv_at hl 1 rfl) ?_
  refine va_get (ci := 6) (v := Value.ref p0_water) (C := RX6) (T := TX6) (N := 4) hx hb htl inX6 hown hK hP 1 rfl rfl 2 (by decide) (htl _ fl_RX6_18) (fun _ h9 => h9) rfl dX6_copyFrom_31 ?_
  refine lv_iconst (v := 0) hx hb dX6_copyFrom_34 (by decide) ?_
  refine lv_aload_n hx hb dX6_copyFrom_35 rfl (lv_at hl 0 rfl) ?_
  refine va_get (ci := 6) (v := Value.ref h0_water) (C := RX6) (T := TX6) (N := 4) hx hb htl inX6 hown hK hP 0 rfl rfl 2 (by decide) (htl _ fl_RX6_18) (fun _ h9 => h9) rfl dX6_copyFrom_36 ?_
  refine lv_iconst (v := 0) hx hb dX6_copyFrom_39 (by decide) ?_
  refine lv_bipush (v := 40) hx hb dX6_copyFrom_40 (by decide) ?_
  refine va_copyi hx hb (hml.trans hl.1.symm) hown (htl _ lk_RX6_37) (htl _ ac_n) (htl _ ac_s) (htl _ ac_i) hK hP hD hS 6 7 0 0 rfl rfl rfl rfl rfl (by decide) (by decide) (by decide) (by decide) (by decide) (fun _ _ => rfl) (Nat.le_of_ble_eq_true rfl) (by decide) dX6_copyFrom_42 (fun H locs hP hD hS => ?_)
  obtain ⟨hP, hD⟩ := PD_as hP [(h0, Sum.inr (6, [Value.ref h0_kind, Value.ref h0_hard, Value.ref h0_water, Value.long h0_dug])), (p0, Sum.inr (6, [Value.ref p0_kind, Value.ref p0_hard, Value.ref p0_water, Value.long p0_dug])), (p0_kind, Sum.inl (cs 0, 40, Sum.inl f_p0_kind)), (h0_kind, Sum.inl (cs 0, 40, Sum.inl (va_cpy f_p0_kind f_h0_kind 0 0 40))), (p0_hard, Sum.inl (cs 0, 40, Sum.inl f_p0_hard)), (h0_hard, Sum.inl (cs 0, 40, Sum.inl (va_cpy f_p0_hard f_h0_hard 0 0 40))), (p0_water, Sum.inl (cs 0, 40, Sum.inl f_p0_water)), (h0_water, Sum.inl (cs 0, 40, Sum.inl (va_cpy f_p0_water f_h0_water 0 0 40)))] rfl hD
  refine lv_aload_n hx hb dX6_copyFrom_45 rfl (lv_at hl 0 rfl) ?_
  refine lv_aload_n hx hb dX6_copyFrom_46 rfl (lv_at hl 1 rfl) ?_
  refine va_get (ci := 6) (v := Value.long p0_dug) (C := RX6) (T := TX6) (N := 4) hx hb htl inX6 hown hK hP 1 rfl rfl 3 (by decide) (htl _ fl_RX6_27) (fun _ h9 => h9) rfl dX6_copyFrom_47 ?_
  refine va_put (ci := 6) (v := Value.long p0_dug) (ty := .long) (C := RX6) (T := TX6) (N := 4) hx hb htl inX6 tyX6 tyX6_ok nmX6 hown hK hP hD hS 0 rfl rfl 3 (by decide) (htl _ fl_RX6_27) (fun _ h9 => h9) rfl (by decide +kernel) (by first | rfl | decide) (by first | rfl | decide) (Nat.le_of_ble_eq_true rfl) dX6_copyFrom_50 (fun H locs hP hD hS => ?_)
  obtain ⟨hP, hD⟩ := PD_as hP [(h0, Sum.inr (6, [Value.ref h0_kind, Value.ref h0_hard, Value.ref h0_water, Value.long p0_dug])), (p0, Sum.inr (6, [Value.ref p0_kind, Value.ref p0_hard, Value.ref p0_water, Value.long p0_dug])), (p0_kind, Sum.inl (cs 0, 40, Sum.inl f_p0_kind)), (h0_kind, Sum.inl (cs 0, 40, Sum.inl (va_cpy f_p0_kind f_h0_kind 0 0 40))), (p0_hard, Sum.inl (cs 0, 40, Sum.inl f_p0_hard)), (h0_hard, Sum.inl (cs 0, 40, Sum.inl (va_cpy f_p0_hard f_h0_hard 0 0 40))), (p0_water, Sum.inl (cs 0, 40, Sum.inl f_p0_water)), (h0_water, Sum.inl (cs 0, 40, Sum.inl (va_cpy f_p0_water f_h0_water 0 0 40)))] rfl hD
  obtain ⟨hP9, hD9⟩ := PD_pk hP hD [(h0, Sum.inr (6, [Value.ref h0_kind, Value.ref h0_hard, Value.ref h0_water, Value.long p0_dug])), (p0, Sum.inr (6, [Value.ref p0_kind, Value.ref p0_hard, Value.ref p0_water, Value.long p0_dug])), (p0_kind, Sum.inl (cs 0, 40, Sum.inl f_p0_kind)), (h0_kind, Sum.inl (cs 0, 40, Sum.inl (va_cpy f_p0_kind f_h0_kind 0 0 40))), (p0_hard, Sum.inl (cs 0, 40, Sum.inl f_p0_hard)), (h0_hard, Sum.inl (cs 0, 40, Sum.inl (va_cpy f_p0_hard f_h0_hard 0 0 40))), (p0_water, Sum.inl (cs 0, 40, Sum.inl f_p0_water)), (h0_water, Sum.inl (cs 0, 40, Sum.inl (va_cpy f_p0_water f_h0_water 0 0 40)))] [0, 1, 2, 3, 4, 5, 6, 7] rfl rfl
  exact W.vret hx hb hr (fun t ht hW => ⟨⟨(p0_dug, (va_cpy f_p0_kind f_h0_kind 0 0 40), (va_cpy f_p0_hard f_h0_hard 0 0 40), (va_cpy f_p0_water f_h0_water 0 0 40)), rfl, h, ⟨by rw [ht]; exact hP9, va_K.moved hW.alike hK, hD9⟩⟩, hS.F ht⟩) hS.2.2 dX6_copyFrom_53
set_option maxHeartbeats 1000000 in
set_option maxRecDepth 100000 in
theorem g_X7_neighbour (l : Launch) (G : va_G) (cs : Nat → ClassId) (a : Int32) (b : Int32) (Q : Int32 → Prop) (h : wp_X7_neighbour a b Q) : Met l yX7_neighbour (Cond.code yX7_neighbour cX7_neighbour 3 (some .int) :: gW) ({ frames := 0, cells := 0, slots := 0, locals := 0 }) (va_Pc [Value.int a, Value.int b] (PrS G cs [])) (vp_Si (fun r => Q r)) 0 0 (fun _ => False) := by
  unfold wp_X7_neighbour at h
  refine Met.ofW (cc := cX7_neighbour) (maxL := 3) (ret := (some .int)) (by decide) rfl ?_
  intro p e s m args below meth c s₁ B hml hv
  obtain ⟨rfl, hP, hK, hN⟩ := hv
  have hx := B.exec
  have hb := B.bytes
  have hr := B.returns
  have hts := atoms_spec (ws := Cond.code yX7_neighbour cX7_neighbour 3 (some .int) :: gW) B.pre
  have htl : ∀ w ∈ gW, w.before _ s = true := fun w h => hts w (List.mem_cons_of_mem _ h)
  have hown : s.vm.findClass RX7 = some m.cls := findClass_of_methodNamed B.named
  have hlocks := B.notSynchronized
  have hl := lv_entry ([Value.int a, Value.int b]) (n := 3) (Nat.le_of_ble_eq_true rfl)
  rw [lg_entry_eq]
  generalize (lg_sl ([Value.int a, Value.int b]) ++ List.replicate (3 - (lg_sl ([Value.int a, Value.int b])).length) Slot.unset).toArray = ls at hl ⊢
  have hl : lv_has ls 3 [(0, Value.int a), (1, Value.int b)] := hl
  refine lv_iload_n hx hb dX7_neighbour_0 rfl (lv_at hl 0 rfl) ?_
  refine lv_bipush (v := 8) hx hb dX7_neighbour_1 (by decide) ?_
  refine lv_irem hx hb dX7_neighbour_3 (by decide) ?_
  refine lv_istore_n hx hb dX7_neighbour_4 rfl hl (by decide) (rfl : _ = ([(2, Value.int (a - a / 8 * 8)), (0, Value.int a), (1, Value.int b)] : List (Nat × Value))) (fun ls hl => ?_)
  refine lv_iload_n hx hb dX7_neighbour_5 rfl (lv_at hl 2 rfl) ?_
  refine lv_if_ne (tgt := 21) hx hb dX7_neighbour_6 (by decide) (fun c_6 => ?_) (fun c_6 => ?_)
  · replace h := ok_f h c_6
    refine lv_iload_n hx hb dX7_neighbour_21 rfl (lv_at hl 2 rfl) ?_
    refine lv_iconst (v := 2) hx hb dX7_neighbour_22 (by decide) ?_
    refine lv_icmp_ne (tgt := 40) hx hb dX7_neighbour_23 (by decide) (fun c_23 => ?_) (fun c_23 => ?_)
    · replace h := ok_f h c_23
      refine lv_iload_n hx hb dX7_neighbour_40 rfl (lv_at hl 1 rfl) ?_
      refine lv_bipush (v := 8) hx hb dX7_neighbour_41 (by decide) ?_
      refine lv_iadd hx hb dX7_neighbour_43 ?_
      refine lv_bipush (v := 40) hx hb dX7_neighbour_44 (by decide) ?_
      refine lv_icmp_ge (tgt := 56) hx hb dX7_neighbour_46 (by decide) (fun c_46 => ?_) (fun c_46 => ?_)
      · replace h := ok_t h c_46
        refine lv_iconst (v := (-1)) hx hb dX7_neighbour_56 (by decide) ?_
        exact W.iret (v := (-1)) hx hb hr (fun t ht hW => ⟨(-1), rfl, h, ht⟩) (fun q h => by cases h) dX7_neighbour_57
      · replace h := ok_f h c_46
        refine lv_iload_n hx hb dX7_neighbour_49 rfl (lv_at hl 1 rfl) ?_
        refine lv_bipush (v := 8) hx hb dX7_neighbour_50 (by decide) ?_
        refine lv_iadd hx hb dX7_neighbour_52 ?_
        refine lv_goto (tgt := 57) hx hb dX7_neighbour_53 (by decide) ?_
        exact W.iret (v := (a + 8)) hx hb hr (fun t ht hW => ⟨(a + 8), rfl, h, ht⟩) (fun q h => by cases h) dX7_neighbour_57
    · replace h := ok_t h c_23
      refine lv_iload_n hx hb dX7_neighbour_26 rfl (lv_at hl 0 rfl) ?_
      refine lv_bipush (v := 7) hx hb dX7_neighbour_27 (by decide) ?_
      refine lv_icmp_ge (tgt := 38) hx hb dX7_neighbour_29 (by decide) (fun c_29 => ?_) (fun c_29 => ?_)
      · replace h := ok_t h c_29
        refine lv_iconst (v := (-1)) hx hb dX7_neighbour_38 (by decide) ?_
        exact W.iret (v := (-1)) hx hb hr (fun t ht hW => ⟨(-1), rfl, h, ht⟩) (fun q h => by cases h) dX7_neighbour_39
      · replace h := ok_f h c_29
        refine lv_iload_n hx hb dX7_neighbour_32 rfl (lv_at hl 1 rfl) ?_
        refine lv_iconst (v := 1) hx hb dX7_neighbour_33 (by decide) ?_
        refine lv_iadd hx hb dX7_neighbour_34 ?_
        refine lv_goto (tgt := 39) hx hb dX7_neighbour_35 (by decide) ?_
        exact W.iret (v := (a + 1)) hx hb hr (fun t ht hW => ⟨(a + 1), rfl, h, ht⟩) (fun q h => by cases h) dX7_neighbour_39
  · replace h := ok_t h c_6
    refine lv_iload_n hx hb dX7_neighbour_9 rfl (lv_at hl 0 rfl) ?_
    refine lv_if_le (tgt := 19) hx hb dX7_neighbour_10 (by decide) (fun c_10 => ?_) (fun c_10 => ?_)
    · replace h := ok_t h c_10
      refine lv_iconst (v := (-1)) hx hb dX7_neighbour_19 (by decide) ?_
      exact W.iret (v := (-1)) hx hb hr (fun t ht hW => ⟨(-1), rfl, h, ht⟩) (fun q h => by cases h) dX7_neighbour_20
    · replace h := ok_f h c_10
      refine lv_iload_n hx hb dX7_neighbour_13 rfl (lv_at hl 1 rfl) ?_
      refine lv_iconst (v := 1) hx hb dX7_neighbour_14 (by decide) ?_
      refine lv_isub hx hb dX7_neighbour_15 ?_
      refine lv_goto (tgt := 20) hx hb dX7_neighbour_16 (by decide) ?_
      exact W.iret (v := (a - 1)) hx hb hr (fun t ht hW => ⟨(a - 1), rfl, h, ht⟩) (fun q h => by cases h) dX7_neighbour_20
set_option maxHeartbeats 1000000 in
set_option maxRecDepth 100000 in
theorem g_X7_tryHush (l : Launch) (G : va_G) (cs : Nat → ClassId) (h0 : Nat) (a : Int32) (h0_world : Nat) (h0_diary : Nat) (h0_asker : Nat) (h0_done : Int32) (h0_latest : Int32) (h0_world_rock : Nat) (h0_world_crew : Nat) (h0_world_folk : Nat) (h0_world_term : Nat) (h0_world_laws : Nat) (h0_world_lawCount : Int32) (h0_world_force : Int32) (h0_world_folk_column : Nat) (h0_world_folk_ear : Nat) (h0_world_folk_listeners : Int32) (h0_world_folk_noiseColumn : Nat) (h0_world_folk_noiseLoud : Nat) (h0_world_folk_noises : Int32) (h0_world_folk_hushed : Int32) (h0_world_folk_hearsayColumn : Nat) (h0_world_folk_hearsayLoud : Nat) (h0_world_folk_hearsay : Int32) (h0_world_folk_sounds : Nat) (h0_world_folk_wet : Nat) (h0_world_folk_wells : Int32) (h0_diary_deed : Nat) (h0_diary_whose : Nat) (h0_diary_before : Nat) (h0_diary_bucketsBefore : Nat) (h0_diary_dayBefore : Nat) (h0_diary_kept : Int32) (h0_diary_latest : Int32) (f_h0_diary_deed : Nat → Int32) (f_h0_diary_whose : Nat → Int32) (f_h0_diary_before : Nat → Int32) (f_h0_diary_bucketsBefore : Nat → Int32) (f_h0_diary_dayBefore : Nat → Int32) (f_h0_world_folk_noiseColumn : Nat → Int32) (f_h0_world_folk_noiseLoud : Nat → Int32) (sz : Nat) (Q : Int32 → (Int32 × Int32 × Int32 × (Nat → Int32) × (Nat → Int32) × (Nat → Int32) × (Nat → Int32) × (Nat → Int32)) → Prop) (h : wp_X7_tryHush a h0_world_folk_noises h0_world_folk_hushed h0_diary_kept h0_diary_latest f_h0_diary_deed f_h0_diary_whose f_h0_diary_before f_h0_diary_bucketsBefore f_h0_diary_dayBefore f_h0_world_folk_noiseColumn f_h0_world_folk_noiseLoud Q) : Met l yX7_tryHush (Cond.code yX7_tryHush cX7_tryHush 3 (some .int) :: gW) ({ frames := 2, cells := 0, slots := 0, locals := 49 }) (va_Pc [Value.ref h0, Value.int a] (Pre G cs [(h0, Sum.inr (7, [Value.ref h0_world, Value.ref h0_diary, Value.ref h0_asker, Value.int h0_done, Value.int h0_latest])), (h0_world, Sum.inr (10, [Value.ref h0_world_rock, Value.ref h0_world_crew, Value.ref h0_world_folk, Value.ref h0_world_term, Value.ref h0_world_laws, Value.int h0_world_lawCount, Value.int h0_world_force])), (h0_world_folk, Sum.inr (4, [Value.ref h0_world_folk_column, Value.ref h0_world_folk_ear, Value.int h0_world_folk_listeners, Value.ref h0_world_folk_noiseColumn, Value.ref h0_world_folk_noiseLoud, Value.int h0_world_folk_noises, Value.int h0_world_folk_hushed, Value.ref h0_world_folk_hearsayColumn, Value.ref h0_world_folk_hearsayLoud, Value.int h0_world_folk_hearsay, Value.ref h0_world_folk_sounds, Value.ref h0_world_folk_wet, Value.int h0_world_folk_wells])), (h0_diary, Sum.inr (2, [Value.ref h0_diary_deed, Value.ref h0_diary_whose, Value.ref h0_diary_before, Value.ref h0_diary_bucketsBefore, Value.ref h0_diary_dayBefore, Value.int h0_diary_kept, Value.int h0_diary_latest])), (h0_diary_deed, Sum.inl (cs 0, 16, Sum.inl f_h0_diary_deed)), (h0_diary_whose, Sum.inl (cs 0, 16, Sum.inl f_h0_diary_whose)), (h0_diary_before, Sum.inl (cs 0, 16, Sum.inl f_h0_diary_before)), (h0_diary_bucketsBefore, Sum.inl (cs 0, 16, Sum.inl f_h0_diary_bucketsBefore)), (h0_diary_dayBefore, Sum.inl (cs 0, 16, Sum.inl f_h0_diary_dayBefore)), (h0_world_folk_noiseColumn, Sum.inl (cs 0, 6, Sum.inl f_h0_world_folk_noiseColumn)), (h0_world_folk_noiseLoud, Sum.inl (cs 0, 6, Sum.inl f_h0_world_folk_noiseLoud))] sz)) (va_Qi (fun r (u : Int32 × Int32 × Int32 × (Nat → Int32) × (Nat → Int32) × (Nat → Int32) × (Nat → Int32) × (Nat → Int32)) => Q r u) (fun (u : Int32 × Int32 × Int32 × (Nat → Int32) × (Nat → Int32) × (Nat → Int32) × (Nat → Int32) × (Nat → Int32)) t => Aft G cs (va_A [(h0, Sum.inr (7, [Value.ref h0_world, Value.ref h0_diary, Value.ref h0_asker, Value.int h0_done, Value.int h0_latest])), (h0_world, Sum.inr (10, [Value.ref h0_world_rock, Value.ref h0_world_crew, Value.ref h0_world_folk, Value.ref h0_world_term, Value.ref h0_world_laws, Value.int h0_world_lawCount, Value.int h0_world_force])), (h0_world_folk, Sum.inr (4, [Value.ref h0_world_folk_column, Value.ref h0_world_folk_ear, Value.int h0_world_folk_listeners, Value.ref h0_world_folk_noiseColumn, Value.ref h0_world_folk_noiseLoud, Value.int h0_world_folk_noises, Value.int h0_world_folk_hushed, Value.ref h0_world_folk_hearsayColumn, Value.ref h0_world_folk_hearsayLoud, Value.int h0_world_folk_hearsay, Value.ref h0_world_folk_sounds, Value.ref h0_world_folk_wet, Value.int h0_world_folk_wells])), (h0_diary, Sum.inr (2, [Value.ref h0_diary_deed, Value.ref h0_diary_whose, Value.ref h0_diary_before, Value.ref h0_diary_bucketsBefore, Value.ref h0_diary_dayBefore, Value.int h0_diary_kept, Value.int h0_diary_latest])), (h0_diary_deed, Sum.inl (cs 0, 16, Sum.inl f_h0_diary_deed)), (h0_diary_whose, Sum.inl (cs 0, 16, Sum.inl f_h0_diary_whose)), (h0_diary_before, Sum.inl (cs 0, 16, Sum.inl f_h0_diary_before)), (h0_diary_bucketsBefore, Sum.inl (cs 0, 16, Sum.inl f_h0_diary_bucketsBefore)), (h0_diary_dayBefore, Sum.inl (cs 0, 16, Sum.inl f_h0_diary_dayBefore)), (h0_world_folk_noiseColumn, Sum.inl (cs 0, 6, Sum.inl f_h0_world_folk_noiseColumn)), (h0_world_folk_noiseLoud, Sum.inl (cs 0, 6, Sum.inl f_h0_world_folk_noiseLoud))] sz) [(h0, Sum.inr (7, [Value.ref h0_world, Value.ref h0_diary, Value.ref h0_asker, Value.int h0_done, Value.int h0_latest])), (h0_world, Sum.inr (10, [Value.ref h0_world_rock, Value.ref h0_world_crew, Value.ref h0_world_folk, Value.ref h0_world_term, Value.ref h0_world_laws, Value.int h0_world_lawCount, Value.int h0_world_force])), (h0_world_folk, Sum.inr (4, [Value.ref h0_world_folk_column, Value.ref h0_world_folk_ear, Value.int h0_world_folk_listeners, Value.ref h0_world_folk_noiseColumn, Value.ref h0_world_folk_noiseLoud, Value.int h0_world_folk_noises, Value.int u.1, Value.ref h0_world_folk_hearsayColumn, Value.ref h0_world_folk_hearsayLoud, Value.int h0_world_folk_hearsay, Value.ref h0_world_folk_sounds, Value.ref h0_world_folk_wet, Value.int h0_world_folk_wells])), (h0_diary, Sum.inr (2, [Value.ref h0_diary_deed, Value.ref h0_diary_whose, Value.ref h0_diary_before, Value.ref h0_diary_bucketsBefore, Value.ref h0_diary_dayBefore, Value.int u.2.1, Value.int u.2.2.1])), (h0_diary_deed, Sum.inl (cs 0, 16, Sum.inl u.2.2.2.1)), (h0_diary_whose, Sum.inl (cs 0, 16, Sum.inl u.2.2.2.2.1)), (h0_diary_before, Sum.inl (cs 0, 16, Sum.inl u.2.2.2.2.2.1)), (h0_diary_bucketsBefore, Sum.inl (cs 0, 16, Sum.inl u.2.2.2.2.2.2.1)), (h0_diary_dayBefore, Sum.inl (cs 0, 16, Sum.inl u.2.2.2.2.2.2.2)), (h0_world_folk_noiseColumn, Sum.inl (cs 0, 6, Sum.inl f_h0_world_folk_noiseColumn)), (h0_world_folk_noiseLoud, Sum.inl (cs 0, 6, Sum.inl f_h0_world_folk_noiseLoud))] t) (va_A [(h0, Sum.inr (7, [Value.ref h0_world, Value.ref h0_diary, Value.ref h0_asker, Value.int h0_done, Value.int h0_latest])), (h0_world, Sum.inr (10, [Value.ref h0_world_rock, Value.ref h0_world_crew, Value.ref h0_world_folk, Value.ref h0_world_term, Value.ref h0_world_laws, Value.int h0_world_lawCount, Value.int h0_world_force])), (h0_world_folk, Sum.inr (4, [Value.ref h0_world_folk_column, Value.ref h0_world_folk_ear, Value.int h0_world_folk_listeners, Value.ref h0_world_folk_noiseColumn, Value.ref h0_world_folk_noiseLoud, Value.int h0_world_folk_noises, Value.int h0_world_folk_hushed, Value.ref h0_world_folk_hearsayColumn, Value.ref h0_world_folk_hearsayLoud, Value.int h0_world_folk_hearsay, Value.ref h0_world_folk_sounds, Value.ref h0_world_folk_wet, Value.int h0_world_folk_wells])), (h0_diary, Sum.inr (2, [Value.ref h0_diary_deed, Value.ref h0_diary_whose, Value.ref h0_diary_before, Value.ref h0_diary_bucketsBefore, Value.ref h0_diary_dayBefore, Value.int h0_diary_kept, Value.int h0_diary_latest])), (h0_diary_deed, Sum.inl (cs 0, 16, Sum.inl f_h0_diary_deed)), (h0_diary_whose, Sum.inl (cs 0, 16, Sum.inl f_h0_diary_whose)), (h0_diary_before, Sum.inl (cs 0, 16, Sum.inl f_h0_diary_before)), (h0_diary_bucketsBefore, Sum.inl (cs 0, 16, Sum.inl f_h0_diary_bucketsBefore)), (h0_diary_dayBefore, Sum.inl (cs 0, 16, Sum.inl f_h0_diary_dayBefore)), (h0_world_folk_noiseColumn, Sum.inl (cs 0, 6, Sum.inl f_h0_world_folk_noiseColumn)), (h0_world_folk_noiseLoud, Sum.inl (cs 0, 6, Sum.inl f_h0_world_folk_noiseLoud))] sz)) 0 0 (va_A [(h0, Sum.inr (7, [Value.ref h0_world, Value.ref h0_diary, Value.ref h0_asker, Value.int h0_done, Value.int h0_latest])), (h0_world, Sum.inr (10, [Value.ref h0_world_rock, Value.ref h0_world_crew, Value.ref h0_world_folk, Value.ref h0_world_term, Value.ref h0_world_laws, Value.int h0_world_lawCount, Value.int h0_world_force])), (h0_world_folk, Sum.inr (4, [Value.ref h0_world_folk_column, Value.ref h0_world_folk_ear, Value.int h0_world_folk_listeners, Value.ref h0_world_folk_noiseColumn, Value.ref h0_world_folk_noiseLoud, Value.int h0_world_folk_noises, Value.int h0_world_folk_hushed, Value.ref h0_world_folk_hearsayColumn, Value.ref h0_world_folk_hearsayLoud, Value.int h0_world_folk_hearsay, Value.ref h0_world_folk_sounds, Value.ref h0_world_folk_wet, Value.int h0_world_folk_wells])), (h0_diary, Sum.inr (2, [Value.ref h0_diary_deed, Value.ref h0_diary_whose, Value.ref h0_diary_before, Value.ref h0_diary_bucketsBefore, Value.ref h0_diary_dayBefore, Value.int h0_diary_kept, Value.int h0_diary_latest])), (h0_diary_deed, Sum.inl (cs 0, 16, Sum.inl f_h0_diary_deed)), (h0_diary_whose, Sum.inl (cs 0, 16, Sum.inl f_h0_diary_whose)), (h0_diary_before, Sum.inl (cs 0, 16, Sum.inl f_h0_diary_before)), (h0_diary_bucketsBefore, Sum.inl (cs 0, 16, Sum.inl f_h0_diary_bucketsBefore)), (h0_diary_dayBefore, Sum.inl (cs 0, 16, Sum.inl f_h0_diary_dayBefore)), (h0_world_folk_noiseColumn, Sum.inl (cs 0, 6, Sum.inl f_h0_world_folk_noiseColumn)), (h0_world_folk_noiseLoud, Sum.inl (cs 0, 6, Sum.inl f_h0_world_folk_noiseLoud))] sz) := by
  unfold wp_X7_tryHush at h
  refine Met.ofW (cc := cX7_tryHush) (maxL := 3) (ret := (some .int)) (by decide) rfl ?_
  intro p e s m args below meth c s₁ B hml hv
  obtain ⟨rfl, hsz, hP, hK, hD0, hN⟩ := hv
  have hx := B.exec
  have hb := B.bytes
  have hr := B.returns
  have hts := atoms_spec (ws := Cond.code yX7_tryHush cX7_tryHush 3 (some .int) :: gW) B.pre
  have htl : ∀ w ∈ gW, w.before _ s = true := fun w h => hts w (List.mem_cons_of_mem _ h)
  have hown : s.vm.findClass RX7 = some m.cls := findClass_of_methodNamed B.named
  have hlocks := B.notSynchronized
  subst hsz
  have hD := hD0.self (sz := s.heap.size)
  generalize hAe : va_A [(h0, Sum.inr (7, [Value.ref h0_world, Value.ref h0_diary, Value.ref h0_asker, Value.int h0_done, Value.int h0_latest])), (h0_world, Sum.inr (10, [Value.ref h0_world_rock, Value.ref h0_world_crew, Value.ref h0_world_folk, Value.ref h0_world_term, Value.ref h0_world_laws, Value.int h0_world_lawCount, Value.int h0_world_force])), (h0_world_folk, Sum.inr (4, [Value.ref h0_world_folk_column, Value.ref h0_world_folk_ear, Value.int h0_world_folk_listeners, Value.ref h0_world_folk_noiseColumn, Value.ref h0_world_folk_noiseLoud, Value.int h0_world_folk_noises, Value.int h0_world_folk_hushed, Value.ref h0_world_folk_hearsayColumn, Value.ref h0_world_folk_hearsayLoud, Value.int h0_world_folk_hearsay, Value.ref h0_world_folk_sounds, Value.ref h0_world_folk_wet, Value.int h0_world_folk_wells])), (h0_diary, Sum.inr (2, [Value.ref h0_diary_deed, Value.ref h0_diary_whose, Value.ref h0_diary_before, Value.ref h0_diary_bucketsBefore, Value.ref h0_diary_dayBefore, Value.int h0_diary_kept, Value.int h0_diary_latest])), (h0_diary_deed, Sum.inl (cs 0, 16, Sum.inl f_h0_diary_deed)), (h0_diary_whose, Sum.inl (cs 0, 16, Sum.inl f_h0_diary_whose)), (h0_diary_before, Sum.inl (cs 0, 16, Sum.inl f_h0_diary_before)), (h0_diary_bucketsBefore, Sum.inl (cs 0, 16, Sum.inl f_h0_diary_bucketsBefore)), (h0_diary_dayBefore, Sum.inl (cs 0, 16, Sum.inl f_h0_diary_dayBefore)), (h0_world_folk_noiseColumn, Sum.inl (cs 0, 6, Sum.inl f_h0_world_folk_noiseColumn)), (h0_world_folk_noiseLoud, Sum.inl (cs 0, 6, Sum.inl f_h0_world_folk_noiseLoud))] s.heap.size = A at hD ⊢
  have hA : ∀ q : Nat, s.heap.size ≤ q → A q := fun q h => by rw [← hAe]; exact Or.inr h
  have hS : va_S A s.heap s.heap [] := va_S.rf
  have hl := lv_entry ([Value.ref h0, Value.int a]) (n := 3) (Nat.le_of_ble_eq_true rfl)
  rw [lg_entry_eq]
  generalize (lg_sl ([Value.ref h0, Value.int a]) ++ List.replicate (3 - (lg_sl ([Value.ref h0, Value.int a])).length) Slot.unset).toArray = ls at hl ⊢
  have hl : lv_has ls 3 [(0, Value.ref h0), (1, Value.int a)] := hl
  refine lv_aload_n hx hb dX7_tryHush_0 rfl (lv_at hl 0 rfl) ?_
  refine va_get (ci := 7) (v := Value.ref h0_world) (C := RX7) (T := TX7) (N := 5) hx hb htl inX7 hown hK hP 0 rfl rfl 0 (by decide) (htl _ fl_RX7_12) (fun _ h9 => h9) rfl dX7_tryHush_1 ?_
  refine va_get (ci := 10) (v := Value.ref h0_world_folk) (C := RX10) (T := TX10) (N := 7) hx hb htl inX10 hown hK hP 1 rfl rfl 2 (by decide) (htl _ fl_RX7_115) (fun _ h9 => h9) rfl dX7_tryHush_4 ?_
  refine lv_astore_n hx hb dX7_tryHush_7 rfl hl (by decide) (rfl : _ = ([(2, Value.ref h0_world_folk), (0, Value.ref h0), (1, Value.int a)] : List (Nat × Value))) (fun ls hl => ?_)
  refine lv_iload_n hx hb dX7_tryHush_8 rfl (lv_at hl 2 rfl) ?_
  refine lv_aload_n hx hb dX7_tryHush_9 rfl (lv_at hl 0 rfl) ?_
  refine va_get (ci := 4) (v := Value.int h0_world_folk_noises) (C := RX4) (T := TX4) (N := 13) hx hb htl inX4 hown hK hP 2 rfl rfl 5 (by decide) (htl _ fl_RX7_119) (fun _ h9 => h9) rfl dX7_tryHush_10 ?_
  refine vp_callSi (mkSN (rest := []) ⟨hx, hb, hml, hown, htl⟩ hN hK (g_X11_isWithin l G cs a h0_world_folk_noises _ h) (cSN 2 htl hN nl_RX7_46 mT_X11_isWithin mN_RX11 mC_X11_isWithin ok_X11_isWithin rfl rfl ⟨(Nat.le_of_ble_eq_true rfl), (Nat.le_of_ble_eq_true rfl)⟩) rfl hl.1 rfl (Nat.le_of_ble_eq_true rfl) dX7_tryHush_13 ⟨(Nat.le_of_ble_eq_true rfl), (Nat.le_of_ble_eq_true rfl)⟩) (fun r_13 h => ?_)
  obtain ⟨h, hz_1⟩ := h
  refine lv_if_ne (tgt := 22) hx hb dX7_tryHush_16 (by decide) (fun c_16 => ?_) (fun c_16 => ?_)
  · replace h := ok_f h c_16
    refine lv_aload_n hx hb dX7_tryHush_22 rfl (lv_at hl 0 rfl) ?_
    refine va_get (ci := 4) (v := Value.int h0_world_folk_hushed) (C := RX4) (T := TX4) (N := 13) hx hb htl inX4 hown hK hP 2 rfl rfl 6 (by decide) (htl _ fl_RX7_124) (fun _ h9 => h9) rfl dX7_tryHush_23 ?_
    refine lv_iload_n hx hb dX7_tryHush_26 rfl (lv_at hl 2 rfl) ?_
    refine lv_ishr hx hb dX7_tryHush_27 ?_
    refine lv_iconst (v := 1) hx hb dX7_tryHush_28 (by decide) ?_
    refine lv_iand hx hb dX7_tryHush_29 ?_
    refine lv_if_eq (tgt := 36) hx hb dX7_tryHush_30 (by decide) (fun c_30 => ?_) (fun c_30 => ?_)
    · replace h := ok_t h c_30
      refine lv_aload_n hx hb dX7_tryHush_36 rfl (lv_at hl 1 rfl) ?_
      refine va_get (ci := 7) (v := Value.ref h0_diary) (C := RX7) (T := TX7) (N := 5) hx hb htl inX7 hown hK hP 0 rfl rfl 1 (by decide) (htl _ fl_RX7_21) (fun _ h9 => h9) rfl dX7_tryHush_37 ?_
      refine lv_iconst (v := 2) hx hb dX7_tryHush_40 (by decide) ?_
      refine lv_iload_n hx hb dX7_tryHush_41 rfl (lv_at hl 2 rfl) ?_
      refine lv_iconst (v := 0) hx hb dX7_tryHush_42 (by decide) ?_
      refine lv_iconst (v := 0) hx hb dX7_tryHush_43 (by decide) ?_
      refine lv_iconst (v := 0) hx hb dX7_tryHush_44 (by decide) ?_
      refine mv (wr := [(h0, Sum.inr (7, [Value.ref h0_world, Value.ref h0_diary, Value.ref h0_asker, Value.int h0_done, Value.int h0_latest])), (h0_world, Sum.inr (10, [Value.ref h0_world_rock, Value.ref h0_world_crew, Value.ref h0_world_folk, Value.ref h0_world_term, Value.ref h0_world_laws, Value.int h0_world_lawCount, Value.int h0_world_force])), (h0_world_folk, Sum.inr (4, [Value.ref h0_world_folk_column, Value.ref h0_world_folk_ear, Value.int h0_world_folk_listeners, Value.ref h0_world_folk_noiseColumn, Value.ref h0_world_folk_noiseLoud, Value.int h0_world_folk_noises, Value.int h0_world_folk_hushed, Value.ref h0_world_folk_hearsayColumn, Value.ref h0_world_folk_hearsayLoud, Value.int h0_world_folk_hearsay, Value.ref h0_world_folk_sounds, Value.ref h0_world_folk_wet, Value.int h0_world_folk_wells])), (h0_world_folk_noiseColumn, Sum.inl (cs 0, 6, Sum.inl f_h0_world_folk_noiseColumn)), (h0_world_folk_noiseLoud, Sum.inl (cs 0, 6, Sum.inl f_h0_world_folk_noiseLoud))]) (mkV (rest := []) ⟨hx, hb, hml, hown, htl⟩ hN hK hP hD (g_X2_add l G cs h0_diary 2 a 0 0 0 h0_diary_deed h0_diary_whose h0_diary_before h0_diary_bucketsBefore h0_diary_dayBefore h0_diary_kept h0_diary_latest (f_h0_diary_deed) (f_h0_diary_whose) (f_h0_diary_before) (f_h0_diary_bucketsBefore) (f_h0_diary_dayBefore) _ _ h) [3, 4, 5, 6, 7, 8] rfl rfl 0 2 rfl rfl (cV 5 htl lk_RX7_90 mI_X2_add mS_X2_add mN_RX2 mC_X2_add ok_X2_add rfl rfl ⟨(Nat.le_of_ble_eq_true rfl), (Nat.le_of_ble_eq_true rfl)⟩) rfl hl.1 rfl (Nat.le_of_ble_eq_true rfl) dX7_tryHush_45 ⟨(Nat.le_of_ble_eq_true rfl), (Nat.le_of_ble_eq_true rfl)⟩) hP hD hS hA [3, 4, 5, 6, 7, 8] [0, 1, 2, 9, 10] rfl rfl rfl (by decide) (fun u_45 H locs h hP hD hS => ?_)
      obtain ⟨u_45_0, u_45_1, u_45_2, u_45_3, u_45_4, u_45_5, u_45_6⟩ := u_45
      replace h := un7_e h
      obtain ⟨hP, hD⟩ := PD_as hP [(h0, Sum.inr (7, [Value.ref h0_world, Value.ref h0_diary, Value.ref h0_asker, Value.int h0_done, Value.int h0_latest])), (h0_world, Sum.inr (10, [Value.ref h0_world_rock, Value.ref h0_world_crew, Value.ref h0_world_folk, Value.ref h0_world_term, Value.ref h0_world_laws, Value.int h0_world_lawCount, Value.int h0_world_force])), (h0_world_folk, Sum.inr (4, [Value.ref h0_world_folk_column, Value.ref h0_world_folk_ear, Value.int h0_world_folk_listeners, Value.ref h0_world_folk_noiseColumn, Value.ref h0_world_folk_noiseLoud, Value.int h0_world_folk_noises, Value.int h0_world_folk_hushed, Value.ref h0_world_folk_hearsayColumn, Value.ref h0_world_folk_hearsayLoud, Value.int h0_world_folk_hearsay, Value.ref h0_world_folk_sounds, Value.ref h0_world_folk_wet, Value.int h0_world_folk_wells])), (h0_world_folk_noiseColumn, Sum.inl (cs 0, 6, Sum.inl f_h0_world_folk_noiseColumn)), (h0_world_folk_noiseLoud, Sum.inl (cs 0, 6, Sum.inl f_h0_world_folk_noiseLoud)), (h0_diary, Sum.inr (2, [Value.ref h0_diary_deed, Value.ref h0_diary_whose, Value.ref h0_diary_before, Value.ref h0_diary_bucketsBefore, Value.ref h0_diary_dayBefore, Value.int u_45_0, Value.int u_45_1])), (h0_diary_deed, Sum.inl (cs 0, 16, Sum.inl u_45_2)), (h0_diary_whose, Sum.inl (cs 0, 16, Sum.inl u_45_3)), (h0_diary_before, Sum.inl (cs 0, 16, Sum.inl u_45_4)), (h0_diary_bucketsBefore, Sum.inl (cs 0, 16, Sum.inl u_45_5)), (h0_diary_dayBefore, Sum.inl (cs 0, 16, Sum.inl u_45_6))] rfl hD
      refine lv_aload_n hx hb dX7_tryHush_48 rfl (lv_at hl 0 rfl) ?_
      refine lv_dup hx hb dX7_tryHush_49 rfl ?_
      refine va_get (ci := 4) (v := Value.int h0_world_folk_hushed) (C := RX4) (T := TX4) (N := 13) hx hb htl inX4 hown hK hP 2 rfl rfl 6 (by decide) (htl _ fl_RX7_124) (fun _ h9 => h9) rfl dX7_tryHush_50 ?_
      refine lv_iconst (v := 1) hx hb dX7_tryHush_53 (by decide) ?_
      refine lv_iload_n hx hb dX7_tryHush_54 rfl (lv_at hl 2 rfl) ?_
      refine lv_ishl hx hb dX7_tryHush_55 ?_
      refine lv_ior hx hb dX7_tryHush_56 ?_
      refine va_put (ci := 4) (v := Value.int (h0_world_folk_hushed ||| ((1 : Int32) <<< (a &&& 31)))) (ty := .int) (C := RX4) (T := TX4) (N := 13) hx hb htl inX4 tyX4 tyX4_ok nmX4 hown hK hP hD hS 2 rfl rfl 6 (by decide) (htl _ fl_RX7_124) (fun _ h9 => h9) rfl (by decide +kernel) (by first | rfl | decide) (by first | rfl | decide) (Nat.le_of_ble_eq_true rfl) dX7_tryHush_57 (fun H locs hP hD hS => ?_)
      obtain ⟨hP, hD⟩ := PD_as hP [(h0, Sum.inr (7, [Value.ref h0_world, Value.ref h0_diary, Value.ref h0_asker, Value.int h0_done, Value.int h0_latest])), (h0_world, Sum.inr (10, [Value.ref h0_world_rock, Value.ref h0_world_crew, Value.ref h0_world_folk, Value.ref h0_world_term, Value.ref h0_world_laws, Value.int h0_world_lawCount, Value.int h0_world_force])), (h0_world_folk, Sum.inr (4, [Value.ref h0_world_folk_column, Value.ref h0_world_folk_ear, Value.int h0_world_folk_listeners, Value.ref h0_world_folk_noiseColumn, Value.ref h0_world_folk_noiseLoud, Value.int h0_world_folk_noises, Value.int (h0_world_folk_hushed ||| ((1 : Int32) <<< (a &&& 31))), Value.ref h0_world_folk_hearsayColumn, Value.ref h0_world_folk_hearsayLoud, Value.int h0_world_folk_hearsay, Value.ref h0_world_folk_sounds, Value.ref h0_world_folk_wet, Value.int h0_world_folk_wells])), (h0_world_folk_noiseColumn, Sum.inl (cs 0, 6, Sum.inl f_h0_world_folk_noiseColumn)), (h0_world_folk_noiseLoud, Sum.inl (cs 0, 6, Sum.inl f_h0_world_folk_noiseLoud)), (h0_diary, Sum.inr (2, [Value.ref h0_diary_deed, Value.ref h0_diary_whose, Value.ref h0_diary_before, Value.ref h0_diary_bucketsBefore, Value.ref h0_diary_dayBefore, Value.int u_45_0, Value.int u_45_1])), (h0_diary_deed, Sum.inl (cs 0, 16, Sum.inl u_45_2)), (h0_diary_whose, Sum.inl (cs 0, 16, Sum.inl u_45_3)), (h0_diary_before, Sum.inl (cs 0, 16, Sum.inl u_45_4)), (h0_diary_bucketsBefore, Sum.inl (cs 0, 16, Sum.inl u_45_5)), (h0_diary_dayBefore, Sum.inl (cs 0, 16, Sum.inl u_45_6))] rfl hD
      refine lv_aload_n hx hb dX7_tryHush_60 rfl (lv_at hl 0 rfl) ?_
      refine lv_aload_n hx hb dX7_tryHush_61 rfl (lv_at hl 0 rfl) ?_
      refine va_get (ci := 4) (v := Value.ref h0_world_folk_noiseColumn) (C := RX4) (T := TX4) (N := 13) hx hb htl inX4 hown hK hP 2 rfl rfl 3 (by decide) (htl _ fl_RX7_127) (fun _ h9 => h9) rfl dX7_tryHush_62 ?_
      refine lv_iload_n hx hb dX7_tryHush_65 rfl (lv_at hl 2 rfl) ?_
      obtain ⟨hq_2, h⟩ := h
      refine va_iald hx hb hK hP 3 0 rfl rfl hq_2 dX7_tryHush_66 ?_
      refine lv_iconst (v := 0) hx hb dX7_tryHush_67 (by decide) ?_
      refine vp_callSi (mkVr (rest := []) ⟨hx, hb, hml, hown, htl⟩ hN hK hP (g_X4_noiseIn l G cs h0_world_folk (f_h0_world_folk_noiseColumn a.toNatClampNeg) 0 (Value.ref h0_world_folk_column) (Value.ref h0_world_folk_ear) h0_world_folk_listeners h0_world_folk_noiseColumn h0_world_folk_noiseLoud h0_world_folk_noises (h0_world_folk_hushed ||| ((1 : Int32) <<< (a &&& 31))) (Value.ref h0_world_folk_hearsayColumn) (Value.ref h0_world_folk_hearsayLoud) h0_world_folk_hearsay (Value.ref h0_world_folk_sounds) (Value.ref h0_world_folk_wet) h0_world_folk_wells (f_h0_world_folk_noiseColumn) (f_h0_world_folk_noiseLoud) _ h) [2, 3, 4] rfl 0 4 rfl rfl (cV 2 htl lk_RX7_130 mI_X4_noiseIn mS_X4_noiseIn mN_RX4 mC_X4_noiseIn ok_X4_noiseIn rfl rfl ⟨(Nat.le_of_ble_eq_true rfl), (Nat.le_of_ble_eq_true rfl)⟩) rfl hl.1 rfl (Nat.le_of_ble_eq_true rfl) dX7_tryHush_68 ⟨(Nat.le_of_ble_eq_true rfl), (Nat.le_of_ble_eq_true rfl)⟩) (fun r_68 h => ?_)
      obtain ⟨hP9, hD9⟩ := PD_pk hP hD [(h0, Sum.inr (7, [Value.ref h0_world, Value.ref h0_diary, Value.ref h0_asker, Value.int h0_done, Value.int h0_latest])), (h0_world, Sum.inr (10, [Value.ref h0_world_rock, Value.ref h0_world_crew, Value.ref h0_world_folk, Value.ref h0_world_term, Value.ref h0_world_laws, Value.int h0_world_lawCount, Value.int h0_world_force])), (h0_world_folk, Sum.inr (4, [Value.ref h0_world_folk_column, Value.ref h0_world_folk_ear, Value.int h0_world_folk_listeners, Value.ref h0_world_folk_noiseColumn, Value.ref h0_world_folk_noiseLoud, Value.int h0_world_folk_noises, Value.int (h0_world_folk_hushed ||| ((1 : Int32) <<< (a &&& 31))), Value.ref h0_world_folk_hearsayColumn, Value.ref h0_world_folk_hearsayLoud, Value.int h0_world_folk_hearsay, Value.ref h0_world_folk_sounds, Value.ref h0_world_folk_wet, Value.int h0_world_folk_wells])), (h0_diary, Sum.inr (2, [Value.ref h0_diary_deed, Value.ref h0_diary_whose, Value.ref h0_diary_before, Value.ref h0_diary_bucketsBefore, Value.ref h0_diary_dayBefore, Value.int u_45_0, Value.int u_45_1])), (h0_diary_deed, Sum.inl (cs 0, 16, Sum.inl u_45_2)), (h0_diary_whose, Sum.inl (cs 0, 16, Sum.inl u_45_3)), (h0_diary_before, Sum.inl (cs 0, 16, Sum.inl u_45_4)), (h0_diary_bucketsBefore, Sum.inl (cs 0, 16, Sum.inl u_45_5)), (h0_diary_dayBefore, Sum.inl (cs 0, 16, Sum.inl u_45_6)), (h0_world_folk_noiseColumn, Sum.inl (cs 0, 6, Sum.inl f_h0_world_folk_noiseColumn)), (h0_world_folk_noiseLoud, Sum.inl (cs 0, 6, Sum.inl f_h0_world_folk_noiseLoud))] [0, 1, 2, 5, 6, 7, 8, 9, 10, 3, 4] rfl rfl
      exact W.iret (v := r_68) hx hb hr (fun t ht hW => ⟨⟨r_68, ((h0_world_folk_hushed ||| ((1 : Int32) <<< (a &&& 31))), u_45_0, u_45_1, u_45_2, u_45_3, u_45_4, u_45_5, u_45_6), rfl, h, ⟨by rw [ht]; exact hP9, va_K.moved hW.alike hK, hD9⟩⟩, hS.F ht⟩) hS.2.2 dX7_tryHush_71
    · replace h := ok_f h c_30
      refine lv_bipush (v := (-3)) hx hb dX7_tryHush_33 (by decide) ?_
      obtain ⟨hP9, hD9⟩ := PD_pk hP hD [(h0, Sum.inr (7, [Value.ref h0_world, Value.ref h0_diary, Value.ref h0_asker, Value.int h0_done, Value.int h0_latest])), (h0_world, Sum.inr (10, [Value.ref h0_world_rock, Value.ref h0_world_crew, Value.ref h0_world_folk, Value.ref h0_world_term, Value.ref h0_world_laws, Value.int h0_world_lawCount, Value.int h0_world_force])), (h0_world_folk, Sum.inr (4, [Value.ref h0_world_folk_column, Value.ref h0_world_folk_ear, Value.int h0_world_folk_listeners, Value.ref h0_world_folk_noiseColumn, Value.ref h0_world_folk_noiseLoud, Value.int h0_world_folk_noises, Value.int h0_world_folk_hushed, Value.ref h0_world_folk_hearsayColumn, Value.ref h0_world_folk_hearsayLoud, Value.int h0_world_folk_hearsay, Value.ref h0_world_folk_sounds, Value.ref h0_world_folk_wet, Value.int h0_world_folk_wells])), (h0_diary, Sum.inr (2, [Value.ref h0_diary_deed, Value.ref h0_diary_whose, Value.ref h0_diary_before, Value.ref h0_diary_bucketsBefore, Value.ref h0_diary_dayBefore, Value.int h0_diary_kept, Value.int h0_diary_latest])), (h0_diary_deed, Sum.inl (cs 0, 16, Sum.inl f_h0_diary_deed)), (h0_diary_whose, Sum.inl (cs 0, 16, Sum.inl f_h0_diary_whose)), (h0_diary_before, Sum.inl (cs 0, 16, Sum.inl f_h0_diary_before)), (h0_diary_bucketsBefore, Sum.inl (cs 0, 16, Sum.inl f_h0_diary_bucketsBefore)), (h0_diary_dayBefore, Sum.inl (cs 0, 16, Sum.inl f_h0_diary_dayBefore)), (h0_world_folk_noiseColumn, Sum.inl (cs 0, 6, Sum.inl f_h0_world_folk_noiseColumn)), (h0_world_folk_noiseLoud, Sum.inl (cs 0, 6, Sum.inl f_h0_world_folk_noiseLoud))] [0, 1, 2, 3, 4, 5, 6, 7, 8, 9, 10] rfl rfl
      exact W.iret (v := (-3)) hx hb hr (fun t ht hW => ⟨⟨(-3), (h0_world_folk_hushed, h0_diary_kept, h0_diary_latest, f_h0_diary_deed, f_h0_diary_whose, f_h0_diary_before, f_h0_diary_bucketsBefore, f_h0_diary_dayBefore), rfl, h, ⟨by rw [ht]; exact hP9, va_K.moved hW.alike hK, hD9⟩⟩, hS.F ht⟩) hS.2.2 dX7_tryHush_35
  · replace h := ok_t h c_16
    refine lv_bipush (v := (-2)) hx hb dX7_tryHush_19 (by decide) ?_
    obtain ⟨hP9, hD9⟩ := PD_pk hP hD [(h0, Sum.inr (7, [Value.ref h0_world, Value.ref h0_diary, Value.ref h0_asker, Value.int h0_done, Value.int h0_latest])), (h0_world, Sum.inr (10, [Value.ref h0_world_rock, Value.ref h0_world_crew, Value.ref h0_world_folk, Value.ref h0_world_term, Value.ref h0_world_laws, Value.int h0_world_lawCount, Value.int h0_world_force])), (h0_world_folk, Sum.inr (4, [Value.ref h0_world_folk_column, Value.ref h0_world_folk_ear, Value.int h0_world_folk_listeners, Value.ref h0_world_folk_noiseColumn, Value.ref h0_world_folk_noiseLoud, Value.int h0_world_folk_noises, Value.int h0_world_folk_hushed, Value.ref h0_world_folk_hearsayColumn, Value.ref h0_world_folk_hearsayLoud, Value.int h0_world_folk_hearsay, Value.ref h0_world_folk_sounds, Value.ref h0_world_folk_wet, Value.int h0_world_folk_wells])), (h0_diary, Sum.inr (2, [Value.ref h0_diary_deed, Value.ref h0_diary_whose, Value.ref h0_diary_before, Value.ref h0_diary_bucketsBefore, Value.ref h0_diary_dayBefore, Value.int h0_diary_kept, Value.int h0_diary_latest])), (h0_diary_deed, Sum.inl (cs 0, 16, Sum.inl f_h0_diary_deed)), (h0_diary_whose, Sum.inl (cs 0, 16, Sum.inl f_h0_diary_whose)), (h0_diary_before, Sum.inl (cs 0, 16, Sum.inl f_h0_diary_before)), (h0_diary_bucketsBefore, Sum.inl (cs 0, 16, Sum.inl f_h0_diary_bucketsBefore)), (h0_diary_dayBefore, Sum.inl (cs 0, 16, Sum.inl f_h0_diary_dayBefore)), (h0_world_folk_noiseColumn, Sum.inl (cs 0, 6, Sum.inl f_h0_world_folk_noiseColumn)), (h0_world_folk_noiseLoud, Sum.inl (cs 0, 6, Sum.inl f_h0_world_folk_noiseLoud))] [0, 1, 2, 3, 4, 5, 6, 7, 8, 9, 10] rfl rfl
    exact W.iret (v := (-2)) hx hb hr (fun t ht hW => ⟨⟨(-2), (h0_world_folk_hushed, h0_diary_kept, h0_diary_latest, f_h0_diary_deed, f_h0_diary_whose, f_h0_diary_before, f_h0_diary_bucketsBefore, f_h0_diary_dayBefore), rfl, h, ⟨by rw [ht]; exact hP9, va_K.moved hW.alike hK, hD9⟩⟩, hS.F ht⟩) hS.2.2 dX7_tryHush_21
set_option maxHeartbeats 1000000 in
set_option maxRecDepth 100000 in
theorem g_X7_tryLie (l : Launch) (G : va_G) (cs : Nat → ClassId) (h0 : Nat) (a : Int32) (b : Int32) (h0_world : Nat) (h0_diary : Nat) (h0_asker : Nat) (h0_done : Int32) (h0_latest : Int32) (h0_world_rock : Nat) (h0_world_crew : Nat) (h0_world_folk : Nat) (h0_world_term : Nat) (h0_world_laws : Nat) (h0_world_lawCount : Int32) (h0_world_force : Int32) (h0_world_folk_column : Nat) (h0_world_folk_ear : Nat) (h0_world_folk_listeners : Int32) (h0_world_folk_noiseColumn : Nat) (h0_world_folk_noiseLoud : Nat) (h0_world_folk_noises : Int32) (h0_world_folk_hushed : Int32) (h0_world_folk_hearsayColumn : Nat) (h0_world_folk_hearsayLoud : Nat) (h0_world_folk_hearsay : Int32) (h0_world_folk_sounds : Nat) (h0_world_folk_wet : Nat) (h0_world_folk_wells : Int32) (f_h0_world_folk_column : Nat → Int32) (h0_diary_deed : Nat) (h0_diary_whose : Nat) (h0_diary_before : Nat) (h0_diary_bucketsBefore : Nat) (h0_diary_dayBefore : Nat) (h0_diary_kept : Int32) (h0_diary_latest : Int32) (f_h0_diary_deed : Nat → Int32) (f_h0_diary_whose : Nat → Int32) (f_h0_diary_before : Nat → Int32) (f_h0_diary_bucketsBefore : Nat → Int32) (f_h0_diary_dayBefore : Nat → Int32) (sz : Nat) (Q : Int32 → ((Nat → Int32) × Int32 × Int32 × (Nat → Int32) × (Nat → Int32) × (Nat → Int32) × (Nat → Int32) × (Nat → Int32)) → Prop) (h : wp_X7_tryLie a b h0_world_folk_listeners f_h0_world_folk_column h0_diary_kept h0_diary_latest f_h0_diary_deed f_h0_diary_whose f_h0_diary_before f_h0_diary_bucketsBefore f_h0_diary_dayBefore Q) : Met l yX7_tryLie (Cond.code yX7_tryLie cX7_tryLie 4 (some .int) :: gW) ({ frames := 2, cells := 0, slots := 0, locals := 49 }) (va_Pc [Value.ref h0, Value.int a, Value.int b] (Pre G cs [(h0, Sum.inr (7, [Value.ref h0_world, Value.ref h0_diary, Value.ref h0_asker, Value.int h0_done, Value.int h0_latest])), (h0_world, Sum.inr (10, [Value.ref h0_world_rock, Value.ref h0_world_crew, Value.ref h0_world_folk, Value.ref h0_world_term, Value.ref h0_world_laws, Value.int h0_world_lawCount, Value.int h0_world_force])), (h0_world_folk, Sum.inr (4, [Value.ref h0_world_folk_column, Value.ref h0_world_folk_ear, Value.int h0_world_folk_listeners, Value.ref h0_world_folk_noiseColumn, Value.ref h0_world_folk_noiseLoud, Value.int h0_world_folk_noises, Value.int h0_world_folk_hushed, Value.ref h0_world_folk_hearsayColumn, Value.ref h0_world_folk_hearsayLoud, Value.int h0_world_folk_hearsay, Value.ref h0_world_folk_sounds, Value.ref h0_world_folk_wet, Value.int h0_world_folk_wells])), (h0_world_folk_column, Sum.inl (cs 0, 5, Sum.inl f_h0_world_folk_column)), (h0_diary, Sum.inr (2, [Value.ref h0_diary_deed, Value.ref h0_diary_whose, Value.ref h0_diary_before, Value.ref h0_diary_bucketsBefore, Value.ref h0_diary_dayBefore, Value.int h0_diary_kept, Value.int h0_diary_latest])), (h0_diary_deed, Sum.inl (cs 0, 16, Sum.inl f_h0_diary_deed)), (h0_diary_whose, Sum.inl (cs 0, 16, Sum.inl f_h0_diary_whose)), (h0_diary_before, Sum.inl (cs 0, 16, Sum.inl f_h0_diary_before)), (h0_diary_bucketsBefore, Sum.inl (cs 0, 16, Sum.inl f_h0_diary_bucketsBefore)), (h0_diary_dayBefore, Sum.inl (cs 0, 16, Sum.inl f_h0_diary_dayBefore))] sz)) (va_Qi (fun r (u : (Nat → Int32) × Int32 × Int32 × (Nat → Int32) × (Nat → Int32) × (Nat → Int32) × (Nat → Int32) × (Nat → Int32)) => Q r u) (fun (u : (Nat → Int32) × Int32 × Int32 × (Nat → Int32) × (Nat → Int32) × (Nat → Int32) × (Nat → Int32) × (Nat → Int32)) t => Aft G cs (va_A [(h0, Sum.inr (7, [Value.ref h0_world, Value.ref h0_diary, Value.ref h0_asker, Value.int h0_done, Value.int h0_latest])), (h0_world, Sum.inr (10, [Value.ref h0_world_rock, Value.ref h0_world_crew, Value.ref h0_world_folk, Value.ref h0_world_term, Value.ref h0_world_laws, Value.int h0_world_lawCount, Value.int h0_world_force])), (h0_world_folk, Sum.inr (4, [Value.ref h0_world_folk_column, Value.ref h0_world_folk_ear, Value.int h0_world_folk_listeners, Value.ref h0_world_folk_noiseColumn, Value.ref h0_world_folk_noiseLoud, Value.int h0_world_folk_noises, Value.int h0_world_folk_hushed, Value.ref h0_world_folk_hearsayColumn, Value.ref h0_world_folk_hearsayLoud, Value.int h0_world_folk_hearsay, Value.ref h0_world_folk_sounds, Value.ref h0_world_folk_wet, Value.int h0_world_folk_wells])), (h0_world_folk_column, Sum.inl (cs 0, 5, Sum.inl f_h0_world_folk_column)), (h0_diary, Sum.inr (2, [Value.ref h0_diary_deed, Value.ref h0_diary_whose, Value.ref h0_diary_before, Value.ref h0_diary_bucketsBefore, Value.ref h0_diary_dayBefore, Value.int h0_diary_kept, Value.int h0_diary_latest])), (h0_diary_deed, Sum.inl (cs 0, 16, Sum.inl f_h0_diary_deed)), (h0_diary_whose, Sum.inl (cs 0, 16, Sum.inl f_h0_diary_whose)), (h0_diary_before, Sum.inl (cs 0, 16, Sum.inl f_h0_diary_before)), (h0_diary_bucketsBefore, Sum.inl (cs 0, 16, Sum.inl f_h0_diary_bucketsBefore)), (h0_diary_dayBefore, Sum.inl (cs 0, 16, Sum.inl f_h0_diary_dayBefore))] sz) [(h0, Sum.inr (7, [Value.ref h0_world, Value.ref h0_diary, Value.ref h0_asker, Value.int h0_done, Value.int h0_latest])), (h0_world, Sum.inr (10, [Value.ref h0_world_rock, Value.ref h0_world_crew, Value.ref h0_world_folk, Value.ref h0_world_term, Value.ref h0_world_laws, Value.int h0_world_lawCount, Value.int h0_world_force])), (h0_world_folk, Sum.inr (4, [Value.ref h0_world_folk_column, Value.ref h0_world_folk_ear, Value.int h0_world_folk_listeners, Value.ref h0_world_folk_noiseColumn, Value.ref h0_world_folk_noiseLoud, Value.int h0_world_folk_noises, Value.int h0_world_folk_hushed, Value.ref h0_world_folk_hearsayColumn, Value.ref h0_world_folk_hearsayLoud, Value.int h0_world_folk_hearsay, Value.ref h0_world_folk_sounds, Value.ref h0_world_folk_wet, Value.int h0_world_folk_wells])), (h0_world_folk_column, Sum.inl (cs 0, 5, Sum.inl u.1)), (h0_diary, Sum.inr (2, [Value.ref h0_diary_deed, Value.ref h0_diary_whose, Value.ref h0_diary_before, Value.ref h0_diary_bucketsBefore, Value.ref h0_diary_dayBefore, Value.int u.2.1, Value.int u.2.2.1])), (h0_diary_deed, Sum.inl (cs 0, 16, Sum.inl u.2.2.2.1)), (h0_diary_whose, Sum.inl (cs 0, 16, Sum.inl u.2.2.2.2.1)), (h0_diary_before, Sum.inl (cs 0, 16, Sum.inl u.2.2.2.2.2.1)), (h0_diary_bucketsBefore, Sum.inl (cs 0, 16, Sum.inl u.2.2.2.2.2.2.1)), (h0_diary_dayBefore, Sum.inl (cs 0, 16, Sum.inl u.2.2.2.2.2.2.2))] t) (va_A [(h0, Sum.inr (7, [Value.ref h0_world, Value.ref h0_diary, Value.ref h0_asker, Value.int h0_done, Value.int h0_latest])), (h0_world, Sum.inr (10, [Value.ref h0_world_rock, Value.ref h0_world_crew, Value.ref h0_world_folk, Value.ref h0_world_term, Value.ref h0_world_laws, Value.int h0_world_lawCount, Value.int h0_world_force])), (h0_world_folk, Sum.inr (4, [Value.ref h0_world_folk_column, Value.ref h0_world_folk_ear, Value.int h0_world_folk_listeners, Value.ref h0_world_folk_noiseColumn, Value.ref h0_world_folk_noiseLoud, Value.int h0_world_folk_noises, Value.int h0_world_folk_hushed, Value.ref h0_world_folk_hearsayColumn, Value.ref h0_world_folk_hearsayLoud, Value.int h0_world_folk_hearsay, Value.ref h0_world_folk_sounds, Value.ref h0_world_folk_wet, Value.int h0_world_folk_wells])), (h0_world_folk_column, Sum.inl (cs 0, 5, Sum.inl f_h0_world_folk_column)), (h0_diary, Sum.inr (2, [Value.ref h0_diary_deed, Value.ref h0_diary_whose, Value.ref h0_diary_before, Value.ref h0_diary_bucketsBefore, Value.ref h0_diary_dayBefore, Value.int h0_diary_kept, Value.int h0_diary_latest])), (h0_diary_deed, Sum.inl (cs 0, 16, Sum.inl f_h0_diary_deed)), (h0_diary_whose, Sum.inl (cs 0, 16, Sum.inl f_h0_diary_whose)), (h0_diary_before, Sum.inl (cs 0, 16, Sum.inl f_h0_diary_before)), (h0_diary_bucketsBefore, Sum.inl (cs 0, 16, Sum.inl f_h0_diary_bucketsBefore)), (h0_diary_dayBefore, Sum.inl (cs 0, 16, Sum.inl f_h0_diary_dayBefore))] sz)) 0 0 (va_A [(h0, Sum.inr (7, [Value.ref h0_world, Value.ref h0_diary, Value.ref h0_asker, Value.int h0_done, Value.int h0_latest])), (h0_world, Sum.inr (10, [Value.ref h0_world_rock, Value.ref h0_world_crew, Value.ref h0_world_folk, Value.ref h0_world_term, Value.ref h0_world_laws, Value.int h0_world_lawCount, Value.int h0_world_force])), (h0_world_folk, Sum.inr (4, [Value.ref h0_world_folk_column, Value.ref h0_world_folk_ear, Value.int h0_world_folk_listeners, Value.ref h0_world_folk_noiseColumn, Value.ref h0_world_folk_noiseLoud, Value.int h0_world_folk_noises, Value.int h0_world_folk_hushed, Value.ref h0_world_folk_hearsayColumn, Value.ref h0_world_folk_hearsayLoud, Value.int h0_world_folk_hearsay, Value.ref h0_world_folk_sounds, Value.ref h0_world_folk_wet, Value.int h0_world_folk_wells])), (h0_world_folk_column, Sum.inl (cs 0, 5, Sum.inl f_h0_world_folk_column)), (h0_diary, Sum.inr (2, [Value.ref h0_diary_deed, Value.ref h0_diary_whose, Value.ref h0_diary_before, Value.ref h0_diary_bucketsBefore, Value.ref h0_diary_dayBefore, Value.int h0_diary_kept, Value.int h0_diary_latest])), (h0_diary_deed, Sum.inl (cs 0, 16, Sum.inl f_h0_diary_deed)), (h0_diary_whose, Sum.inl (cs 0, 16, Sum.inl f_h0_diary_whose)), (h0_diary_before, Sum.inl (cs 0, 16, Sum.inl f_h0_diary_before)), (h0_diary_bucketsBefore, Sum.inl (cs 0, 16, Sum.inl f_h0_diary_bucketsBefore)), (h0_diary_dayBefore, Sum.inl (cs 0, 16, Sum.inl f_h0_diary_dayBefore))] sz) := by
  unfold wp_X7_tryLie at h
  refine Met.ofW (cc := cX7_tryLie) (maxL := 4) (ret := (some .int)) (by decide) rfl ?_
  intro p e s m args below meth c s₁ B hml hv
  obtain ⟨rfl, hsz, hP, hK, hD0, hN⟩ := hv
  have hx := B.exec
  have hb := B.bytes
  have hr := B.returns
  have hts := atoms_spec (ws := Cond.code yX7_tryLie cX7_tryLie 4 (some .int) :: gW) B.pre
  have htl : ∀ w ∈ gW, w.before _ s = true := fun w h => hts w (List.mem_cons_of_mem _ h)
  have hown : s.vm.findClass RX7 = some m.cls := findClass_of_methodNamed B.named
  have hlocks := B.notSynchronized
  subst hsz
  have hD := hD0.self (sz := s.heap.size)
  generalize hAe : va_A [(h0, Sum.inr (7, [Value.ref h0_world, Value.ref h0_diary, Value.ref h0_asker, Value.int h0_done, Value.int h0_latest])), (h0_world, Sum.inr (10, [Value.ref h0_world_rock, Value.ref h0_world_crew, Value.ref h0_world_folk, Value.ref h0_world_term, Value.ref h0_world_laws, Value.int h0_world_lawCount, Value.int h0_world_force])), (h0_world_folk, Sum.inr (4, [Value.ref h0_world_folk_column, Value.ref h0_world_folk_ear, Value.int h0_world_folk_listeners, Value.ref h0_world_folk_noiseColumn, Value.ref h0_world_folk_noiseLoud, Value.int h0_world_folk_noises, Value.int h0_world_folk_hushed, Value.ref h0_world_folk_hearsayColumn, Value.ref h0_world_folk_hearsayLoud, Value.int h0_world_folk_hearsay, Value.ref h0_world_folk_sounds, Value.ref h0_world_folk_wet, Value.int h0_world_folk_wells])), (h0_world_folk_column, Sum.inl (cs 0, 5, Sum.inl f_h0_world_folk_column)), (h0_diary, Sum.inr (2, [Value.ref h0_diary_deed, Value.ref h0_diary_whose, Value.ref h0_diary_before, Value.ref h0_diary_bucketsBefore, Value.ref h0_diary_dayBefore, Value.int h0_diary_kept, Value.int h0_diary_latest])), (h0_diary_deed, Sum.inl (cs 0, 16, Sum.inl f_h0_diary_deed)), (h0_diary_whose, Sum.inl (cs 0, 16, Sum.inl f_h0_diary_whose)), (h0_diary_before, Sum.inl (cs 0, 16, Sum.inl f_h0_diary_before)), (h0_diary_bucketsBefore, Sum.inl (cs 0, 16, Sum.inl f_h0_diary_bucketsBefore)), (h0_diary_dayBefore, Sum.inl (cs 0, 16, Sum.inl f_h0_diary_dayBefore))] s.heap.size = A at hD ⊢
  have hA : ∀ q : Nat, s.heap.size ≤ q → A q := fun q h => by rw [← hAe]; exact Or.inr h
  have hS : va_S A s.heap s.heap [] := va_S.rf
  have hl := lv_entry ([Value.ref h0, Value.int a, Value.int b]) (n := 4) (Nat.le_of_ble_eq_true rfl)
  rw [lg_entry_eq]
  generalize (lg_sl ([Value.ref h0, Value.int a, Value.int b]) ++ List.replicate (4 - (lg_sl ([Value.ref h0, Value.int a, Value.int b])).length) Slot.unset).toArray = ls at hl ⊢
  have hl : lv_has ls 4 [(0, Value.ref h0), (1, Value.int a), (2, Value.int b)] := hl
  refine lv_iload_n hx hb dX7_tryLie_0 rfl (lv_at hl 2 rfl) ?_
  refine lv_bipush (v := 8) hx hb dX7_tryLie_1 (by decide) ?_
  refine vp_callSi (mkSN (rest := []) ⟨hx, hb, hml, hown, htl⟩ hN hK (g_X11_isWithin l G cs b 8 _ h) (cSN 2 htl hN nl_RX7_46 mT_X11_isWithin mN_RX11 mC_X11_isWithin ok_X11_isWithin rfl rfl ⟨(Nat.le_of_ble_eq_true rfl), (Nat.le_of_ble_eq_true rfl)⟩) rfl hl.1 rfl (Nat.le_of_ble_eq_true rfl) dX7_tryLie_3 ⟨(Nat.le_of_ble_eq_true rfl), (Nat.le_of_ble_eq_true rfl)⟩) (fun r_3 h => ?_)
  obtain ⟨h, hz_1⟩ := h
  refine lv_if_ne (tgt := 11) hx hb dX7_tryLie_6 (by decide) (fun c_6 => ?_) (fun c_6 => ?_)
  · replace h := ok_f h c_6
    refine lv_iload_n hx hb dX7_tryLie_11 rfl (lv_at hl 1 rfl) ?_
    refine lv_aload_n hx hb dX7_tryLie_12 rfl (lv_at hl 0 rfl) ?_
    refine va_get (ci := 7) (v := Value.ref h0_world) (C := RX7) (T := TX7) (N := 5) hx hb htl inX7 hown hK hP 0 rfl rfl 0 (by decide) (htl _ fl_RX7_12) (fun _ h9 => h9) rfl dX7_tryLie_13 ?_
    refine va_get (ci := 10) (v := Value.ref h0_world_folk) (C := RX10) (T := TX10) (N := 7) hx hb htl inX10 hown hK hP 1 rfl rfl 2 (by decide) (htl _ fl_RX7_115) (fun _ h9 => h9) rfl dX7_tryLie_16 ?_
    refine va_get (ci := 4) (v := Value.int h0_world_folk_listeners) (C := RX4) (T := TX4) (N := 13) hx hb htl inX4 hown hK hP 2 rfl rfl 2 (by decide) (htl _ fl_RX7_133) (fun _ h9 => h9) rfl dX7_tryLie_19 ?_
    refine vp_callSi (mkSN (rest := []) ⟨hx, hb, hml, hown, htl⟩ hN hK (g_X11_isWithin l G cs a h0_world_folk_listeners _ h) (cSN 2 htl hN nl_RX7_46 mT_X11_isWithin mN_RX11 mC_X11_isWithin ok_X11_isWithin rfl rfl ⟨(Nat.le_of_ble_eq_true rfl), (Nat.le_of_ble_eq_true rfl)⟩) rfl hl.1 rfl (Nat.le_of_ble_eq_true rfl) dX7_tryLie_22 ⟨(Nat.le_of_ble_eq_true rfl), (Nat.le_of_ble_eq_true rfl)⟩) (fun r_22 h => ?_)
    obtain ⟨h, hz_2⟩ := h
    refine lv_if_ne (tgt := 31) hx hb dX7_tryLie_25 (by decide) (fun c_25 => ?_) (fun c_25 => ?_)
    · replace h := ok_f h c_25
      refine lv_aload_n hx hb dX7_tryLie_31 rfl (lv_at hl 0 rfl) ?_
      refine va_get (ci := 7) (v := Value.ref h0_world) (C := RX7) (T := TX7) (N := 5) hx hb htl inX7 hown hK hP 0 rfl rfl 0 (by decide) (htl _ fl_RX7_12) (fun _ h9 => h9) rfl dX7_tryLie_32 ?_
      refine va_get (ci := 10) (v := Value.ref h0_world_folk) (C := RX10) (T := TX10) (N := 7) hx hb htl inX10 hown hK hP 1 rfl rfl 2 (by decide) (htl _ fl_RX7_115) (fun _ h9 => h9) rfl dX7_tryLie_35 ?_
      refine va_get (ci := 4) (v := Value.ref h0_world_folk_column) (C := RX4) (T := TX4) (N := 13) hx hb htl inX4 hown hK hP 2 rfl rfl 0 (by decide) (htl _ fl_RX7_136) (fun _ h9 => h9) rfl dX7_tryLie_38 ?_
      refine lv_iload_n hx hb dX7_tryLie_41 rfl (lv_at hl 1 rfl) ?_
      obtain ⟨hq_3, h⟩ := h
      refine va_iald hx hb hK hP 3 0 rfl rfl hq_3 dX7_tryLie_42 ?_
      refine lv_istore_n hx hb dX7_tryLie_43 rfl hl (by decide) (rfl : _ = ([(3, Value.int (f_h0_world_folk_column a.toNatClampNeg)), (0, Value.ref h0), (1, Value.int a), (2, Value.int b)] : List (Nat × Value))) (fun ls hl => ?_)
      refine lv_aload_n hx hb dX7_tryLie_44 rfl (lv_at hl 1 rfl) ?_
      refine va_get (ci := 7) (v := Value.ref h0_diary) (C := RX7) (T := TX7) (N := 5) hx hb htl inX7 hown hK hP 0 rfl rfl 1 (by decide) (htl _ fl_RX7_21) (fun _ h9 => h9) rfl dX7_tryLie_45 ?_
      refine lv_iconst (v := 3) hx hb dX7_tryLie_48 (by decide) ?_
      refine lv_iload_n hx hb dX7_tryLie_49 rfl (lv_at hl 2 rfl) ?_
      refine lv_iload_n hx hb dX7_tryLie_50 rfl (lv_at hl 0 rfl) ?_
      refine lv_iconst (v := 0) hx hb dX7_tryLie_51 (by decide) ?_
      refine lv_iconst (v := 0) hx hb dX7_tryLie_52 (by decide) ?_
      refine mv (wr := [(h0, Sum.inr (7, [Value.ref h0_world, Value.ref h0_diary, Value.ref h0_asker, Value.int h0_done, Value.int h0_latest])), (h0_world, Sum.inr (10, [Value.ref h0_world_rock, Value.ref h0_world_crew, Value.ref h0_world_folk, Value.ref h0_world_term, Value.ref h0_world_laws, Value.int h0_world_lawCount, Value.int h0_world_force])), (h0_world_folk, Sum.inr (4, [Value.ref h0_world_folk_column, Value.ref h0_world_folk_ear, Value.int h0_world_folk_listeners, Value.ref h0_world_folk_noiseColumn, Value.ref h0_world_folk_noiseLoud, Value.int h0_world_folk_noises, Value.int h0_world_folk_hushed, Value.ref h0_world_folk_hearsayColumn, Value.ref h0_world_folk_hearsayLoud, Value.int h0_world_folk_hearsay, Value.ref h0_world_folk_sounds, Value.ref h0_world_folk_wet, Value.int h0_world_folk_wells])), (h0_world_folk_column, Sum.inl (cs 0, 5, Sum.inl f_h0_world_folk_column))]) (mkV (rest := []) ⟨hx, hb, hml, hown, htl⟩ hN hK hP hD (g_X2_add l G cs h0_diary 3 a (f_h0_world_folk_column a.toNatClampNeg) 0 0 h0_diary_deed h0_diary_whose h0_diary_before h0_diary_bucketsBefore h0_diary_dayBefore h0_diary_kept h0_diary_latest (f_h0_diary_deed) (f_h0_diary_whose) (f_h0_diary_before) (f_h0_diary_bucketsBefore) (f_h0_diary_dayBefore) _ _ h) [4, 5, 6, 7, 8, 9] rfl rfl 0 2 rfl rfl (cV 5 htl lk_RX7_90 mI_X2_add mS_X2_add mN_RX2 mC_X2_add ok_X2_add rfl rfl ⟨(Nat.le_of_ble_eq_true rfl), (Nat.le_of_ble_eq_true rfl)⟩) rfl hl.1 rfl (Nat.le_of_ble_eq_true rfl) dX7_tryLie_53 ⟨(Nat.le_of_ble_eq_true rfl), (Nat.le_of_ble_eq_true rfl)⟩) hP hD hS hA [4, 5, 6, 7, 8, 9] [0, 1, 2, 3] rfl rfl rfl (by decide) (fun u_53 H locs h hP hD hS => ?_)
      obtain ⟨u_53_0, u_53_1, u_53_2, u_53_3, u_53_4, u_53_5, u_53_6⟩ := u_53
      replace h := un7_e h
      obtain ⟨hP, hD⟩ := PD_as hP [(h0, Sum.inr (7, [Value.ref h0_world, Value.ref h0_diary, Value.ref h0_asker, Value.int h0_done, Value.int h0_latest])), (h0_world, Sum.inr (10, [Value.ref h0_world_rock, Value.ref h0_world_crew, Value.ref h0_world_folk, Value.ref h0_world_term, Value.ref h0_world_laws, Value.int h0_world_lawCount, Value.int h0_world_force])), (h0_world_folk, Sum.inr (4, [Value.ref h0_world_folk_column, Value.ref h0_world_folk_ear, Value.int h0_world_folk_listeners, Value.ref h0_world_folk_noiseColumn, Value.ref h0_world_folk_noiseLoud, Value.int h0_world_folk_noises, Value.int h0_world_folk_hushed, Value.ref h0_world_folk_hearsayColumn, Value.ref h0_world_folk_hearsayLoud, Value.int h0_world_folk_hearsay, Value.ref h0_world_folk_sounds, Value.ref h0_world_folk_wet, Value.int h0_world_folk_wells])), (h0_world_folk_column, Sum.inl (cs 0, 5, Sum.inl f_h0_world_folk_column)), (h0_diary, Sum.inr (2, [Value.ref h0_diary_deed, Value.ref h0_diary_whose, Value.ref h0_diary_before, Value.ref h0_diary_bucketsBefore, Value.ref h0_diary_dayBefore, Value.int u_53_0, Value.int u_53_1])), (h0_diary_deed, Sum.inl (cs 0, 16, Sum.inl u_53_2)), (h0_diary_whose, Sum.inl (cs 0, 16, Sum.inl u_53_3)), (h0_diary_before, Sum.inl (cs 0, 16, Sum.inl u_53_4)), (h0_diary_bucketsBefore, Sum.inl (cs 0, 16, Sum.inl u_53_5)), (h0_diary_dayBefore, Sum.inl (cs 0, 16, Sum.inl u_53_6))] rfl hD
      refine lv_aload_n hx hb dX7_tryLie_56 rfl (lv_at hl 1 rfl) ?_
      refine va_get (ci := 7) (v := Value.ref h0_world) (C := RX7) (T := TX7) (N := 5) hx hb htl inX7 hown hK hP 0 rfl rfl 0 (by decide) (htl _ fl_RX7_12) (fun _ h9 => h9) rfl dX7_tryLie_57 ?_
      refine va_get (ci := 10) (v := Value.ref h0_world_folk) (C := RX10) (T := TX10) (N := 7) hx hb htl inX10 hown hK hP 1 rfl rfl 2 (by decide) (htl _ fl_RX7_115) (fun _ h9 => h9) rfl dX7_tryLie_60 ?_
      refine va_get (ci := 4) (v := Value.ref h0_world_folk_column) (C := RX4) (T := TX4) (N := 13) hx hb htl inX4 hown hK hP 2 rfl rfl 0 (by decide) (htl _ fl_RX7_136) (fun _ h9 => h9) rfl dX7_tryLie_63 ?_
      refine lv_iload_n hx hb dX7_tryLie_66 rfl (lv_at hl 2 rfl) ?_
      refine lv_iload_n hx hb dX7_tryLie_67 rfl (lv_at hl 3 rfl) ?_
      obtain ⟨hq_4, h⟩ := h
      refine va_iast hx hb hK hP hD hS 3 0 rfl rfl hq_4 dX7_tryLie_68 (fun H locs hP hD hS => ?_)
      obtain ⟨hP, hD⟩ := PD_as hP [(h0, Sum.inr (7, [Value.ref h0_world, Value.ref h0_diary, Value.ref h0_asker, Value.int h0_done, Value.int h0_latest])), (h0_world, Sum.inr (10, [Value.ref h0_world_rock, Value.ref h0_world_crew, Value.ref h0_world_folk, Value.ref h0_world_term, Value.ref h0_world_laws, Value.int h0_world_lawCount, Value.int h0_world_force])), (h0_world_folk, Sum.inr (4, [Value.ref h0_world_folk_column, Value.ref h0_world_folk_ear, Value.int h0_world_folk_listeners, Value.ref h0_world_folk_noiseColumn, Value.ref h0_world_folk_noiseLoud, Value.int h0_world_folk_noises, Value.int h0_world_folk_hushed, Value.ref h0_world_folk_hearsayColumn, Value.ref h0_world_folk_hearsayLoud, Value.int h0_world_folk_hearsay, Value.ref h0_world_folk_sounds, Value.ref h0_world_folk_wet, Value.int h0_world_folk_wells])), (h0_world_folk_column, Sum.inl (cs 0, 5, Sum.inl (upd f_h0_world_folk_column a.toNatClampNeg b))), (h0_diary, Sum.inr (2, [Value.ref h0_diary_deed, Value.ref h0_diary_whose, Value.ref h0_diary_before, Value.ref h0_diary_bucketsBefore, Value.ref h0_diary_dayBefore, Value.int u_53_0, Value.int u_53_1])), (h0_diary_deed, Sum.inl (cs 0, 16, Sum.inl u_53_2)), (h0_diary_whose, Sum.inl (cs 0, 16, Sum.inl u_53_3)), (h0_diary_before, Sum.inl (cs 0, 16, Sum.inl u_53_4)), (h0_diary_bucketsBefore, Sum.inl (cs 0, 16, Sum.inl u_53_5)), (h0_diary_dayBefore, Sum.inl (cs 0, 16, Sum.inl u_53_6))] rfl hD
      refine lv_iload_n hx hb dX7_tryLie_69 rfl (lv_at hl 0 rfl) ?_
      obtain ⟨hP9, hD9⟩ := PD_pk hP hD [(h0, Sum.inr (7, [Value.ref h0_world, Value.ref h0_diary, Value.ref h0_asker, Value.int h0_done, Value.int h0_latest])), (h0_world, Sum.inr (10, [Value.ref h0_world_rock, Value.ref h0_world_crew, Value.ref h0_world_folk, Value.ref h0_world_term, Value.ref h0_world_laws, Value.int h0_world_lawCount, Value.int h0_world_force])), (h0_world_folk, Sum.inr (4, [Value.ref h0_world_folk_column, Value.ref h0_world_folk_ear, Value.int h0_world_folk_listeners, Value.ref h0_world_folk_noiseColumn, Value.ref h0_world_folk_noiseLoud, Value.int h0_world_folk_noises, Value.int h0_world_folk_hushed, Value.ref h0_world_folk_hearsayColumn, Value.ref h0_world_folk_hearsayLoud, Value.int h0_world_folk_hearsay, Value.ref h0_world_folk_sounds, Value.ref h0_world_folk_wet, Value.int h0_world_folk_wells])), (h0_world_folk_column, Sum.inl (cs 0, 5, Sum.inl (upd f_h0_world_folk_column a.toNatClampNeg b))), (h0_diary, Sum.inr (2, [Value.ref h0_diary_deed, Value.ref h0_diary_whose, Value.ref h0_diary_before, Value.ref h0_diary_bucketsBefore, Value.ref h0_diary_dayBefore, Value.int u_53_0, Value.int u_53_1])), (h0_diary_deed, Sum.inl (cs 0, 16, Sum.inl u_53_2)), (h0_diary_whose, Sum.inl (cs 0, 16, Sum.inl u_53_3)), (h0_diary_before, Sum.inl (cs 0, 16, Sum.inl u_53_4)), (h0_diary_bucketsBefore, Sum.inl (cs 0, 16, Sum.inl u_53_5)), (h0_diary_dayBefore, Sum.inl (cs 0, 16, Sum.inl u_53_6))] [0, 1, 2, 3, 4, 5, 6, 7, 8, 9] rfl rfl
      exact W.iret (v := (f_h0_world_folk_column a.toNatClampNeg)) hx hb hr (fun t ht hW => ⟨⟨(f_h0_world_folk_column a.toNatClampNeg), ((upd f_h0_world_folk_column a.toNatClampNeg b), u_53_0, u_53_1, u_53_2, u_53_3, u_53_4, u_53_5, u_53_6), rfl, h, ⟨by rw [ht]; exact hP9, va_K.moved hW.alike hK, hD9⟩⟩, hS.F ht⟩) hS.2.2 dX7_tryLie_70
    · replace h := ok_t h c_25
      refine lv_bipush (v := (-2)) hx hb dX7_tryLie_28 (by decide) ?_
      obtain ⟨hP9, hD9⟩ := PD_pk hP hD [(h0, Sum.inr (7, [Value.ref h0_world, Value.ref h0_diary, Value.ref h0_asker, Value.int h0_done, Value.int h0_latest])), (h0_world, Sum.inr (10, [Value.ref h0_world_rock, Value.ref h0_world_crew, Value.ref h0_world_folk, Value.ref h0_world_term, Value.ref h0_world_laws, Value.int h0_world_lawCount, Value.int h0_world_force])), (h0_world_folk, Sum.inr (4, [Value.ref h0_world_folk_column, Value.ref h0_world_folk_ear, Value.int h0_world_folk_listeners, Value.ref h0_world_folk_noiseColumn, Value.ref h0_world_folk_noiseLoud, Value.int h0_world_folk_noises, Value.int h0_world_folk_hushed, Value.ref h0_world_folk_hearsayColumn, Value.ref h0_world_folk_hearsayLoud, Value.int h0_world_folk_hearsay, Value.ref h0_world_folk_sounds, Value.ref h0_world_folk_wet, Value.int h0_world_folk_wells])), (h0_world_folk_column, Sum.inl (cs 0, 5, Sum.inl f_h0_world_folk_column)), (h0_diary, Sum.inr (2, [Value.ref h0_diary_deed, Value.ref h0_diary_whose, Value.ref h0_diary_before, Value.ref h0_diary_bucketsBefore, Value.ref h0_diary_dayBefore, Value.int h0_diary_kept, Value.int h0_diary_latest])), (h0_diary_deed, Sum.inl (cs 0, 16, Sum.inl f_h0_diary_deed)), (h0_diary_whose, Sum.inl (cs 0, 16, Sum.inl f_h0_diary_whose)), (h0_diary_before, Sum.inl (cs 0, 16, Sum.inl f_h0_diary_before)), (h0_diary_bucketsBefore, Sum.inl (cs 0, 16, Sum.inl f_h0_diary_bucketsBefore)), (h0_diary_dayBefore, Sum.inl (cs 0, 16, Sum.inl f_h0_diary_dayBefore))] [0, 1, 2, 3, 4, 5, 6, 7, 8, 9] rfl rfl
      exact W.iret (v := (-2)) hx hb hr (fun t ht hW => ⟨⟨(-2), (f_h0_world_folk_column, h0_diary_kept, h0_diary_latest, f_h0_diary_deed, f_h0_diary_whose, f_h0_diary_before, f_h0_diary_bucketsBefore, f_h0_diary_dayBefore), rfl, h, ⟨by rw [ht]; exact hP9, va_K.moved hW.alike hK, hD9⟩⟩, hS.F ht⟩) hS.2.2 dX7_tryLie_30
  · replace h := ok_t h c_6
    refine lv_iconst (v := (-1)) hx hb dX7_tryLie_9 (by decide) ?_
    obtain ⟨hP9, hD9⟩ := PD_pk hP hD [(h0, Sum.inr (7, [Value.ref h0_world, Value.ref h0_diary, Value.ref h0_asker, Value.int h0_done, Value.int h0_latest])), (h0_world, Sum.inr (10, [Value.ref h0_world_rock, Value.ref h0_world_crew, Value.ref h0_world_folk, Value.ref h0_world_term, Value.ref h0_world_laws, Value.int h0_world_lawCount, Value.int h0_world_force])), (h0_world_folk, Sum.inr (4, [Value.ref h0_world_folk_column, Value.ref h0_world_folk_ear, Value.int h0_world_folk_listeners, Value.ref h0_world_folk_noiseColumn, Value.ref h0_world_folk_noiseLoud, Value.int h0_world_folk_noises, Value.int h0_world_folk_hushed, Value.ref h0_world_folk_hearsayColumn, Value.ref h0_world_folk_hearsayLoud, Value.int h0_world_folk_hearsay, Value.ref h0_world_folk_sounds, Value.ref h0_world_folk_wet, Value.int h0_world_folk_wells])), (h0_world_folk_column, Sum.inl (cs 0, 5, Sum.inl f_h0_world_folk_column)), (h0_diary, Sum.inr (2, [Value.ref h0_diary_deed, Value.ref h0_diary_whose, Value.ref h0_diary_before, Value.ref h0_diary_bucketsBefore, Value.ref h0_diary_dayBefore, Value.int h0_diary_kept, Value.int h0_diary_latest])), (h0_diary_deed, Sum.inl (cs 0, 16, Sum.inl f_h0_diary_deed)), (h0_diary_whose, Sum.inl (cs 0, 16, Sum.inl f_h0_diary_whose)), (h0_diary_before, Sum.inl (cs 0, 16, Sum.inl f_h0_diary_before)), (h0_diary_bucketsBefore, Sum.inl (cs 0, 16, Sum.inl f_h0_diary_bucketsBefore)), (h0_diary_dayBefore, Sum.inl (cs 0, 16, Sum.inl f_h0_diary_dayBefore))] [0, 1, 2, 3, 4, 5, 6, 7, 8, 9] rfl rfl
    exact W.iret (v := (-1)) hx hb hr (fun t ht hW => ⟨⟨(-1), (f_h0_world_folk_column, h0_diary_kept, h0_diary_latest, f_h0_diary_deed, f_h0_diary_whose, f_h0_diary_before, f_h0_diary_bucketsBefore, f_h0_diary_dayBefore), rfl, h, ⟨by rw [ht]; exact hP9, va_K.moved hW.alike hK, hD9⟩⟩, hS.F ht⟩) hS.2.2 dX7_tryLie_10
set_option maxHeartbeats 1000000 in
set_option maxRecDepth 100000 in
theorem g_X7_takeBack (l : Launch) (G : va_G) (cs : Nat → ClassId) (h0 : Nat) (h0_world : Nat) (h0_diary : Nat) (h0_asker : Nat) (h0_done : Int32) (h0_latest : Int32) (h0_diary_deed : Nat) (h0_diary_whose : Nat) (h0_diary_before : Nat) (h0_diary_bucketsBefore : Nat) (h0_diary_dayBefore : Nat) (h0_diary_kept : Int32) (h0_diary_latest : Int32) (f_h0_diary_whose : Nat → Int32) (f_h0_diary_deed : Nat → Int32) (h0_world_rock : Nat) (h0_world_crew : Nat) (h0_world_folk : Nat) (h0_world_term : Nat) (h0_world_laws : Nat) (h0_world_lawCount : Int32) (h0_world_force : Int32) (h0_world_crew_cell : Nat) (h0_world_crew_buckets : Nat) (h0_world_crew_count : Int32) (f_h0_world_crew_cell : Nat → Int32) (h0_world_rock_kind : Nat) (h0_world_rock_hard : Nat) (h0_world_rock_water : Nat) (h0_world_rock_dug : Int64) (f_h0_diary_before : Nat → Int32) (f_h0_diary_dayBefore : Nat → Int32) (f_h0_world_term : Nat → Int32) (f_h0_world_rock_water : Nat → Int32) (f_h0_diary_bucketsBefore : Nat → Int32) (f_h0_world_crew_buckets : Nat → Int32) (h0_world_folk_column : Nat) (h0_world_folk_ear : Nat) (h0_world_folk_listeners : Int32) (h0_world_folk_noiseColumn : Nat) (h0_world_folk_noiseLoud : Nat) (h0_world_folk_noises : Int32) (h0_world_folk_hushed : Int32) (h0_world_folk_hearsayColumn : Nat) (h0_world_folk_hearsayLoud : Nat) (h0_world_folk_hearsay : Int32) (h0_world_folk_sounds : Nat) (h0_world_folk_wet : Nat) (h0_world_folk_wells : Int32) (f_h0_world_folk_column : Nat → Int32) (sz : Nat) (Q : Int32 → (Int32 × Int32 × (Nat → Int32) × Int64 × (Nat → Int32) × (Nat → Int32) × (Nat → Int32) × Int32 × (Nat → Int32)) → Prop) (h : wp_X7_takeBack h0_diary_kept h0_diary_latest f_h0_diary_whose f_h0_diary_deed f_h0_world_crew_cell h0_world_rock_dug f_h0_diary_before f_h0_diary_dayBefore f_h0_world_term f_h0_world_rock_water f_h0_diary_bucketsBefore f_h0_world_crew_buckets h0_world_folk_hushed f_h0_world_folk_column Q) : Met l yX7_takeBack (Cond.code yX7_takeBack cX7_takeBack 4 (some .int) :: gW) ({ frames := 2, cells := 0, slots := 0, locals := 44 }) (va_Pc [Value.ref h0] (Pre G cs [(h0, Sum.inr (7, [Value.ref h0_world, Value.ref h0_diary, Value.ref h0_asker, Value.int h0_done, Value.int h0_latest])), (h0_diary, Sum.inr (2, [Value.ref h0_diary_deed, Value.ref h0_diary_whose, Value.ref h0_diary_before, Value.ref h0_diary_bucketsBefore, Value.ref h0_diary_dayBefore, Value.int h0_diary_kept, Value.int h0_diary_latest])), (h0_diary_whose, Sum.inl (cs 0, 16, Sum.inl f_h0_diary_whose)), (h0_diary_deed, Sum.inl (cs 0, 16, Sum.inl f_h0_diary_deed)), (h0_world, Sum.inr (10, [Value.ref h0_world_rock, Value.ref h0_world_crew, Value.ref h0_world_folk, Value.ref h0_world_term, Value.ref h0_world_laws, Value.int h0_world_lawCount, Value.int h0_world_force])), (h0_world_crew, Sum.inr (1, [Value.ref h0_world_crew_cell, Value.ref h0_world_crew_buckets, Value.int h0_world_crew_count])), (h0_world_crew_cell, Sum.inl (cs 0, 6, Sum.inl f_h0_world_crew_cell)), (h0_world_rock, Sum.inr (6, [Value.ref h0_world_rock_kind, Value.ref h0_world_rock_hard, Value.ref h0_world_rock_water, Value.long h0_world_rock_dug])), (h0_diary_before, Sum.inl (cs 0, 16, Sum.inl f_h0_diary_before)), (h0_diary_dayBefore, Sum.inl (cs 0, 16, Sum.inl f_h0_diary_dayBefore)), (h0_world_term, Sum.inl (cs 0, 3, Sum.inl f_h0_world_term)), (h0_world_rock_water, Sum.inl (cs 0, 40, Sum.inl f_h0_world_rock_water)), (h0_diary_bucketsBefore, Sum.inl (cs 0, 16, Sum.inl f_h0_diary_bucketsBefore)), (h0_world_crew_buckets, Sum.inl (cs 0, 6, Sum.inl f_h0_world_crew_buckets)), (h0_world_folk, Sum.inr (4, [Value.ref h0_world_folk_column, Value.ref h0_world_folk_ear, Value.int h0_world_folk_listeners, Value.ref h0_world_folk_noiseColumn, Value.ref h0_world_folk_noiseLoud, Value.int h0_world_folk_noises, Value.int h0_world_folk_hushed, Value.ref h0_world_folk_hearsayColumn, Value.ref h0_world_folk_hearsayLoud, Value.int h0_world_folk_hearsay, Value.ref h0_world_folk_sounds, Value.ref h0_world_folk_wet, Value.int h0_world_folk_wells])), (h0_world_folk_column, Sum.inl (cs 0, 5, Sum.inl f_h0_world_folk_column))] sz)) (va_Qi (fun r (u : Int32 × Int32 × (Nat → Int32) × Int64 × (Nat → Int32) × (Nat → Int32) × (Nat → Int32) × Int32 × (Nat → Int32)) => Q r u) (fun (u : Int32 × Int32 × (Nat → Int32) × Int64 × (Nat → Int32) × (Nat → Int32) × (Nat → Int32) × Int32 × (Nat → Int32)) t => Aft G cs (va_A [(h0, Sum.inr (7, [Value.ref h0_world, Value.ref h0_diary, Value.ref h0_asker, Value.int h0_done, Value.int h0_latest])), (h0_diary, Sum.inr (2, [Value.ref h0_diary_deed, Value.ref h0_diary_whose, Value.ref h0_diary_before, Value.ref h0_diary_bucketsBefore, Value.ref h0_diary_dayBefore, Value.int h0_diary_kept, Value.int h0_diary_latest])), (h0_diary_whose, Sum.inl (cs 0, 16, Sum.inl f_h0_diary_whose)), (h0_diary_deed, Sum.inl (cs 0, 16, Sum.inl f_h0_diary_deed)), (h0_world, Sum.inr (10, [Value.ref h0_world_rock, Value.ref h0_world_crew, Value.ref h0_world_folk, Value.ref h0_world_term, Value.ref h0_world_laws, Value.int h0_world_lawCount, Value.int h0_world_force])), (h0_world_crew, Sum.inr (1, [Value.ref h0_world_crew_cell, Value.ref h0_world_crew_buckets, Value.int h0_world_crew_count])), (h0_world_crew_cell, Sum.inl (cs 0, 6, Sum.inl f_h0_world_crew_cell)), (h0_world_rock, Sum.inr (6, [Value.ref h0_world_rock_kind, Value.ref h0_world_rock_hard, Value.ref h0_world_rock_water, Value.long h0_world_rock_dug])), (h0_diary_before, Sum.inl (cs 0, 16, Sum.inl f_h0_diary_before)), (h0_diary_dayBefore, Sum.inl (cs 0, 16, Sum.inl f_h0_diary_dayBefore)), (h0_world_term, Sum.inl (cs 0, 3, Sum.inl f_h0_world_term)), (h0_world_rock_water, Sum.inl (cs 0, 40, Sum.inl f_h0_world_rock_water)), (h0_diary_bucketsBefore, Sum.inl (cs 0, 16, Sum.inl f_h0_diary_bucketsBefore)), (h0_world_crew_buckets, Sum.inl (cs 0, 6, Sum.inl f_h0_world_crew_buckets)), (h0_world_folk, Sum.inr (4, [Value.ref h0_world_folk_column, Value.ref h0_world_folk_ear, Value.int h0_world_folk_listeners, Value.ref h0_world_folk_noiseColumn, Value.ref h0_world_folk_noiseLoud, Value.int h0_world_folk_noises, Value.int h0_world_folk_hushed, Value.ref h0_world_folk_hearsayColumn, Value.ref h0_world_folk_hearsayLoud, Value.int h0_world_folk_hearsay, Value.ref h0_world_folk_sounds, Value.ref h0_world_folk_wet, Value.int h0_world_folk_wells])), (h0_world_folk_column, Sum.inl (cs 0, 5, Sum.inl f_h0_world_folk_column))] sz) [(h0, Sum.inr (7, [Value.ref h0_world, Value.ref h0_diary, Value.ref h0_asker, Value.int h0_done, Value.int h0_latest])), (h0_diary, Sum.inr (2, [Value.ref h0_diary_deed, Value.ref h0_diary_whose, Value.ref h0_diary_before, Value.ref h0_diary_bucketsBefore, Value.ref h0_diary_dayBefore, Value.int u.1, Value.int u.2.1])), (h0_diary_whose, Sum.inl (cs 0, 16, Sum.inl f_h0_diary_whose)), (h0_diary_deed, Sum.inl (cs 0, 16, Sum.inl f_h0_diary_deed)), (h0_world, Sum.inr (10, [Value.ref h0_world_rock, Value.ref h0_world_crew, Value.ref h0_world_folk, Value.ref h0_world_term, Value.ref h0_world_laws, Value.int h0_world_lawCount, Value.int h0_world_force])), (h0_world_crew, Sum.inr (1, [Value.ref h0_world_crew_cell, Value.ref h0_world_crew_buckets, Value.int h0_world_crew_count])), (h0_world_crew_cell, Sum.inl (cs 0, 6, Sum.inl u.2.2.1)), (h0_world_rock, Sum.inr (6, [Value.ref h0_world_rock_kind, Value.ref h0_world_rock_hard, Value.ref h0_world_rock_water, Value.long u.2.2.2.1])), (h0_diary_before, Sum.inl (cs 0, 16, Sum.inl f_h0_diary_before)), (h0_diary_dayBefore, Sum.inl (cs 0, 16, Sum.inl f_h0_diary_dayBefore)), (h0_world_term, Sum.inl (cs 0, 3, Sum.inl u.2.2.2.2.1)), (h0_world_rock_water, Sum.inl (cs 0, 40, Sum.inl u.2.2.2.2.2.1)), (h0_diary_bucketsBefore, Sum.inl (cs 0, 16, Sum.inl f_h0_diary_bucketsBefore)), (h0_world_crew_buckets, Sum.inl (cs 0, 6, Sum.inl u.2.2.2.2.2.2.1)), (h0_world_folk, Sum.inr (4, [Value.ref h0_world_folk_column, Value.ref h0_world_folk_ear, Value.int h0_world_folk_listeners, Value.ref h0_world_folk_noiseColumn, Value.ref h0_world_folk_noiseLoud, Value.int h0_world_folk_noises, Value.int u.2.2.2.2.2.2.2.1, Value.ref h0_world_folk_hearsayColumn, Value.ref h0_world_folk_hearsayLoud, Value.int h0_world_folk_hearsay, Value.ref h0_world_folk_sounds, Value.ref h0_world_folk_wet, Value.int h0_world_folk_wells])), (h0_world_folk_column, Sum.inl (cs 0, 5, Sum.inl u.2.2.2.2.2.2.2.2))] t) (va_A [(h0, Sum.inr (7, [Value.ref h0_world, Value.ref h0_diary, Value.ref h0_asker, Value.int h0_done, Value.int h0_latest])), (h0_diary, Sum.inr (2, [Value.ref h0_diary_deed, Value.ref h0_diary_whose, Value.ref h0_diary_before, Value.ref h0_diary_bucketsBefore, Value.ref h0_diary_dayBefore, Value.int h0_diary_kept, Value.int h0_diary_latest])), (h0_diary_whose, Sum.inl (cs 0, 16, Sum.inl f_h0_diary_whose)), (h0_diary_deed, Sum.inl (cs 0, 16, Sum.inl f_h0_diary_deed)), (h0_world, Sum.inr (10, [Value.ref h0_world_rock, Value.ref h0_world_crew, Value.ref h0_world_folk, Value.ref h0_world_term, Value.ref h0_world_laws, Value.int h0_world_lawCount, Value.int h0_world_force])), (h0_world_crew, Sum.inr (1, [Value.ref h0_world_crew_cell, Value.ref h0_world_crew_buckets, Value.int h0_world_crew_count])), (h0_world_crew_cell, Sum.inl (cs 0, 6, Sum.inl f_h0_world_crew_cell)), (h0_world_rock, Sum.inr (6, [Value.ref h0_world_rock_kind, Value.ref h0_world_rock_hard, Value.ref h0_world_rock_water, Value.long h0_world_rock_dug])), (h0_diary_before, Sum.inl (cs 0, 16, Sum.inl f_h0_diary_before)), (h0_diary_dayBefore, Sum.inl (cs 0, 16, Sum.inl f_h0_diary_dayBefore)), (h0_world_term, Sum.inl (cs 0, 3, Sum.inl f_h0_world_term)), (h0_world_rock_water, Sum.inl (cs 0, 40, Sum.inl f_h0_world_rock_water)), (h0_diary_bucketsBefore, Sum.inl (cs 0, 16, Sum.inl f_h0_diary_bucketsBefore)), (h0_world_crew_buckets, Sum.inl (cs 0, 6, Sum.inl f_h0_world_crew_buckets)), (h0_world_folk, Sum.inr (4, [Value.ref h0_world_folk_column, Value.ref h0_world_folk_ear, Value.int h0_world_folk_listeners, Value.ref h0_world_folk_noiseColumn, Value.ref h0_world_folk_noiseLoud, Value.int h0_world_folk_noises, Value.int h0_world_folk_hushed, Value.ref h0_world_folk_hearsayColumn, Value.ref h0_world_folk_hearsayLoud, Value.int h0_world_folk_hearsay, Value.ref h0_world_folk_sounds, Value.ref h0_world_folk_wet, Value.int h0_world_folk_wells])), (h0_world_folk_column, Sum.inl (cs 0, 5, Sum.inl f_h0_world_folk_column))] sz)) 0 0 (va_A [(h0, Sum.inr (7, [Value.ref h0_world, Value.ref h0_diary, Value.ref h0_asker, Value.int h0_done, Value.int h0_latest])), (h0_diary, Sum.inr (2, [Value.ref h0_diary_deed, Value.ref h0_diary_whose, Value.ref h0_diary_before, Value.ref h0_diary_bucketsBefore, Value.ref h0_diary_dayBefore, Value.int h0_diary_kept, Value.int h0_diary_latest])), (h0_diary_whose, Sum.inl (cs 0, 16, Sum.inl f_h0_diary_whose)), (h0_diary_deed, Sum.inl (cs 0, 16, Sum.inl f_h0_diary_deed)), (h0_world, Sum.inr (10, [Value.ref h0_world_rock, Value.ref h0_world_crew, Value.ref h0_world_folk, Value.ref h0_world_term, Value.ref h0_world_laws, Value.int h0_world_lawCount, Value.int h0_world_force])), (h0_world_crew, Sum.inr (1, [Value.ref h0_world_crew_cell, Value.ref h0_world_crew_buckets, Value.int h0_world_crew_count])), (h0_world_crew_cell, Sum.inl (cs 0, 6, Sum.inl f_h0_world_crew_cell)), (h0_world_rock, Sum.inr (6, [Value.ref h0_world_rock_kind, Value.ref h0_world_rock_hard, Value.ref h0_world_rock_water, Value.long h0_world_rock_dug])), (h0_diary_before, Sum.inl (cs 0, 16, Sum.inl f_h0_diary_before)), (h0_diary_dayBefore, Sum.inl (cs 0, 16, Sum.inl f_h0_diary_dayBefore)), (h0_world_term, Sum.inl (cs 0, 3, Sum.inl f_h0_world_term)), (h0_world_rock_water, Sum.inl (cs 0, 40, Sum.inl f_h0_world_rock_water)), (h0_diary_bucketsBefore, Sum.inl (cs 0, 16, Sum.inl f_h0_diary_bucketsBefore)), (h0_world_crew_buckets, Sum.inl (cs 0, 6, Sum.inl f_h0_world_crew_buckets)), (h0_world_folk, Sum.inr (4, [Value.ref h0_world_folk_column, Value.ref h0_world_folk_ear, Value.int h0_world_folk_listeners, Value.ref h0_world_folk_noiseColumn, Value.ref h0_world_folk_noiseLoud, Value.int h0_world_folk_noises, Value.int h0_world_folk_hushed, Value.ref h0_world_folk_hearsayColumn, Value.ref h0_world_folk_hearsayLoud, Value.int h0_world_folk_hearsay, Value.ref h0_world_folk_sounds, Value.ref h0_world_folk_wet, Value.int h0_world_folk_wells])), (h0_world_folk_column, Sum.inl (cs 0, 5, Sum.inl f_h0_world_folk_column))] sz) := by
  unfold wp_X7_takeBack at h
  refine Met.ofW (cc := cX7_takeBack) (maxL := 4) (ret := (some .int)) (by decide) rfl ?_
  intro p e s m args below meth c s₁ B hml hv
  obtain ⟨rfl, hsz, hP, hK, hD0, hN⟩ := hv
  have hx := B.exec
  have hb := B.bytes
  have hr := B.returns
  have hts := atoms_spec (ws := Cond.code yX7_takeBack cX7_takeBack 4 (some .int) :: gW) B.pre
  have htl : ∀ w ∈ gW, w.before _ s = true := fun w h => hts w (List.mem_cons_of_mem _ h)
  have hown : s.vm.findClass RX7 = some m.cls := findClass_of_methodNamed B.named
  have hlocks := B.notSynchronized
  subst hsz
  have hD := hD0.self (sz := s.heap.size)
  generalize hAe : va_A [(h0, Sum.inr (7, [Value.ref h0_world, Value.ref h0_diary, Value.ref h0_asker, Value.int h0_done, Value.int h0_latest])), (h0_diary, Sum.inr (2, [Value.ref h0_diary_deed, Value.ref h0_diary_whose, Value.ref h0_diary_before, Value.ref h0_diary_bucketsBefore, Value.ref h0_diary_dayBefore, Value.int h0_diary_kept, Value.int h0_diary_latest])), (h0_diary_whose, Sum.inl (cs 0, 16, Sum.inl f_h0_diary_whose)), (h0_diary_deed, Sum.inl (cs 0, 16, Sum.inl f_h0_diary_deed)), (h0_world, Sum.inr (10, [Value.ref h0_world_rock, Value.ref h0_world_crew, Value.ref h0_world_folk, Value.ref h0_world_term, Value.ref h0_world_laws, Value.int h0_world_lawCount, Value.int h0_world_force])), (h0_world_crew, Sum.inr (1, [Value.ref h0_world_crew_cell, Value.ref h0_world_crew_buckets, Value.int h0_world_crew_count])), (h0_world_crew_cell, Sum.inl (cs 0, 6, Sum.inl f_h0_world_crew_cell)), (h0_world_rock, Sum.inr (6, [Value.ref h0_world_rock_kind, Value.ref h0_world_rock_hard, Value.ref h0_world_rock_water, Value.long h0_world_rock_dug])), (h0_diary_before, Sum.inl (cs 0, 16, Sum.inl f_h0_diary_before)), (h0_diary_dayBefore, Sum.inl (cs 0, 16, Sum.inl f_h0_diary_dayBefore)), (h0_world_term, Sum.inl (cs 0, 3, Sum.inl f_h0_world_term)), (h0_world_rock_water, Sum.inl (cs 0, 40, Sum.inl f_h0_world_rock_water)), (h0_diary_bucketsBefore, Sum.inl (cs 0, 16, Sum.inl f_h0_diary_bucketsBefore)), (h0_world_crew_buckets, Sum.inl (cs 0, 6, Sum.inl f_h0_world_crew_buckets)), (h0_world_folk, Sum.inr (4, [Value.ref h0_world_folk_column, Value.ref h0_world_folk_ear, Value.int h0_world_folk_listeners, Value.ref h0_world_folk_noiseColumn, Value.ref h0_world_folk_noiseLoud, Value.int h0_world_folk_noises, Value.int h0_world_folk_hushed, Value.ref h0_world_folk_hearsayColumn, Value.ref h0_world_folk_hearsayLoud, Value.int h0_world_folk_hearsay, Value.ref h0_world_folk_sounds, Value.ref h0_world_folk_wet, Value.int h0_world_folk_wells])), (h0_world_folk_column, Sum.inl (cs 0, 5, Sum.inl f_h0_world_folk_column))] s.heap.size = A at hD ⊢
  have hA : ∀ q : Nat, s.heap.size ≤ q → A q := fun q h => by rw [← hAe]; exact Or.inr h
  have hS : va_S A s.heap s.heap [] := va_S.rf
  have hl := lv_entry ([Value.ref h0]) (n := 4) (Nat.le_of_ble_eq_true rfl)
  rw [lg_entry_eq]
  generalize (lg_sl ([Value.ref h0]) ++ List.replicate (4 - (lg_sl ([Value.ref h0])).length) Slot.unset).toArray = ls at hl ⊢
  have hl : lv_has ls 4 [(0, Value.ref h0)] := hl
  refine lv_aload_n hx hb dX7_takeBack_0 rfl (lv_at hl 0 rfl) ?_
  refine va_get (ci := 7) (v := Value.ref h0_diary) (C := RX7) (T := TX7) (N := 5) hx hb htl inX7 hown hK hP 0 rfl rfl 1 (by decide) (htl _ fl_RX7_21) (fun _ h9 => h9) rfl dX7_takeBack_1 ?_
  refine va_get (ci := 2) (v := Value.int h0_diary_kept) (C := RX2) (T := TX2) (N := 7) hx hb htl inX2 hown hK hP 1 rfl rfl 5 (by decide) (htl _ fl_RX7_139) (fun _ h9 => h9) rfl dX7_takeBack_4 ?_
  refine lv_if_ne (tgt := 13) hx hb dX7_takeBack_7 (by decide) (fun c_7 => ?_) (fun c_7 => ?_)
  · replace h := ok_f h c_7
    refine lv_aload_n hx hb dX7_takeBack_13 rfl (lv_at hl 0 rfl) ?_
    refine va_get (ci := 7) (v := Value.ref h0_diary) (C := RX7) (T := TX7) (N := 5) hx hb htl inX7 hown hK hP 0 rfl rfl 1 (by decide) (htl _ fl_RX7_21) (fun _ h9 => h9) rfl dX7_takeBack_14 ?_
    refine va_get (ci := 2) (v := Value.int h0_diary_latest) (C := RX2) (T := TX2) (N := 7) hx hb htl inX2 hown hK hP 1 rfl rfl 6 (by decide) (htl _ fl_RX7_142) (fun _ h9 => h9) rfl dX7_takeBack_17 ?_
    refine lv_istore_n hx hb dX7_takeBack_20 rfl hl (by decide) (rfl : _ = ([(1, Value.int h0_diary_latest), (0, Value.ref h0)] : List (Nat × Value))) (fun ls hl => ?_)
    refine lv_aload_n hx hb dX7_takeBack_21 rfl (lv_at hl 1 rfl) ?_
    refine va_get (ci := 7) (v := Value.ref h0_diary) (C := RX7) (T := TX7) (N := 5) hx hb htl inX7 hown hK hP 0 rfl rfl 1 (by decide) (htl _ fl_RX7_21) (fun _ h9 => h9) rfl dX7_takeBack_22 ?_
    refine va_get (ci := 2) (v := Value.ref h0_diary_whose) (C := RX2) (T := TX2) (N := 7) hx hb htl inX2 hown hK hP 1 rfl rfl 1 (by decide) (htl _ fl_RX7_145) (fun _ h9 => h9) rfl dX7_takeBack_25 ?_
    refine lv_iload_n hx hb dX7_takeBack_28 rfl (lv_at hl 0 rfl) ?_
    obtain ⟨hq_1, h⟩ := h
    refine va_iald hx hb hK hP 2 0 rfl rfl hq_1 dX7_takeBack_29 ?_
    refine lv_istore_n hx hb dX7_takeBack_30 rfl hl (by decide) (rfl : _ = ([(2, Value.int (f_h0_diary_whose h0_diary_latest.toNatClampNeg)), (1, Value.int h0_diary_latest), (0, Value.ref h0)] : List (Nat × Value))) (fun ls hl => ?_)
    refine lv_aload_n hx hb dX7_takeBack_31 rfl (lv_at hl 2 rfl) ?_
    refine va_get (ci := 7) (v := Value.ref h0_diary) (C := RX7) (T := TX7) (N := 5) hx hb htl inX7 hown hK hP 0 rfl rfl 1 (by decide) (htl _ fl_RX7_21) (fun _ h9 => h9) rfl dX7_takeBack_32 ?_
    refine va_get (ci := 2) (v := Value.ref h0_diary_deed) (C := RX2) (T := TX2) (N := 7) hx hb htl inX2 hown hK hP 1 rfl rfl 0 (by decide) (htl _ fl_RX7_148) (fun _ h9 => h9) rfl dX7_takeBack_35 ?_
    refine lv_iload_n hx hb dX7_takeBack_38 rfl (lv_at hl 1 rfl) ?_
    obtain ⟨hq_2, h⟩ := h
    refine va_iald hx hb hK hP 3 0 rfl rfl hq_2 dX7_takeBack_39 ?_
    refine lv_istore_n hx hb dX7_takeBack_40 rfl hl (by decide) (rfl : _ = ([(3, Value.int (f_h0_diary_deed h0_diary_latest.toNatClampNeg)), (2, Value.int (f_h0_diary_whose h0_diary_latest.toNatClampNeg)), (1, Value.int h0_diary_latest), (0, Value.ref h0)] : List (Nat × Value))) (fun ls hl => ?_)
    refine lv_aload_n hx hb dX7_takeBack_41 rfl (lv_at hl 3 rfl) ?_
    refine va_get (ci := 7) (v := Value.ref h0_diary) (C := RX7) (T := TX7) (N := 5) hx hb htl inX7 hown hK hP 0 rfl rfl 1 (by decide) (htl _ fl_RX7_21) (fun _ h9 => h9) rfl dX7_takeBack_42 ?_
    refine mv (wr := [(h0, Sum.inr (7, [Value.ref h0_world, Value.ref h0_diary, Value.ref h0_asker, Value.int h0_done, Value.int h0_latest])), (h0_diary_whose, Sum.inl (cs 0, 16, Sum.inl f_h0_diary_whose)), (h0_diary_deed, Sum.inl (cs 0, 16, Sum.inl f_h0_diary_deed)), (h0_world, Sum.inr (10, [Value.ref h0_world_rock, Value.ref h0_world_crew, Value.ref h0_world_folk, Value.ref h0_world_term, Value.ref h0_world_laws, Value.int h0_world_lawCount, Value.int h0_world_force])), (h0_world_crew, Sum.inr (1, [Value.ref h0_world_crew_cell, Value.ref h0_world_crew_buckets, Value.int h0_world_crew_count])), (h0_world_crew_cell, Sum.inl (cs 0, 6, Sum.inl f_h0_world_crew_cell)), (h0_world_rock, Sum.inr (6, [Value.ref h0_world_rock_kind, Value.ref h0_world_rock_hard, Value.ref h0_world_rock_water, Value.long h0_world_rock_dug])), (h0_diary_before, Sum.inl (cs 0, 16, Sum.inl f_h0_diary_before)), (h0_diary_dayBefore, Sum.inl (cs 0, 16, Sum.inl f_h0_diary_dayBefore)), (h0_world_term, Sum.inl (cs 0, 3, Sum.inl f_h0_world_term)), (h0_world_rock_water, Sum.inl (cs 0, 40, Sum.inl f_h0_world_rock_water)), (h0_diary_bucketsBefore, Sum.inl (cs 0, 16, Sum.inl f_h0_diary_bucketsBefore)), (h0_world_crew_buckets, Sum.inl (cs 0, 6, Sum.inl f_h0_world_crew_buckets)), (h0_world_folk, Sum.inr (4, [Value.ref h0_world_folk_column, Value.ref h0_world_folk_ear, Value.int h0_world_folk_listeners, Value.ref h0_world_folk_noiseColumn, Value.ref h0_world_folk_noiseLoud, Value.int h0_world_folk_noises, Value.int h0_world_folk_hushed, Value.ref h0_world_folk_hearsayColumn, Value.ref h0_world_folk_hearsayLoud, Value.int h0_world_folk_hearsay, Value.ref h0_world_folk_sounds, Value.ref h0_world_folk_wet, Value.int h0_world_folk_wells])), (h0_world_folk_column, Sum.inl (cs 0, 5, Sum.inl f_h0_world_folk_column))]) (mkV (rest := []) ⟨hx, hb, hml, hown, htl⟩ hN hK hP hD (g_X2_dropLatest l G cs h0_diary (Value.ref h0_diary_deed) (Value.ref h0_diary_whose) (Value.ref h0_diary_before) (Value.ref h0_diary_bucketsBefore) (Value.ref h0_diary_dayBefore) h0_diary_kept h0_diary_latest _ _ h) [1] rfl rfl 0 2 rfl rfl (cV 0 htl lk_RX7_151 mI_X2_dropLatest mS_X2_dropLatest mN_RX2 mC_X2_dropLatest ok_X2_dropLatest rfl rfl ⟨(Nat.le_of_ble_eq_true rfl), (Nat.le_of_ble_eq_true rfl)⟩) rfl hl.1 rfl (Nat.le_of_ble_eq_true rfl) dX7_takeBack_45 ⟨(Nat.le_of_ble_eq_true rfl), (Nat.le_of_ble_eq_true rfl)⟩) hP hD hS hA [1] [0, 2, 3, 4, 5, 6, 7, 8, 9, 10, 11, 12, 13, 14, 15] rfl rfl rfl (by decide) (fun u_45 H locs h hP hD hS => ?_)
    obtain ⟨u_45_0, u_45_1⟩ := u_45
    replace h := un2_e h
    obtain ⟨hP, hD⟩ := PD_as hP [(h0, Sum.inr (7, [Value.ref h0_world, Value.ref h0_diary, Value.ref h0_asker, Value.int h0_done, Value.int h0_latest])), (h0_diary_whose, Sum.inl (cs 0, 16, Sum.inl f_h0_diary_whose)), (h0_diary_deed, Sum.inl (cs 0, 16, Sum.inl f_h0_diary_deed)), (h0_world, Sum.inr (10, [Value.ref h0_world_rock, Value.ref h0_world_crew, Value.ref h0_world_folk, Value.ref h0_world_term, Value.ref h0_world_laws, Value.int h0_world_lawCount, Value.int h0_world_force])), (h0_world_crew, Sum.inr (1, [Value.ref h0_world_crew_cell, Value.ref h0_world_crew_buckets, Value.int h0_world_crew_count])), (h0_world_crew_cell, Sum.inl (cs 0, 6, Sum.inl f_h0_world_crew_cell)), (h0_world_rock, Sum.inr (6, [Value.ref h0_world_rock_kind, Value.ref h0_world_rock_hard, Value.ref h0_world_rock_water, Value.long h0_world_rock_dug])), (h0_diary_before, Sum.inl (cs 0, 16, Sum.inl f_h0_diary_before)), (h0_diary_dayBefore, Sum.inl (cs 0, 16, Sum.inl f_h0_diary_dayBefore)), (h0_world_term, Sum.inl (cs 0, 3, Sum.inl f_h0_world_term)), (h0_world_rock_water, Sum.inl (cs 0, 40, Sum.inl f_h0_world_rock_water)), (h0_diary_bucketsBefore, Sum.inl (cs 0, 16, Sum.inl f_h0_diary_bucketsBefore)), (h0_world_crew_buckets, Sum.inl (cs 0, 6, Sum.inl f_h0_world_crew_buckets)), (h0_world_folk, Sum.inr (4, [Value.ref h0_world_folk_column, Value.ref h0_world_folk_ear, Value.int h0_world_folk_listeners, Value.ref h0_world_folk_noiseColumn, Value.ref h0_world_folk_noiseLoud, Value.int h0_world_folk_noises, Value.int h0_world_folk_hushed, Value.ref h0_world_folk_hearsayColumn, Value.ref h0_world_folk_hearsayLoud, Value.int h0_world_folk_hearsay, Value.ref h0_world_folk_sounds, Value.ref h0_world_folk_wet, Value.int h0_world_folk_wells])), (h0_world_folk_column, Sum.inl (cs 0, 5, Sum.inl f_h0_world_folk_column)), (h0_diary, Sum.inr (2, [Value.ref h0_diary_deed, Value.ref h0_diary_whose, Value.ref h0_diary_before, Value.ref h0_diary_bucketsBefore, Value.ref h0_diary_dayBefore, Value.int u_45_0, Value.int u_45_1]))] rfl hD
    refine lv_iload_n hx hb dX7_takeBack_48 rfl (lv_at hl 0 rfl) ?_
    by_cases s_49_0 : (f_h0_diary_deed h0_diary_latest.toNatClampNeg) = 0
    · replace h := ok_t h s_49_0
      refine lv_tableIn (off := 27) (tgt := 76) hx hb dX7_takeBack_49 (by rw [s_49_0]; decide) (by rw [s_49_0]; decide) (by rw [s_49_0]; decide) (by decide) ?_
      refine lv_aload_n hx hb dX7_takeBack_76 rfl (lv_at hl 3 rfl) ?_
      refine va_get (ci := 7) (v := Value.ref h0_world) (C := RX7) (T := TX7) (N := 5) hx hb htl inX7 hown hK hP 0 rfl rfl 0 (by decide) (htl _ fl_RX7_12) (fun _ h9 => h9) rfl dX7_takeBack_77 ?_
      refine va_get (ci := 10) (v := Value.ref h0_world_rock) (C := RX10) (T := TX10) (N := 7) hx hb htl inX10 hown hK hP 3 rfl rfl 0 (by decide) (htl _ fl_RX7_62) (fun _ h9 => h9) rfl dX7_takeBack_80 ?_
      refine lv_aload_n hx hb dX7_takeBack_83 rfl (lv_at hl 3 rfl) ?_
      refine va_get (ci := 7) (v := Value.ref h0_world) (C := RX7) (T := TX7) (N := 5) hx hb htl inX7 hown hK hP 0 rfl rfl 0 (by decide) (htl _ fl_RX7_12) (fun _ h9 => h9) rfl dX7_takeBack_84 ?_
      refine va_get (ci := 10) (v := Value.ref h0_world_crew) (C := RX10) (T := TX10) (N := 7) hx hb htl inX10 hown hK hP 3 rfl rfl 1 (by decide) (htl _ fl_RX7_36) (fun _ h9 => h9) rfl dX7_takeBack_87 ?_
      refine va_get (ci := 1) (v := Value.ref h0_world_crew_cell) (C := RX1) (T := TX1) (N := 3) hx hb htl inX1 hown hK hP 4 rfl rfl 0 (by decide) (htl _ fl_RX7_50) (fun _ h9 => h9) rfl dX7_takeBack_90 ?_
      refine lv_iload_n hx hb dX7_takeBack_93 rfl (lv_at hl 1 rfl) ?_
      obtain ⟨hq_3, h⟩ := h
      refine va_iald hx hb hK hP 5 0 rfl rfl hq_3 dX7_takeBack_94 ?_
      refine mv (wr := [(h0, Sum.inr (7, [Value.ref h0_world, Value.ref h0_diary, Value.ref h0_asker, Value.int h0_done, Value.int h0_latest])), (h0_diary_whose, Sum.inl (cs 0, 16, Sum.inl f_h0_diary_whose)), (h0_diary_deed, Sum.inl (cs 0, 16, Sum.inl f_h0_diary_deed)), (h0_world, Sum.inr (10, [Value.ref h0_world_rock, Value.ref h0_world_crew, Value.ref h0_world_folk, Value.ref h0_world_term, Value.ref h0_world_laws, Value.int h0_world_lawCount, Value.int h0_world_force])), (h0_world_crew, Sum.inr (1, [Value.ref h0_world_crew_cell, Value.ref h0_world_crew_buckets, Value.int h0_world_crew_count])), (h0_world_crew_cell, Sum.inl (cs 0, 6, Sum.inl f_h0_world_crew_cell)), (h0_diary_before, Sum.inl (cs 0, 16, Sum.inl f_h0_diary_before)), (h0_diary_dayBefore, Sum.inl (cs 0, 16, Sum.inl f_h0_diary_dayBefore)), (h0_world_term, Sum.inl (cs 0, 3, Sum.inl f_h0_world_term)), (h0_world_rock_water, Sum.inl (cs 0, 40, Sum.inl f_h0_world_rock_water)), (h0_diary_bucketsBefore, Sum.inl (cs 0, 16, Sum.inl f_h0_diary_bucketsBefore)), (h0_world_crew_buckets, Sum.inl (cs 0, 6, Sum.inl f_h0_world_crew_buckets)), (h0_world_folk, Sum.inr (4, [Value.ref h0_world_folk_column, Value.ref h0_world_folk_ear, Value.int h0_world_folk_listeners, Value.ref h0_world_folk_noiseColumn, Value.ref h0_world_folk_noiseLoud, Value.int h0_world_folk_noises, Value.int h0_world_folk_hushed, Value.ref h0_world_folk_hearsayColumn, Value.ref h0_world_folk_hearsayLoud, Value.int h0_world_folk_hearsay, Value.ref h0_world_folk_sounds, Value.ref h0_world_folk_wet, Value.int h0_world_folk_wells])), (h0_world_folk_column, Sum.inl (cs 0, 5, Sum.inl f_h0_world_folk_column)), (h0_diary, Sum.inr (2, [Value.ref h0_diary_deed, Value.ref h0_diary_whose, Value.ref h0_diary_before, Value.ref h0_diary_bucketsBefore, Value.ref h0_diary_dayBefore, Value.int u_45_0, Value.int u_45_1]))]) (mkV (rest := []) ⟨hx, hb, hml, hown, htl⟩ hN hK hP hD (g_X6_unmark l G cs h0_world_rock (f_h0_world_crew_cell (f_h0_diary_whose h0_diary_latest.toNatClampNeg).toNatClampNeg) (Value.ref h0_world_rock_kind) (Value.ref h0_world_rock_hard) (Value.ref h0_world_rock_water) h0_world_rock_dug _ _ h) [6] rfl rfl 0 6 rfl rfl (cV 1 htl lk_RX7_154 mI_X6_unmark mS_X6_unmark mN_RX6 mC_X6_unmark ok_X6_unmark rfl rfl ⟨(Nat.le_of_ble_eq_true rfl), (Nat.le_of_ble_eq_true rfl)⟩) rfl hl.1 rfl (Nat.le_of_ble_eq_true rfl) dX7_takeBack_95 ⟨(Nat.le_of_ble_eq_true rfl), (Nat.le_of_ble_eq_true rfl)⟩) hP hD hS hA [6] [0, 1, 2, 3, 4, 5, 7, 8, 9, 10, 11, 12, 13, 14, 15] rfl rfl rfl (by decide) (fun u_95 H locs h hP hD hS => ?_)
      obtain ⟨hP, hD⟩ := PD_as hP [(h0, Sum.inr (7, [Value.ref h0_world, Value.ref h0_diary, Value.ref h0_asker, Value.int h0_done, Value.int h0_latest])), (h0_diary_whose, Sum.inl (cs 0, 16, Sum.inl f_h0_diary_whose)), (h0_diary_deed, Sum.inl (cs 0, 16, Sum.inl f_h0_diary_deed)), (h0_world, Sum.inr (10, [Value.ref h0_world_rock, Value.ref h0_world_crew, Value.ref h0_world_folk, Value.ref h0_world_term, Value.ref h0_world_laws, Value.int h0_world_lawCount, Value.int h0_world_force])), (h0_world_crew, Sum.inr (1, [Value.ref h0_world_crew_cell, Value.ref h0_world_crew_buckets, Value.int h0_world_crew_count])), (h0_world_crew_cell, Sum.inl (cs 0, 6, Sum.inl f_h0_world_crew_cell)), (h0_diary_before, Sum.inl (cs 0, 16, Sum.inl f_h0_diary_before)), (h0_diary_dayBefore, Sum.inl (cs 0, 16, Sum.inl f_h0_diary_dayBefore)), (h0_world_term, Sum.inl (cs 0, 3, Sum.inl f_h0_world_term)), (h0_world_rock_water, Sum.inl (cs 0, 40, Sum.inl f_h0_world_rock_water)), (h0_diary_bucketsBefore, Sum.inl (cs 0, 16, Sum.inl f_h0_diary_bucketsBefore)), (h0_world_crew_buckets, Sum.inl (cs 0, 6, Sum.inl f_h0_world_crew_buckets)), (h0_world_folk, Sum.inr (4, [Value.ref h0_world_folk_column, Value.ref h0_world_folk_ear, Value.int h0_world_folk_listeners, Value.ref h0_world_folk_noiseColumn, Value.ref h0_world_folk_noiseLoud, Value.int h0_world_folk_noises, Value.int h0_world_folk_hushed, Value.ref h0_world_folk_hearsayColumn, Value.ref h0_world_folk_hearsayLoud, Value.int h0_world_folk_hearsay, Value.ref h0_world_folk_sounds, Value.ref h0_world_folk_wet, Value.int h0_world_folk_wells])), (h0_world_folk_column, Sum.inl (cs 0, 5, Sum.inl f_h0_world_folk_column)), (h0_diary, Sum.inr (2, [Value.ref h0_diary_deed, Value.ref h0_diary_whose, Value.ref h0_diary_before, Value.ref h0_diary_bucketsBefore, Value.ref h0_diary_dayBefore, Value.int u_45_0, Value.int u_45_1])), (h0_world_rock, Sum.inr (6, [Value.ref h0_world_rock_kind, Value.ref h0_world_rock_hard, Value.ref h0_world_rock_water, Value.long u_95]))] rfl hD
      refine lv_aload_n hx hb dX7_takeBack_98 rfl (lv_at hl 3 rfl) ?_
      refine va_get (ci := 7) (v := Value.ref h0_world) (C := RX7) (T := TX7) (N := 5) hx hb htl inX7 hown hK hP 0 rfl rfl 0 (by decide) (htl _ fl_RX7_12) (fun _ h9 => h9) rfl dX7_takeBack_99 ?_
      refine va_get (ci := 10) (v := Value.ref h0_world_crew) (C := RX10) (T := TX10) (N := 7) hx hb htl inX10 hown hK hP 3 rfl rfl 1 (by decide) (htl _ fl_RX7_36) (fun _ h9 => h9) rfl dX7_takeBack_102 ?_
      refine va_get (ci := 1) (v := Value.ref h0_world_crew_cell) (C := RX1) (T := TX1) (N := 3) hx hb htl inX1 hown hK hP 4 rfl rfl 0 (by decide) (htl _ fl_RX7_50) (fun _ h9 => h9) rfl dX7_takeBack_105 ?_
      refine lv_iload_n hx hb dX7_takeBack_108 rfl (lv_at hl 1 rfl) ?_
      refine lv_aload_n hx hb dX7_takeBack_109 rfl (lv_at hl 3 rfl) ?_
      refine va_get (ci := 7) (v := Value.ref h0_diary) (C := RX7) (T := TX7) (N := 5) hx hb htl inX7 hown hK hP 0 rfl rfl 1 (by decide) (htl _ fl_RX7_21) (fun _ h9 => h9) rfl dX7_takeBack_110 ?_
      refine va_get (ci := 2) (v := Value.ref h0_diary_before) (C := RX2) (T := TX2) (N := 7) hx hb htl inX2 hown hK hP 14 rfl rfl 2 (by decide) (htl _ fl_RX7_157) (fun _ h9 => h9) rfl dX7_takeBack_113 ?_
      refine lv_iload_n hx hb dX7_takeBack_116 rfl (lv_at hl 2 rfl) ?_
      obtain ⟨hq_4, h⟩ := h
      refine va_iald hx hb hK hP 6 0 rfl rfl hq_4 dX7_takeBack_117 ?_
      obtain ⟨hq_5, h⟩ := h
      refine va_iast hx hb hK hP hD hS 5 0 rfl rfl hq_5 dX7_takeBack_118 (fun H locs hP hD hS => ?_)
      obtain ⟨hP, hD⟩ := PD_as hP [(h0, Sum.inr (7, [Value.ref h0_world, Value.ref h0_diary, Value.ref h0_asker, Value.int h0_done, Value.int h0_latest])), (h0_diary_whose, Sum.inl (cs 0, 16, Sum.inl f_h0_diary_whose)), (h0_diary_deed, Sum.inl (cs 0, 16, Sum.inl f_h0_diary_deed)), (h0_world, Sum.inr (10, [Value.ref h0_world_rock, Value.ref h0_world_crew, Value.ref h0_world_folk, Value.ref h0_world_term, Value.ref h0_world_laws, Value.int h0_world_lawCount, Value.int h0_world_force])), (h0_world_crew, Sum.inr (1, [Value.ref h0_world_crew_cell, Value.ref h0_world_crew_buckets, Value.int h0_world_crew_count])), (h0_world_crew_cell, Sum.inl (cs 0, 6, Sum.inl (upd f_h0_world_crew_cell (f_h0_diary_whose h0_diary_latest.toNatClampNeg).toNatClampNeg (f_h0_diary_before h0_diary_latest.toNatClampNeg)))), (h0_diary_before, Sum.inl (cs 0, 16, Sum.inl f_h0_diary_before)), (h0_diary_dayBefore, Sum.inl (cs 0, 16, Sum.inl f_h0_diary_dayBefore)), (h0_world_term, Sum.inl (cs 0, 3, Sum.inl f_h0_world_term)), (h0_world_rock_water, Sum.inl (cs 0, 40, Sum.inl f_h0_world_rock_water)), (h0_diary_bucketsBefore, Sum.inl (cs 0, 16, Sum.inl f_h0_diary_bucketsBefore)), (h0_world_crew_buckets, Sum.inl (cs 0, 6, Sum.inl f_h0_world_crew_buckets)), (h0_world_folk, Sum.inr (4, [Value.ref h0_world_folk_column, Value.ref h0_world_folk_ear, Value.int h0_world_folk_listeners, Value.ref h0_world_folk_noiseColumn, Value.ref h0_world_folk_noiseLoud, Value.int h0_world_folk_noises, Value.int h0_world_folk_hushed, Value.ref h0_world_folk_hearsayColumn, Value.ref h0_world_folk_hearsayLoud, Value.int h0_world_folk_hearsay, Value.ref h0_world_folk_sounds, Value.ref h0_world_folk_wet, Value.int h0_world_folk_wells])), (h0_world_folk_column, Sum.inl (cs 0, 5, Sum.inl f_h0_world_folk_column)), (h0_diary, Sum.inr (2, [Value.ref h0_diary_deed, Value.ref h0_diary_whose, Value.ref h0_diary_before, Value.ref h0_diary_bucketsBefore, Value.ref h0_diary_dayBefore, Value.int u_45_0, Value.int u_45_1])), (h0_world_rock, Sum.inr (6, [Value.ref h0_world_rock_kind, Value.ref h0_world_rock_hard, Value.ref h0_world_rock_water, Value.long u_95]))] rfl hD
      refine lv_aload_n hx hb dX7_takeBack_119 rfl (lv_at hl 3 rfl) ?_
      refine va_get (ci := 7) (v := Value.ref h0_world) (C := RX7) (T := TX7) (N := 5) hx hb htl inX7 hown hK hP 0 rfl rfl 0 (by decide) (htl _ fl_RX7_12) (fun _ h9 => h9) rfl dX7_takeBack_120 ?_
      refine va_get (ci := 10) (v := Value.ref h0_world_term) (C := RX10) (T := TX10) (N := 7) hx hb htl inX10 hown hK hP 3 rfl rfl 3 (by decide) (htl _ fl_RX7_81) (fun _ h9 => h9) rfl dX7_takeBack_123 ?_
      refine lv_iconst (v := 0) hx hb dX7_takeBack_126 (by decide) ?_
      refine lv_aload_n hx hb dX7_takeBack_127 rfl (lv_at hl 3 rfl) ?_
      refine va_get (ci := 7) (v := Value.ref h0_diary) (C := RX7) (T := TX7) (N := 5) hx hb htl inX7 hown hK hP 0 rfl rfl 1 (by decide) (htl _ fl_RX7_21) (fun _ h9 => h9) rfl dX7_takeBack_128 ?_
      refine va_get (ci := 2) (v := Value.ref h0_diary_dayBefore) (C := RX2) (T := TX2) (N := 7) hx hb htl inX2 hown hK hP 14 rfl rfl 4 (by decide) (htl _ fl_RX7_160) (fun _ h9 => h9) rfl dX7_takeBack_131 ?_
      refine lv_iload_n hx hb dX7_takeBack_134 rfl (lv_at hl 2 rfl) ?_
      obtain ⟨hq_6, h⟩ := h
      refine va_iald hx hb hK hP 7 0 rfl rfl hq_6 dX7_takeBack_135 ?_
      refine va_iast hx hb hK hP hD hS 8 0 rfl rfl (by unfold vp_in; decide) dX7_takeBack_136 (fun H locs hP hD hS => ?_)
      obtain ⟨hP, hD⟩ := PD_as hP [(h0, Sum.inr (7, [Value.ref h0_world, Value.ref h0_diary, Value.ref h0_asker, Value.int h0_done, Value.int h0_latest])), (h0_diary_whose, Sum.inl (cs 0, 16, Sum.inl f_h0_diary_whose)), (h0_diary_deed, Sum.inl (cs 0, 16, Sum.inl f_h0_diary_deed)), (h0_world, Sum.inr (10, [Value.ref h0_world_rock, Value.ref h0_world_crew, Value.ref h0_world_folk, Value.ref h0_world_term, Value.ref h0_world_laws, Value.int h0_world_lawCount, Value.int h0_world_force])), (h0_world_crew, Sum.inr (1, [Value.ref h0_world_crew_cell, Value.ref h0_world_crew_buckets, Value.int h0_world_crew_count])), (h0_world_crew_cell, Sum.inl (cs 0, 6, Sum.inl (upd f_h0_world_crew_cell (f_h0_diary_whose h0_diary_latest.toNatClampNeg).toNatClampNeg (f_h0_diary_before h0_diary_latest.toNatClampNeg)))), (h0_diary_before, Sum.inl (cs 0, 16, Sum.inl f_h0_diary_before)), (h0_diary_dayBefore, Sum.inl (cs 0, 16, Sum.inl f_h0_diary_dayBefore)), (h0_world_term, Sum.inl (cs 0, 3, Sum.inl (upd f_h0_world_term 0 (f_h0_diary_dayBefore h0_diary_latest.toNatClampNeg)))), (h0_world_rock_water, Sum.inl (cs 0, 40, Sum.inl f_h0_world_rock_water)), (h0_diary_bucketsBefore, Sum.inl (cs 0, 16, Sum.inl f_h0_diary_bucketsBefore)), (h0_world_crew_buckets, Sum.inl (cs 0, 6, Sum.inl f_h0_world_crew_buckets)), (h0_world_folk, Sum.inr (4, [Value.ref h0_world_folk_column, Value.ref h0_world_folk_ear, Value.int h0_world_folk_listeners, Value.ref h0_world_folk_noiseColumn, Value.ref h0_world_folk_noiseLoud, Value.int h0_world_folk_noises, Value.int h0_world_folk_hushed, Value.ref h0_world_folk_hearsayColumn, Value.ref h0_world_folk_hearsayLoud, Value.int h0_world_folk_hearsay, Value.ref h0_world_folk_sounds, Value.ref h0_world_folk_wet, Value.int h0_world_folk_wells])), (h0_world_folk_column, Sum.inl (cs 0, 5, Sum.inl f_h0_world_folk_column)), (h0_diary, Sum.inr (2, [Value.ref h0_diary_deed, Value.ref h0_diary_whose, Value.ref h0_diary_before, Value.ref h0_diary_bucketsBefore, Value.ref h0_diary_dayBefore, Value.int u_45_0, Value.int u_45_1])), (h0_world_rock, Sum.inr (6, [Value.ref h0_world_rock_kind, Value.ref h0_world_rock_hard, Value.ref h0_world_rock_water, Value.long u_95]))] rfl hD
      refine lv_goto (tgt := 258) hx hb dX7_takeBack_137 (by decide) ?_
      refine lv_iload_n hx hb dX7_takeBack_258 rfl (lv_at hl 0 rfl) ?_
      obtain ⟨hP9, hD9⟩ := PD_pk hP hD [(h0, Sum.inr (7, [Value.ref h0_world, Value.ref h0_diary, Value.ref h0_asker, Value.int h0_done, Value.int h0_latest])), (h0_diary, Sum.inr (2, [Value.ref h0_diary_deed, Value.ref h0_diary_whose, Value.ref h0_diary_before, Value.ref h0_diary_bucketsBefore, Value.ref h0_diary_dayBefore, Value.int u_45_0, Value.int u_45_1])), (h0_diary_whose, Sum.inl (cs 0, 16, Sum.inl f_h0_diary_whose)), (h0_diary_deed, Sum.inl (cs 0, 16, Sum.inl f_h0_diary_deed)), (h0_world, Sum.inr (10, [Value.ref h0_world_rock, Value.ref h0_world_crew, Value.ref h0_world_folk, Value.ref h0_world_term, Value.ref h0_world_laws, Value.int h0_world_lawCount, Value.int h0_world_force])), (h0_world_crew, Sum.inr (1, [Value.ref h0_world_crew_cell, Value.ref h0_world_crew_buckets, Value.int h0_world_crew_count])), (h0_world_crew_cell, Sum.inl (cs 0, 6, Sum.inl (upd f_h0_world_crew_cell (f_h0_diary_whose h0_diary_latest.toNatClampNeg).toNatClampNeg (f_h0_diary_before h0_diary_latest.toNatClampNeg)))), (h0_world_rock, Sum.inr (6, [Value.ref h0_world_rock_kind, Value.ref h0_world_rock_hard, Value.ref h0_world_rock_water, Value.long u_95])), (h0_diary_before, Sum.inl (cs 0, 16, Sum.inl f_h0_diary_before)), (h0_diary_dayBefore, Sum.inl (cs 0, 16, Sum.inl f_h0_diary_dayBefore)), (h0_world_term, Sum.inl (cs 0, 3, Sum.inl (upd f_h0_world_term 0 (f_h0_diary_dayBefore h0_diary_latest.toNatClampNeg)))), (h0_world_rock_water, Sum.inl (cs 0, 40, Sum.inl f_h0_world_rock_water)), (h0_diary_bucketsBefore, Sum.inl (cs 0, 16, Sum.inl f_h0_diary_bucketsBefore)), (h0_world_crew_buckets, Sum.inl (cs 0, 6, Sum.inl f_h0_world_crew_buckets)), (h0_world_folk, Sum.inr (4, [Value.ref h0_world_folk_column, Value.ref h0_world_folk_ear, Value.int h0_world_folk_listeners, Value.ref h0_world_folk_noiseColumn, Value.ref h0_world_folk_noiseLoud, Value.int h0_world_folk_noises, Value.int h0_world_folk_hushed, Value.ref h0_world_folk_hearsayColumn, Value.ref h0_world_folk_hearsayLoud, Value.int h0_world_folk_hearsay, Value.ref h0_world_folk_sounds, Value.ref h0_world_folk_wet, Value.int h0_world_folk_wells])), (h0_world_folk_column, Sum.inl (cs 0, 5, Sum.inl f_h0_world_folk_column))] [0, 14, 1, 2, 3, 4, 5, 15, 6, 7, 8, 9, 10, 11, 12, 13] rfl rfl
      exact W.iret (v := (f_h0_diary_deed h0_diary_latest.toNatClampNeg)) hx hb hr (fun t ht hW => ⟨⟨(f_h0_diary_deed h0_diary_latest.toNatClampNeg), (u_45_0, u_45_1, (upd f_h0_world_crew_cell (f_h0_diary_whose h0_diary_latest.toNatClampNeg).toNatClampNeg (f_h0_diary_before h0_diary_latest.toNatClampNeg)), u_95, (upd f_h0_world_term 0 (f_h0_diary_dayBefore h0_diary_latest.toNatClampNeg)), f_h0_world_rock_water, f_h0_world_crew_buckets, h0_world_folk_hushed, f_h0_world_folk_column), rfl, h, ⟨by rw [ht]; exact hP9, va_K.moved hW.alike hK, hD9⟩⟩, hS.F ht⟩) hS.2.2 dX7_takeBack_259
    replace h := ok_f h s_49_0
    by_cases s_49_1 : (f_h0_diary_deed h0_diary_latest.toNatClampNeg) = 1
    · replace h := ok_t h s_49_1
      refine lv_tableIn (off := 91) (tgt := 140) hx hb dX7_takeBack_49 (by rw [s_49_1]; decide) (by rw [s_49_1]; decide) (by rw [s_49_1]; decide) (by decide) ?_
      refine lv_aload_n hx hb dX7_takeBack_140 rfl (lv_at hl 3 rfl) ?_
      refine va_get (ci := 7) (v := Value.ref h0_world) (C := RX7) (T := TX7) (N := 5) hx hb htl inX7 hown hK hP 0 rfl rfl 0 (by decide) (htl _ fl_RX7_12) (fun _ h9 => h9) rfl dX7_takeBack_141 ?_
      refine va_get (ci := 10) (v := Value.ref h0_world_rock) (C := RX10) (T := TX10) (N := 7) hx hb htl inX10 hown hK hP 3 rfl rfl 0 (by decide) (htl _ fl_RX7_62) (fun _ h9 => h9) rfl dX7_takeBack_144 ?_
      refine va_get (ci := 6) (v := Value.ref h0_world_rock_water) (C := RX6) (T := TX6) (N := 4) hx hb htl inX6 hown hK hP 6 rfl rfl 2 (by decide) (htl _ fl_RX7_107) (fun _ h9 => h9) rfl dX7_takeBack_147 ?_
      refine lv_aload_n hx hb dX7_takeBack_150 rfl (lv_at hl 3 rfl) ?_
      refine va_get (ci := 7) (v := Value.ref h0_world) (C := RX7) (T := TX7) (N := 5) hx hb htl inX7 hown hK hP 0 rfl rfl 0 (by decide) (htl _ fl_RX7_12) (fun _ h9 => h9) rfl dX7_takeBack_151 ?_
      refine va_get (ci := 10) (v := Value.ref h0_world_crew) (C := RX10) (T := TX10) (N := 7) hx hb htl inX10 hown hK hP 3 rfl rfl 1 (by decide) (htl _ fl_RX7_36) (fun _ h9 => h9) rfl dX7_takeBack_154 ?_
      refine va_get (ci := 1) (v := Value.ref h0_world_crew_cell) (C := RX1) (T := TX1) (N := 3) hx hb htl inX1 hown hK hP 4 rfl rfl 0 (by decide) (htl _ fl_RX7_50) (fun _ h9 => h9) rfl dX7_takeBack_157 ?_
      refine lv_iload_n hx hb dX7_takeBack_160 rfl (lv_at hl 1 rfl) ?_
      obtain ⟨hq_7, h⟩ := h
      refine va_iald hx hb hK hP 5 0 rfl rfl hq_7 dX7_takeBack_161 ?_
      refine lv_aload_n hx hb dX7_takeBack_162 rfl (lv_at hl 3 rfl) ?_
      refine va_get (ci := 7) (v := Value.ref h0_diary) (C := RX7) (T := TX7) (N := 5) hx hb htl inX7 hown hK hP 0 rfl rfl 1 (by decide) (htl _ fl_RX7_21) (fun _ h9 => h9) rfl dX7_takeBack_163 ?_
      refine va_get (ci := 2) (v := Value.ref h0_diary_before) (C := RX2) (T := TX2) (N := 7) hx hb htl inX2 hown hK hP 15 rfl rfl 2 (by decide) (htl _ fl_RX7_157) (fun _ h9 => h9) rfl dX7_takeBack_166 ?_
      refine lv_iload_n hx hb dX7_takeBack_169 rfl (lv_at hl 2 rfl) ?_
      obtain ⟨hq_8, h⟩ := h
      refine va_iald hx hb hK hP 7 0 rfl rfl hq_8 dX7_takeBack_170 ?_
      obtain ⟨hq_9, h⟩ := h
      refine va_iast hx hb hK hP hD hS 10 0 rfl rfl hq_9 dX7_takeBack_171 (fun H locs hP hD hS => ?_)
      obtain ⟨hP, hD⟩ := PD_as hP [(h0, Sum.inr (7, [Value.ref h0_world, Value.ref h0_diary, Value.ref h0_asker, Value.int h0_done, Value.int h0_latest])), (h0_diary_whose, Sum.inl (cs 0, 16, Sum.inl f_h0_diary_whose)), (h0_diary_deed, Sum.inl (cs 0, 16, Sum.inl f_h0_diary_deed)), (h0_world, Sum.inr (10, [Value.ref h0_world_rock, Value.ref h0_world_crew, Value.ref h0_world_folk, Value.ref h0_world_term, Value.ref h0_world_laws, Value.int h0_world_lawCount, Value.int h0_world_force])), (h0_world_crew, Sum.inr (1, [Value.ref h0_world_crew_cell, Value.ref h0_world_crew_buckets, Value.int h0_world_crew_count])), (h0_world_crew_cell, Sum.inl (cs 0, 6, Sum.inl f_h0_world_crew_cell)), (h0_world_rock, Sum.inr (6, [Value.ref h0_world_rock_kind, Value.ref h0_world_rock_hard, Value.ref h0_world_rock_water, Value.long h0_world_rock_dug])), (h0_diary_before, Sum.inl (cs 0, 16, Sum.inl f_h0_diary_before)), (h0_diary_dayBefore, Sum.inl (cs 0, 16, Sum.inl f_h0_diary_dayBefore)), (h0_world_term, Sum.inl (cs 0, 3, Sum.inl f_h0_world_term)), (h0_world_rock_water, Sum.inl (cs 0, 40, Sum.inl (upd f_h0_world_rock_water (f_h0_world_crew_cell (f_h0_diary_whose h0_diary_latest.toNatClampNeg).toNatClampNeg).toNatClampNeg (f_h0_diary_before h0_diary_latest.toNatClampNeg)))), (h0_diary_bucketsBefore, Sum.inl (cs 0, 16, Sum.inl f_h0_diary_bucketsBefore)), (h0_world_crew_buckets, Sum.inl (cs 0, 6, Sum.inl f_h0_world_crew_buckets)), (h0_world_folk, Sum.inr (4, [Value.ref h0_world_folk_column, Value.ref h0_world_folk_ear, Value.int h0_world_folk_listeners, Value.ref h0_world_folk_noiseColumn, Value.ref h0_world_folk_noiseLoud, Value.int h0_world_folk_noises, Value.int h0_world_folk_hushed, Value.ref h0_world_folk_hearsayColumn, Value.ref h0_world_folk_hearsayLoud, Value.int h0_world_folk_hearsay, Value.ref h0_world_folk_sounds, Value.ref h0_world_folk_wet, Value.int h0_world_folk_wells])), (h0_world_folk_column, Sum.inl (cs 0, 5, Sum.inl f_h0_world_folk_column)), (h0_diary, Sum.inr (2, [Value.ref h0_diary_deed, Value.ref h0_diary_whose, Value.ref h0_diary_before, Value.ref h0_diary_bucketsBefore, Value.ref h0_diary_dayBefore, Value.int u_45_0, Value.int u_45_1]))] rfl hD
      refine lv_aload_n hx hb dX7_takeBack_172 rfl (lv_at hl 3 rfl) ?_
      refine va_get (ci := 7) (v := Value.ref h0_world) (C := RX7) (T := TX7) (N := 5) hx hb htl inX7 hown hK hP 0 rfl rfl 0 (by decide) (htl _ fl_RX7_12) (fun _ h9 => h9) rfl dX7_takeBack_173 ?_
      refine va_get (ci := 10) (v := Value.ref h0_world_crew) (C := RX10) (T := TX10) (N := 7) hx hb htl inX10 hown hK hP 3 rfl rfl 1 (by decide) (htl _ fl_RX7_36) (fun _ h9 => h9) rfl dX7_takeBack_176 ?_
      refine va_get (ci := 1) (v := Value.ref h0_world_crew_buckets) (C := RX1) (T := TX1) (N := 3) hx hb htl inX1 hown hK hP 4 rfl rfl 1 (by decide) (htl _ fl_RX7_104) (fun _ h9 => h9) rfl dX7_takeBack_179 ?_
      refine lv_iload_n hx hb dX7_takeBack_182 rfl (lv_at hl 1 rfl) ?_
      refine lv_aload_n hx hb dX7_takeBack_183 rfl (lv_at hl 3 rfl) ?_
      refine va_get (ci := 7) (v := Value.ref h0_diary) (C := RX7) (T := TX7) (N := 5) hx hb htl inX7 hown hK hP 0 rfl rfl 1 (by decide) (htl _ fl_RX7_21) (fun _ h9 => h9) rfl dX7_takeBack_184 ?_
      refine va_get (ci := 2) (v := Value.ref h0_diary_bucketsBefore) (C := RX2) (T := TX2) (N := 7) hx hb htl inX2 hown hK hP 15 rfl rfl 3 (by decide) (htl _ fl_RX7_163) (fun _ h9 => h9) rfl dX7_takeBack_187 ?_
      refine lv_iload_n hx hb dX7_takeBack_190 rfl (lv_at hl 2 rfl) ?_
      obtain ⟨hq_10, h⟩ := h
      refine va_iald hx hb hK hP 11 0 rfl rfl hq_10 dX7_takeBack_191 ?_
      obtain ⟨hq_11, h⟩ := h
      refine va_iast hx hb hK hP hD hS 12 0 rfl rfl hq_11 dX7_takeBack_192 (fun H locs hP hD hS => ?_)
      obtain ⟨hP, hD⟩ := PD_as hP [(h0, Sum.inr (7, [Value.ref h0_world, Value.ref h0_diary, Value.ref h0_asker, Value.int h0_done, Value.int h0_latest])), (h0_diary_whose, Sum.inl (cs 0, 16, Sum.inl f_h0_diary_whose)), (h0_diary_deed, Sum.inl (cs 0, 16, Sum.inl f_h0_diary_deed)), (h0_world, Sum.inr (10, [Value.ref h0_world_rock, Value.ref h0_world_crew, Value.ref h0_world_folk, Value.ref h0_world_term, Value.ref h0_world_laws, Value.int h0_world_lawCount, Value.int h0_world_force])), (h0_world_crew, Sum.inr (1, [Value.ref h0_world_crew_cell, Value.ref h0_world_crew_buckets, Value.int h0_world_crew_count])), (h0_world_crew_cell, Sum.inl (cs 0, 6, Sum.inl f_h0_world_crew_cell)), (h0_world_rock, Sum.inr (6, [Value.ref h0_world_rock_kind, Value.ref h0_world_rock_hard, Value.ref h0_world_rock_water, Value.long h0_world_rock_dug])), (h0_diary_before, Sum.inl (cs 0, 16, Sum.inl f_h0_diary_before)), (h0_diary_dayBefore, Sum.inl (cs 0, 16, Sum.inl f_h0_diary_dayBefore)), (h0_world_term, Sum.inl (cs 0, 3, Sum.inl f_h0_world_term)), (h0_world_rock_water, Sum.inl (cs 0, 40, Sum.inl (upd f_h0_world_rock_water (f_h0_world_crew_cell (f_h0_diary_whose h0_diary_latest.toNatClampNeg).toNatClampNeg).toNatClampNeg (f_h0_diary_before h0_diary_latest.toNatClampNeg)))), (h0_diary_bucketsBefore, Sum.inl (cs 0, 16, Sum.inl f_h0_diary_bucketsBefore)), (h0_world_crew_buckets, Sum.inl (cs 0, 6, Sum.inl (upd f_h0_world_crew_buckets (f_h0_diary_whose h0_diary_latest.toNatClampNeg).toNatClampNeg (f_h0_diary_bucketsBefore h0_diary_latest.toNatClampNeg)))), (h0_world_folk, Sum.inr (4, [Value.ref h0_world_folk_column, Value.ref h0_world_folk_ear, Value.int h0_world_folk_listeners, Value.ref h0_world_folk_noiseColumn, Value.ref h0_world_folk_noiseLoud, Value.int h0_world_folk_noises, Value.int h0_world_folk_hushed, Value.ref h0_world_folk_hearsayColumn, Value.ref h0_world_folk_hearsayLoud, Value.int h0_world_folk_hearsay, Value.ref h0_world_folk_sounds, Value.ref h0_world_folk_wet, Value.int h0_world_folk_wells])), (h0_world_folk_column, Sum.inl (cs 0, 5, Sum.inl f_h0_world_folk_column)), (h0_diary, Sum.inr (2, [Value.ref h0_diary_deed, Value.ref h0_diary_whose, Value.ref h0_diary_before, Value.ref h0_diary_bucketsBefore, Value.ref h0_diary_dayBefore, Value.int u_45_0, Value.int u_45_1]))] rfl hD
      refine lv_aload_n hx hb dX7_takeBack_193 rfl (lv_at hl 3 rfl) ?_
      refine va_get (ci := 7) (v := Value.ref h0_world) (C := RX7) (T := TX7) (N := 5) hx hb htl inX7 hown hK hP 0 rfl rfl 0 (by decide) (htl _ fl_RX7_12) (fun _ h9 => h9) rfl dX7_takeBack_194 ?_
      refine va_get (ci := 10) (v := Value.ref h0_world_term) (C := RX10) (T := TX10) (N := 7) hx hb htl inX10 hown hK hP 3 rfl rfl 3 (by decide) (htl _ fl_RX7_81) (fun _ h9 => h9) rfl dX7_takeBack_197 ?_
      refine lv_iconst (v := 0) hx hb dX7_takeBack_200 (by decide) ?_
      refine lv_aload_n hx hb dX7_takeBack_201 rfl (lv_at hl 3 rfl) ?_
      refine va_get (ci := 7) (v := Value.ref h0_diary) (C := RX7) (T := TX7) (N := 5) hx hb htl inX7 hown hK hP 0 rfl rfl 1 (by decide) (htl _ fl_RX7_21) (fun _ h9 => h9) rfl dX7_takeBack_202 ?_
      refine va_get (ci := 2) (v := Value.ref h0_diary_dayBefore) (C := RX2) (T := TX2) (N := 7) hx hb htl inX2 hown hK hP 15 rfl rfl 4 (by decide) (htl _ fl_RX7_160) (fun _ h9 => h9) rfl dX7_takeBack_205 ?_
      refine lv_iload_n hx hb dX7_takeBack_208 rfl (lv_at hl 2 rfl) ?_
      obtain ⟨hq_12, h⟩ := h
      refine va_iald hx hb hK hP 8 0 rfl rfl hq_12 dX7_takeBack_209 ?_
      refine va_iast hx hb hK hP hD hS 9 0 rfl rfl (by unfold vp_in; decide) dX7_takeBack_210 (fun H locs hP hD hS => ?_)
      obtain ⟨hP, hD⟩ := PD_as hP [(h0, Sum.inr (7, [Value.ref h0_world, Value.ref h0_diary, Value.ref h0_asker, Value.int h0_done, Value.int h0_latest])), (h0_diary_whose, Sum.inl (cs 0, 16, Sum.inl f_h0_diary_whose)), (h0_diary_deed, Sum.inl (cs 0, 16, Sum.inl f_h0_diary_deed)), (h0_world, Sum.inr (10, [Value.ref h0_world_rock, Value.ref h0_world_crew, Value.ref h0_world_folk, Value.ref h0_world_term, Value.ref h0_world_laws, Value.int h0_world_lawCount, Value.int h0_world_force])), (h0_world_crew, Sum.inr (1, [Value.ref h0_world_crew_cell, Value.ref h0_world_crew_buckets, Value.int h0_world_crew_count])), (h0_world_crew_cell, Sum.inl (cs 0, 6, Sum.inl f_h0_world_crew_cell)), (h0_world_rock, Sum.inr (6, [Value.ref h0_world_rock_kind, Value.ref h0_world_rock_hard, Value.ref h0_world_rock_water, Value.long h0_world_rock_dug])), (h0_diary_before, Sum.inl (cs 0, 16, Sum.inl f_h0_diary_before)), (h0_diary_dayBefore, Sum.inl (cs 0, 16, Sum.inl f_h0_diary_dayBefore)), (h0_world_term, Sum.inl (cs 0, 3, Sum.inl (upd f_h0_world_term 0 (f_h0_diary_dayBefore h0_diary_latest.toNatClampNeg)))), (h0_world_rock_water, Sum.inl (cs 0, 40, Sum.inl (upd f_h0_world_rock_water (f_h0_world_crew_cell (f_h0_diary_whose h0_diary_latest.toNatClampNeg).toNatClampNeg).toNatClampNeg (f_h0_diary_before h0_diary_latest.toNatClampNeg)))), (h0_diary_bucketsBefore, Sum.inl (cs 0, 16, Sum.inl f_h0_diary_bucketsBefore)), (h0_world_crew_buckets, Sum.inl (cs 0, 6, Sum.inl (upd f_h0_world_crew_buckets (f_h0_diary_whose h0_diary_latest.toNatClampNeg).toNatClampNeg (f_h0_diary_bucketsBefore h0_diary_latest.toNatClampNeg)))), (h0_world_folk, Sum.inr (4, [Value.ref h0_world_folk_column, Value.ref h0_world_folk_ear, Value.int h0_world_folk_listeners, Value.ref h0_world_folk_noiseColumn, Value.ref h0_world_folk_noiseLoud, Value.int h0_world_folk_noises, Value.int h0_world_folk_hushed, Value.ref h0_world_folk_hearsayColumn, Value.ref h0_world_folk_hearsayLoud, Value.int h0_world_folk_hearsay, Value.ref h0_world_folk_sounds, Value.ref h0_world_folk_wet, Value.int h0_world_folk_wells])), (h0_world_folk_column, Sum.inl (cs 0, 5, Sum.inl f_h0_world_folk_column)), (h0_diary, Sum.inr (2, [Value.ref h0_diary_deed, Value.ref h0_diary_whose, Value.ref h0_diary_before, Value.ref h0_diary_bucketsBefore, Value.ref h0_diary_dayBefore, Value.int u_45_0, Value.int u_45_1]))] rfl hD
      refine lv_goto (tgt := 258) hx hb dX7_takeBack_211 (by decide) ?_
      refine lv_iload_n hx hb dX7_takeBack_258 rfl (lv_at hl 0 rfl) ?_
      obtain ⟨hP9, hD9⟩ := PD_pk hP hD [(h0, Sum.inr (7, [Value.ref h0_world, Value.ref h0_diary, Value.ref h0_asker, Value.int h0_done, Value.int h0_latest])), (h0_diary, Sum.inr (2, [Value.ref h0_diary_deed, Value.ref h0_diary_whose, Value.ref h0_diary_before, Value.ref h0_diary_bucketsBefore, Value.ref h0_diary_dayBefore, Value.int u_45_0, Value.int u_45_1])), (h0_diary_whose, Sum.inl (cs 0, 16, Sum.inl f_h0_diary_whose)), (h0_diary_deed, Sum.inl (cs 0, 16, Sum.inl f_h0_diary_deed)), (h0_world, Sum.inr (10, [Value.ref h0_world_rock, Value.ref h0_world_crew, Value.ref h0_world_folk, Value.ref h0_world_term, Value.ref h0_world_laws, Value.int h0_world_lawCount, Value.int h0_world_force])), (h0_world_crew, Sum.inr (1, [Value.ref h0_world_crew_cell, Value.ref h0_world_crew_buckets, Value.int h0_world_crew_count])), (h0_world_crew_cell, Sum.inl (cs 0, 6, Sum.inl f_h0_world_crew_cell)), (h0_world_rock, Sum.inr (6, [Value.ref h0_world_rock_kind, Value.ref h0_world_rock_hard, Value.ref h0_world_rock_water, Value.long h0_world_rock_dug])), (h0_diary_before, Sum.inl (cs 0, 16, Sum.inl f_h0_diary_before)), (h0_diary_dayBefore, Sum.inl (cs 0, 16, Sum.inl f_h0_diary_dayBefore)), (h0_world_term, Sum.inl (cs 0, 3, Sum.inl (upd f_h0_world_term 0 (f_h0_diary_dayBefore h0_diary_latest.toNatClampNeg)))), (h0_world_rock_water, Sum.inl (cs 0, 40, Sum.inl (upd f_h0_world_rock_water (f_h0_world_crew_cell (f_h0_diary_whose h0_diary_latest.toNatClampNeg).toNatClampNeg).toNatClampNeg (f_h0_diary_before h0_diary_latest.toNatClampNeg)))), (h0_diary_bucketsBefore, Sum.inl (cs 0, 16, Sum.inl f_h0_diary_bucketsBefore)), (h0_world_crew_buckets, Sum.inl (cs 0, 6, Sum.inl (upd f_h0_world_crew_buckets (f_h0_diary_whose h0_diary_latest.toNatClampNeg).toNatClampNeg (f_h0_diary_bucketsBefore h0_diary_latest.toNatClampNeg)))), (h0_world_folk, Sum.inr (4, [Value.ref h0_world_folk_column, Value.ref h0_world_folk_ear, Value.int h0_world_folk_listeners, Value.ref h0_world_folk_noiseColumn, Value.ref h0_world_folk_noiseLoud, Value.int h0_world_folk_noises, Value.int h0_world_folk_hushed, Value.ref h0_world_folk_hearsayColumn, Value.ref h0_world_folk_hearsayLoud, Value.int h0_world_folk_hearsay, Value.ref h0_world_folk_sounds, Value.ref h0_world_folk_wet, Value.int h0_world_folk_wells])), (h0_world_folk_column, Sum.inl (cs 0, 5, Sum.inl f_h0_world_folk_column))] [0, 15, 1, 2, 3, 4, 5, 6, 7, 8, 9, 10, 11, 12, 13, 14] rfl rfl
      exact W.iret (v := (f_h0_diary_deed h0_diary_latest.toNatClampNeg)) hx hb hr (fun t ht hW => ⟨⟨(f_h0_diary_deed h0_diary_latest.toNatClampNeg), (u_45_0, u_45_1, f_h0_world_crew_cell, h0_world_rock_dug, (upd f_h0_world_term 0 (f_h0_diary_dayBefore h0_diary_latest.toNatClampNeg)), (upd f_h0_world_rock_water (f_h0_world_crew_cell (f_h0_diary_whose h0_diary_latest.toNatClampNeg).toNatClampNeg).toNatClampNeg (f_h0_diary_before h0_diary_latest.toNatClampNeg)), (upd f_h0_world_crew_buckets (f_h0_diary_whose h0_diary_latest.toNatClampNeg).toNatClampNeg (f_h0_diary_bucketsBefore h0_diary_latest.toNatClampNeg)), h0_world_folk_hushed, f_h0_world_folk_column), rfl, h, ⟨by rw [ht]; exact hP9, va_K.moved hW.alike hK, hD9⟩⟩, hS.F ht⟩) hS.2.2 dX7_takeBack_259
    replace h := ok_f h s_49_1
    by_cases s_49_2 : (f_h0_diary_deed h0_diary_latest.toNatClampNeg) = 2
    · replace h := ok_t h s_49_2
      refine lv_tableIn (off := 165) (tgt := 214) hx hb dX7_takeBack_49 (by rw [s_49_2]; decide) (by rw [s_49_2]; decide) (by rw [s_49_2]; decide) (by decide) ?_
      refine lv_aload_n hx hb dX7_takeBack_214 rfl (lv_at hl 3 rfl) ?_
      refine va_get (ci := 7) (v := Value.ref h0_world) (C := RX7) (T := TX7) (N := 5) hx hb htl inX7 hown hK hP 0 rfl rfl 0 (by decide) (htl _ fl_RX7_12) (fun _ h9 => h9) rfl dX7_takeBack_215 ?_
      refine va_get (ci := 10) (v := Value.ref h0_world_folk) (C := RX10) (T := TX10) (N := 7) hx hb htl inX10 hown hK hP 3 rfl rfl 2 (by decide) (htl _ fl_RX7_115) (fun _ h9 => h9) rfl dX7_takeBack_218 ?_
      refine lv_dup hx hb dX7_takeBack_221 rfl ?_
      refine va_get (ci := 4) (v := Value.int h0_world_folk_hushed) (C := RX4) (T := TX4) (N := 13) hx hb htl inX4 hown hK hP 13 rfl rfl 6 (by decide) (htl _ fl_RX7_124) (fun _ h9 => h9) rfl dX7_takeBack_222 ?_
      refine lv_iconst (v := 1) hx hb dX7_takeBack_225 (by decide) ?_
      refine lv_iload_n hx hb dX7_takeBack_226 rfl (lv_at hl 1 rfl) ?_
      refine lv_ishl hx hb dX7_takeBack_227 ?_
      refine lv_iconst (v := (-1)) hx hb dX7_takeBack_228 (by decide) ?_
      refine lv_ixor hx hb dX7_takeBack_229 ?_
      refine lv_iand hx hb dX7_takeBack_230 ?_
      refine va_put (ci := 4) (v := Value.int (h0_world_folk_hushed &&& (((1 : Int32) <<< ((f_h0_diary_whose h0_diary_latest.toNatClampNeg) &&& 31)) ^^^ (-1)))) (ty := .int) (C := RX4) (T := TX4) (N := 13) hx hb htl inX4 tyX4 tyX4_ok nmX4 hown hK hP hD hS 13 rfl rfl 6 (by decide) (htl _ fl_RX7_124) (fun _ h9 => h9) rfl (by decide +kernel) (by first | rfl | decide) (by first | rfl | decide) (Nat.le_of_ble_eq_true rfl) dX7_takeBack_231 (fun H locs hP hD hS => ?_)
      obtain ⟨hP, hD⟩ := PD_as hP [(h0, Sum.inr (7, [Value.ref h0_world, Value.ref h0_diary, Value.ref h0_asker, Value.int h0_done, Value.int h0_latest])), (h0_diary_whose, Sum.inl (cs 0, 16, Sum.inl f_h0_diary_whose)), (h0_diary_deed, Sum.inl (cs 0, 16, Sum.inl f_h0_diary_deed)), (h0_world, Sum.inr (10, [Value.ref h0_world_rock, Value.ref h0_world_crew, Value.ref h0_world_folk, Value.ref h0_world_term, Value.ref h0_world_laws, Value.int h0_world_lawCount, Value.int h0_world_force])), (h0_world_crew, Sum.inr (1, [Value.ref h0_world_crew_cell, Value.ref h0_world_crew_buckets, Value.int h0_world_crew_count])), (h0_world_crew_cell, Sum.inl (cs 0, 6, Sum.inl f_h0_world_crew_cell)), (h0_world_rock, Sum.inr (6, [Value.ref h0_world_rock_kind, Value.ref h0_world_rock_hard, Value.ref h0_world_rock_water, Value.long h0_world_rock_dug])), (h0_diary_before, Sum.inl (cs 0, 16, Sum.inl f_h0_diary_before)), (h0_diary_dayBefore, Sum.inl (cs 0, 16, Sum.inl f_h0_diary_dayBefore)), (h0_world_term, Sum.inl (cs 0, 3, Sum.inl f_h0_world_term)), (h0_world_rock_water, Sum.inl (cs 0, 40, Sum.inl f_h0_world_rock_water)), (h0_diary_bucketsBefore, Sum.inl (cs 0, 16, Sum.inl f_h0_diary_bucketsBefore)), (h0_world_crew_buckets, Sum.inl (cs 0, 6, Sum.inl f_h0_world_crew_buckets)), (h0_world_folk, Sum.inr (4, [Value.ref h0_world_folk_column, Value.ref h0_world_folk_ear, Value.int h0_world_folk_listeners, Value.ref h0_world_folk_noiseColumn, Value.ref h0_world_folk_noiseLoud, Value.int h0_world_folk_noises, Value.int (h0_world_folk_hushed &&& (((1 : Int32) <<< ((f_h0_diary_whose h0_diary_latest.toNatClampNeg) &&& 31)) ^^^ (-1))), Value.ref h0_world_folk_hearsayColumn, Value.ref h0_world_folk_hearsayLoud, Value.int h0_world_folk_hearsay, Value.ref h0_world_folk_sounds, Value.ref h0_world_folk_wet, Value.int h0_world_folk_wells])), (h0_world_folk_column, Sum.inl (cs 0, 5, Sum.inl f_h0_world_folk_column)), (h0_diary, Sum.inr (2, [Value.ref h0_diary_deed, Value.ref h0_diary_whose, Value.ref h0_diary_before, Value.ref h0_diary_bucketsBefore, Value.ref h0_diary_dayBefore, Value.int u_45_0, Value.int u_45_1]))] rfl hD
      refine lv_goto (tgt := 258) hx hb dX7_takeBack_234 (by decide) ?_
      refine lv_iload_n hx hb dX7_takeBack_258 rfl (lv_at hl 0 rfl) ?_
      obtain ⟨hP9, hD9⟩ := PD_pk hP hD [(h0, Sum.inr (7, [Value.ref h0_world, Value.ref h0_diary, Value.ref h0_asker, Value.int h0_done, Value.int h0_latest])), (h0_diary, Sum.inr (2, [Value.ref h0_diary_deed, Value.ref h0_diary_whose, Value.ref h0_diary_before, Value.ref h0_diary_bucketsBefore, Value.ref h0_diary_dayBefore, Value.int u_45_0, Value.int u_45_1])), (h0_diary_whose, Sum.inl (cs 0, 16, Sum.inl f_h0_diary_whose)), (h0_diary_deed, Sum.inl (cs 0, 16, Sum.inl f_h0_diary_deed)), (h0_world, Sum.inr (10, [Value.ref h0_world_rock, Value.ref h0_world_crew, Value.ref h0_world_folk, Value.ref h0_world_term, Value.ref h0_world_laws, Value.int h0_world_lawCount, Value.int h0_world_force])), (h0_world_crew, Sum.inr (1, [Value.ref h0_world_crew_cell, Value.ref h0_world_crew_buckets, Value.int h0_world_crew_count])), (h0_world_crew_cell, Sum.inl (cs 0, 6, Sum.inl f_h0_world_crew_cell)), (h0_world_rock, Sum.inr (6, [Value.ref h0_world_rock_kind, Value.ref h0_world_rock_hard, Value.ref h0_world_rock_water, Value.long h0_world_rock_dug])), (h0_diary_before, Sum.inl (cs 0, 16, Sum.inl f_h0_diary_before)), (h0_diary_dayBefore, Sum.inl (cs 0, 16, Sum.inl f_h0_diary_dayBefore)), (h0_world_term, Sum.inl (cs 0, 3, Sum.inl f_h0_world_term)), (h0_world_rock_water, Sum.inl (cs 0, 40, Sum.inl f_h0_world_rock_water)), (h0_diary_bucketsBefore, Sum.inl (cs 0, 16, Sum.inl f_h0_diary_bucketsBefore)), (h0_world_crew_buckets, Sum.inl (cs 0, 6, Sum.inl f_h0_world_crew_buckets)), (h0_world_folk, Sum.inr (4, [Value.ref h0_world_folk_column, Value.ref h0_world_folk_ear, Value.int h0_world_folk_listeners, Value.ref h0_world_folk_noiseColumn, Value.ref h0_world_folk_noiseLoud, Value.int h0_world_folk_noises, Value.int (h0_world_folk_hushed &&& (((1 : Int32) <<< ((f_h0_diary_whose h0_diary_latest.toNatClampNeg) &&& 31)) ^^^ (-1))), Value.ref h0_world_folk_hearsayColumn, Value.ref h0_world_folk_hearsayLoud, Value.int h0_world_folk_hearsay, Value.ref h0_world_folk_sounds, Value.ref h0_world_folk_wet, Value.int h0_world_folk_wells])), (h0_world_folk_column, Sum.inl (cs 0, 5, Sum.inl f_h0_world_folk_column))] [0, 15, 1, 2, 3, 4, 5, 6, 7, 8, 9, 10, 11, 12, 13, 14] rfl rfl
      exact W.iret (v := (f_h0_diary_deed h0_diary_latest.toNatClampNeg)) hx hb hr (fun t ht hW => ⟨⟨(f_h0_diary_deed h0_diary_latest.toNatClampNeg), (u_45_0, u_45_1, f_h0_world_crew_cell, h0_world_rock_dug, f_h0_world_term, f_h0_world_rock_water, f_h0_world_crew_buckets, (h0_world_folk_hushed &&& (((1 : Int32) <<< ((f_h0_diary_whose h0_diary_latest.toNatClampNeg) &&& 31)) ^^^ (-1))), f_h0_world_folk_column), rfl, h, ⟨by rw [ht]; exact hP9, va_K.moved hW.alike hK, hD9⟩⟩, hS.F ht⟩) hS.2.2 dX7_takeBack_259
    replace h := ok_f h s_49_2
    refine lv_tableOut (tgt := 237) hx hb dX7_takeBack_49 (by have t0 := lv_neT (a := 0) s_49_0 rfl; have t1 := lv_neT (a := 1) s_49_1 rfl; have t2 := lv_neT (a := 2) s_49_2 rfl; omega) (by decide) ?_
    refine lv_aload_n hx hb dX7_takeBack_237 rfl (lv_at hl 3 rfl) ?_
    refine va_get (ci := 7) (v := Value.ref h0_world) (C := RX7) (T := TX7) (N := 5) hx hb htl inX7 hown hK hP 0 rfl rfl 0 (by decide) (htl _ fl_RX7_12) (fun _ h9 => h9) rfl dX7_takeBack_238 ?_
    refine va_get (ci := 10) (v := Value.ref h0_world_folk) (C := RX10) (T := TX10) (N := 7) hx hb htl inX10 hown hK hP 3 rfl rfl 2 (by decide) (htl _ fl_RX7_115) (fun _ h9 => h9) rfl dX7_takeBack_241 ?_
    refine va_get (ci := 4) (v := Value.ref h0_world_folk_column) (C := RX4) (T := TX4) (N := 13) hx hb htl inX4 hown hK hP 13 rfl rfl 0 (by decide) (htl _ fl_RX7_136) (fun _ h9 => h9) rfl dX7_takeBack_244 ?_
    refine lv_iload_n hx hb dX7_takeBack_247 rfl (lv_at hl 1 rfl) ?_
    refine lv_aload_n hx hb dX7_takeBack_248 rfl (lv_at hl 3 rfl) ?_
    refine va_get (ci := 7) (v := Value.ref h0_diary) (C := RX7) (T := TX7) (N := 5) hx hb htl inX7 hown hK hP 0 rfl rfl 1 (by decide) (htl _ fl_RX7_21) (fun _ h9 => h9) rfl dX7_takeBack_249 ?_
    refine va_get (ci := 2) (v := Value.ref h0_diary_before) (C := RX2) (T := TX2) (N := 7) hx hb htl inX2 hown hK hP 15 rfl rfl 2 (by decide) (htl _ fl_RX7_157) (fun _ h9 => h9) rfl dX7_takeBack_252 ?_
    refine lv_iload_n hx hb dX7_takeBack_255 rfl (lv_at hl 2 rfl) ?_
    obtain ⟨hq_13, h⟩ := h
    refine va_iald hx hb hK hP 7 0 rfl rfl hq_13 dX7_takeBack_256 ?_
    obtain ⟨hq_14, h⟩ := h
    refine va_iast hx hb hK hP hD hS 14 0 rfl rfl hq_14 dX7_takeBack_257 (fun H locs hP hD hS => ?_)
    obtain ⟨hP, hD⟩ := PD_as hP [(h0, Sum.inr (7, [Value.ref h0_world, Value.ref h0_diary, Value.ref h0_asker, Value.int h0_done, Value.int h0_latest])), (h0_diary_whose, Sum.inl (cs 0, 16, Sum.inl f_h0_diary_whose)), (h0_diary_deed, Sum.inl (cs 0, 16, Sum.inl f_h0_diary_deed)), (h0_world, Sum.inr (10, [Value.ref h0_world_rock, Value.ref h0_world_crew, Value.ref h0_world_folk, Value.ref h0_world_term, Value.ref h0_world_laws, Value.int h0_world_lawCount, Value.int h0_world_force])), (h0_world_crew, Sum.inr (1, [Value.ref h0_world_crew_cell, Value.ref h0_world_crew_buckets, Value.int h0_world_crew_count])), (h0_world_crew_cell, Sum.inl (cs 0, 6, Sum.inl f_h0_world_crew_cell)), (h0_world_rock, Sum.inr (6, [Value.ref h0_world_rock_kind, Value.ref h0_world_rock_hard, Value.ref h0_world_rock_water, Value.long h0_world_rock_dug])), (h0_diary_before, Sum.inl (cs 0, 16, Sum.inl f_h0_diary_before)), (h0_diary_dayBefore, Sum.inl (cs 0, 16, Sum.inl f_h0_diary_dayBefore)), (h0_world_term, Sum.inl (cs 0, 3, Sum.inl f_h0_world_term)), (h0_world_rock_water, Sum.inl (cs 0, 40, Sum.inl f_h0_world_rock_water)), (h0_diary_bucketsBefore, Sum.inl (cs 0, 16, Sum.inl f_h0_diary_bucketsBefore)), (h0_world_crew_buckets, Sum.inl (cs 0, 6, Sum.inl f_h0_world_crew_buckets)), (h0_world_folk, Sum.inr (4, [Value.ref h0_world_folk_column, Value.ref h0_world_folk_ear, Value.int h0_world_folk_listeners, Value.ref h0_world_folk_noiseColumn, Value.ref h0_world_folk_noiseLoud, Value.int h0_world_folk_noises, Value.int h0_world_folk_hushed, Value.ref h0_world_folk_hearsayColumn, Value.ref h0_world_folk_hearsayLoud, Value.int h0_world_folk_hearsay, Value.ref h0_world_folk_sounds, Value.ref h0_world_folk_wet, Value.int h0_world_folk_wells])), (h0_world_folk_column, Sum.inl (cs 0, 5, Sum.inl (upd f_h0_world_folk_column (f_h0_diary_whose h0_diary_latest.toNatClampNeg).toNatClampNeg (f_h0_diary_before h0_diary_latest.toNatClampNeg)))), (h0_diary, Sum.inr (2, [Value.ref h0_diary_deed, Value.ref h0_diary_whose, Value.ref h0_diary_before, Value.ref h0_diary_bucketsBefore, Value.ref h0_diary_dayBefore, Value.int u_45_0, Value.int u_45_1]))] rfl hD
    refine lv_iload_n hx hb dX7_takeBack_258 rfl (lv_at hl 0 rfl) ?_
    obtain ⟨hP9, hD9⟩ := PD_pk hP hD [(h0, Sum.inr (7, [Value.ref h0_world, Value.ref h0_diary, Value.ref h0_asker, Value.int h0_done, Value.int h0_latest])), (h0_diary, Sum.inr (2, [Value.ref h0_diary_deed, Value.ref h0_diary_whose, Value.ref h0_diary_before, Value.ref h0_diary_bucketsBefore, Value.ref h0_diary_dayBefore, Value.int u_45_0, Value.int u_45_1])), (h0_diary_whose, Sum.inl (cs 0, 16, Sum.inl f_h0_diary_whose)), (h0_diary_deed, Sum.inl (cs 0, 16, Sum.inl f_h0_diary_deed)), (h0_world, Sum.inr (10, [Value.ref h0_world_rock, Value.ref h0_world_crew, Value.ref h0_world_folk, Value.ref h0_world_term, Value.ref h0_world_laws, Value.int h0_world_lawCount, Value.int h0_world_force])), (h0_world_crew, Sum.inr (1, [Value.ref h0_world_crew_cell, Value.ref h0_world_crew_buckets, Value.int h0_world_crew_count])), (h0_world_crew_cell, Sum.inl (cs 0, 6, Sum.inl f_h0_world_crew_cell)), (h0_world_rock, Sum.inr (6, [Value.ref h0_world_rock_kind, Value.ref h0_world_rock_hard, Value.ref h0_world_rock_water, Value.long h0_world_rock_dug])), (h0_diary_before, Sum.inl (cs 0, 16, Sum.inl f_h0_diary_before)), (h0_diary_dayBefore, Sum.inl (cs 0, 16, Sum.inl f_h0_diary_dayBefore)), (h0_world_term, Sum.inl (cs 0, 3, Sum.inl f_h0_world_term)), (h0_world_rock_water, Sum.inl (cs 0, 40, Sum.inl f_h0_world_rock_water)), (h0_diary_bucketsBefore, Sum.inl (cs 0, 16, Sum.inl f_h0_diary_bucketsBefore)), (h0_world_crew_buckets, Sum.inl (cs 0, 6, Sum.inl f_h0_world_crew_buckets)), (h0_world_folk, Sum.inr (4, [Value.ref h0_world_folk_column, Value.ref h0_world_folk_ear, Value.int h0_world_folk_listeners, Value.ref h0_world_folk_noiseColumn, Value.ref h0_world_folk_noiseLoud, Value.int h0_world_folk_noises, Value.int h0_world_folk_hushed, Value.ref h0_world_folk_hearsayColumn, Value.ref h0_world_folk_hearsayLoud, Value.int h0_world_folk_hearsay, Value.ref h0_world_folk_sounds, Value.ref h0_world_folk_wet, Value.int h0_world_folk_wells])), (h0_world_folk_column, Sum.inl (cs 0, 5, Sum.inl (upd f_h0_world_folk_column (f_h0_diary_whose h0_diary_latest.toNatClampNeg).toNatClampNeg (f_h0_diary_before h0_diary_latest.toNatClampNeg))))] [0, 15, 1, 2, 3, 4, 5, 6, 7, 8, 9, 10, 11, 12, 13, 14] rfl rfl
    exact W.iret (v := (f_h0_diary_deed h0_diary_latest.toNatClampNeg)) hx hb hr (fun t ht hW => ⟨⟨(f_h0_diary_deed h0_diary_latest.toNatClampNeg), (u_45_0, u_45_1, f_h0_world_crew_cell, h0_world_rock_dug, f_h0_world_term, f_h0_world_rock_water, f_h0_world_crew_buckets, h0_world_folk_hushed, (upd f_h0_world_folk_column (f_h0_diary_whose h0_diary_latest.toNatClampNeg).toNatClampNeg (f_h0_diary_before h0_diary_latest.toNatClampNeg))), rfl, h, ⟨by rw [ht]; exact hP9, va_K.moved hW.alike hK, hD9⟩⟩, hS.F ht⟩) hS.2.2 dX7_takeBack_259
  · replace h := ok_t h c_7
    refine lv_bipush (v := (-3)) hx hb dX7_takeBack_10 (by decide) ?_
    obtain ⟨hP9, hD9⟩ := PD_pk hP hD [(h0, Sum.inr (7, [Value.ref h0_world, Value.ref h0_diary, Value.ref h0_asker, Value.int h0_done, Value.int h0_latest])), (h0_diary, Sum.inr (2, [Value.ref h0_diary_deed, Value.ref h0_diary_whose, Value.ref h0_diary_before, Value.ref h0_diary_bucketsBefore, Value.ref h0_diary_dayBefore, Value.int h0_diary_kept, Value.int h0_diary_latest])), (h0_diary_whose, Sum.inl (cs 0, 16, Sum.inl f_h0_diary_whose)), (h0_diary_deed, Sum.inl (cs 0, 16, Sum.inl f_h0_diary_deed)), (h0_world, Sum.inr (10, [Value.ref h0_world_rock, Value.ref h0_world_crew, Value.ref h0_world_folk, Value.ref h0_world_term, Value.ref h0_world_laws, Value.int h0_world_lawCount, Value.int h0_world_force])), (h0_world_crew, Sum.inr (1, [Value.ref h0_world_crew_cell, Value.ref h0_world_crew_buckets, Value.int h0_world_crew_count])), (h0_world_crew_cell, Sum.inl (cs 0, 6, Sum.inl f_h0_world_crew_cell)), (h0_world_rock, Sum.inr (6, [Value.ref h0_world_rock_kind, Value.ref h0_world_rock_hard, Value.ref h0_world_rock_water, Value.long h0_world_rock_dug])), (h0_diary_before, Sum.inl (cs 0, 16, Sum.inl f_h0_diary_before)), (h0_diary_dayBefore, Sum.inl (cs 0, 16, Sum.inl f_h0_diary_dayBefore)), (h0_world_term, Sum.inl (cs 0, 3, Sum.inl f_h0_world_term)), (h0_world_rock_water, Sum.inl (cs 0, 40, Sum.inl f_h0_world_rock_water)), (h0_diary_bucketsBefore, Sum.inl (cs 0, 16, Sum.inl f_h0_diary_bucketsBefore)), (h0_world_crew_buckets, Sum.inl (cs 0, 6, Sum.inl f_h0_world_crew_buckets)), (h0_world_folk, Sum.inr (4, [Value.ref h0_world_folk_column, Value.ref h0_world_folk_ear, Value.int h0_world_folk_listeners, Value.ref h0_world_folk_noiseColumn, Value.ref h0_world_folk_noiseLoud, Value.int h0_world_folk_noises, Value.int h0_world_folk_hushed, Value.ref h0_world_folk_hearsayColumn, Value.ref h0_world_folk_hearsayLoud, Value.int h0_world_folk_hearsay, Value.ref h0_world_folk_sounds, Value.ref h0_world_folk_wet, Value.int h0_world_folk_wells])), (h0_world_folk_column, Sum.inl (cs 0, 5, Sum.inl f_h0_world_folk_column))] [0, 1, 2, 3, 4, 5, 6, 7, 8, 9, 10, 11, 12, 13, 14, 15] rfl rfl
    exact W.iret (v := (-3)) hx hb hr (fun t ht hW => ⟨⟨(-3), (h0_diary_kept, h0_diary_latest, f_h0_world_crew_cell, h0_world_rock_dug, f_h0_world_term, f_h0_world_rock_water, f_h0_world_crew_buckets, h0_world_folk_hushed, f_h0_world_folk_column), rfl, h, ⟨by rw [ht]; exact hP9, va_K.moved hW.alike hK, hD9⟩⟩, hS.F ht⟩) hS.2.2 dX7_takeBack_12
set_option maxHeartbeats 1000000 in
set_option maxRecDepth 100000 in
theorem g_X8_headOf (l : Launch) (G : va_G) (cs : Nat → ClassId) (h0 : Nat) (a : Int32) (b : Int32) (h0_heads : Nat) (h0_code : Nat) (h0_clauses : Int32) (h0_length : Int32) (n_h0_heads : Nat) (f_h0_heads : Nat → Int32) (Q : Int32 → Prop) (h : wp_X8_headOf a b n_h0_heads f_h0_heads Q) : Met l yX8_headOf (Cond.code yX8_headOf cX8_headOf 4 (some .int) :: gW) ({ frames := 0, cells := 0, slots := 0, locals := 0 }) (va_Pc [Value.ref h0, Value.int a, Value.int b] (PrS G cs [(h0, Sum.inr (8, [Value.ref h0_heads, Value.ref h0_code, Value.int h0_clauses, Value.int h0_length])), (h0_heads, Sum.inl (cs 0, n_h0_heads, Sum.inl f_h0_heads))])) (vp_Si (fun r => Q r)) 0 0 (fun _ => False) := by
  unfold wp_X8_headOf at h
  refine Met.ofW (cc := cX8_headOf) (maxL := 4) (ret := (some .int)) (by decide) rfl ?_
  intro p e s m args below meth c s₁ B hml hv
  obtain ⟨rfl, hP, hK, hN⟩ := hv
  have hx := B.exec
  have hb := B.bytes
  have hr := B.returns
  have hts := atoms_spec (ws := Cond.code yX8_headOf cX8_headOf 4 (some .int) :: gW) B.pre
  have htl : ∀ w ∈ gW, w.before _ s = true := fun w h => hts w (List.mem_cons_of_mem _ h)
  have hown : s.vm.findClass RX8 = some m.cls := findClass_of_methodNamed B.named
  have hlocks := B.notSynchronized
  have hl := lv_entry ([Value.ref h0, Value.int a, Value.int b]) (n := 4) (Nat.le_of_ble_eq_true rfl)
  rw [lg_entry_eq]
  generalize (lg_sl ([Value.ref h0, Value.int a, Value.int b]) ++ List.replicate (4 - (lg_sl ([Value.ref h0, Value.int a, Value.int b])).length) Slot.unset).toArray = ls at hl ⊢
  have hl : lv_has ls 4 [(0, Value.ref h0), (1, Value.int a), (2, Value.int b)] := hl
  refine lv_iconst (v := 5) hx hb dX8_headOf_0 (by decide) ?_
  refine lv_iload_n hx hb dX8_headOf_1 rfl (lv_at hl 1 rfl) ?_
  refine lv_imul hx hb dX8_headOf_2 ?_
  refine lv_iload_n hx hb dX8_headOf_3 rfl (lv_at hl 2 rfl) ?_
  refine lv_iadd hx hb dX8_headOf_4 ?_
  refine lv_istore_n hx hb dX8_headOf_5 rfl hl (by decide) (rfl : _ = ([(3, Value.int ((5 * a) + b)), (0, Value.ref h0), (1, Value.int a), (2, Value.int b)] : List (Nat × Value))) (fun ls hl => ?_)
  refine lv_iload_n hx hb dX8_headOf_6 rfl (lv_at hl 0 rfl) ?_
  refine lv_if_lt (tgt := 28) hx hb dX8_headOf_7 (by decide) (fun c_7 => ?_) (fun c_7 => ?_)
  · replace h := ok_t h c_7
    refine lv_iconst (v := (-1)) hx hb dX8_headOf_28 (by decide) ?_
    exact W.iret (v := (-1)) hx hb hr (fun t ht hW => ⟨(-1), rfl, h, ht⟩) (fun q h => by cases h) dX8_headOf_29
  · replace h := ok_f h c_7
    refine lv_iload_n hx hb dX8_headOf_10 rfl (lv_at hl 0 rfl) ?_
    refine lv_aload_n hx hb dX8_headOf_11 rfl (lv_at hl 1 rfl) ?_
    refine va_get (ci := 8) (v := Value.ref h0_heads) (C := RX8) (T := TX8) (N := 4) hx hb htl inX8 hown hK hP 0 rfl rfl 0 (by decide) (htl _ fl_RX8_17) (fun _ h9 => h9) rfl dX8_headOf_12 ?_
    refine va_alen (v := (Int32.ofNat n_h0_heads)) hx hb hK hP 1 0 rfl rfl rfl dX8_headOf_15 ?_
    refine lv_icmp_ge (tgt := 28) hx hb dX8_headOf_16 (by decide) (fun c_16 => ?_) (fun c_16 => ?_)
    · replace h := ok_t h c_16
      refine lv_iconst (v := (-1)) hx hb dX8_headOf_28 (by decide) ?_
      exact W.iret (v := (-1)) hx hb hr (fun t ht hW => ⟨(-1), rfl, h, ht⟩) (fun q h => by cases h) dX8_headOf_29
    · replace h := ok_f h c_16
      refine lv_aload_n hx hb dX8_headOf_19 rfl (lv_at hl 1 rfl) ?_
      refine va_get (ci := 8) (v := Value.ref h0_heads) (C := RX8) (T := TX8) (N := 4) hx hb htl inX8 hown hK hP 0 rfl rfl 0 (by decide) (htl _ fl_RX8_17) (fun _ h9 => h9) rfl dX8_headOf_20 ?_
      refine lv_iload_n hx hb dX8_headOf_23 rfl (lv_at hl 0 rfl) ?_
      obtain ⟨hq_1, h⟩ := h
      refine va_iald hx hb hK hP 1 0 rfl rfl hq_1 dX8_headOf_24 ?_
      refine lv_goto (tgt := 29) hx hb dX8_headOf_25 (by decide) ?_
      exact W.iret (v := (f_h0_heads ((5 * a) + b).toNatClampNeg)) hx hb hr (fun t ht hW => ⟨(f_h0_heads ((5 * a) + b).toNatClampNeg), rfl, h, ht⟩) (fun q h => by cases h) dX8_headOf_29
set_option maxHeartbeats 1000000 in
set_option maxRecDepth 100000 in
theorem g_X8_setHead (l : Launch) (G : va_G) (cs : Nat → ClassId) (h0 : Nat) (a : Int32) (b : Int32) (d : Int32) (h0_heads : Nat) (h0_code : Nat) (h0_clauses : Int32) (h0_length : Int32) (n_h0_heads : Nat) (f_h0_heads : Nat → Int32) (sz : Nat) (Q : (Nat → Int32) → Prop) (h : wp_X8_setHead a b d n_h0_heads f_h0_heads Q) : Met l yX8_setHead (Cond.code yX8_setHead cX8_setHead 5 none :: gW) ({ frames := 0, cells := 0, slots := 0, locals := 0 }) (va_Pc [Value.ref h0, Value.int a, Value.int b, Value.int d] (Pre G cs [(h0, Sum.inr (8, [Value.ref h0_heads, Value.ref h0_code, Value.int h0_clauses, Value.int h0_length])), (h0_heads, Sum.inl (cs 0, n_h0_heads, Sum.inl f_h0_heads))] sz)) (va_Qv (fun (u : Nat → Int32) => Q u) (fun (u : Nat → Int32) t => Aft G cs (va_A [(h0, Sum.inr (8, [Value.ref h0_heads, Value.ref h0_code, Value.int h0_clauses, Value.int h0_length])), (h0_heads, Sum.inl (cs 0, n_h0_heads, Sum.inl f_h0_heads))] sz) [(h0, Sum.inr (8, [Value.ref h0_heads, Value.ref h0_code, Value.int h0_clauses, Value.int h0_length])), (h0_heads, Sum.inl (cs 0, n_h0_heads, Sum.inl u))] t) (va_A [(h0, Sum.inr (8, [Value.ref h0_heads, Value.ref h0_code, Value.int h0_clauses, Value.int h0_length])), (h0_heads, Sum.inl (cs 0, n_h0_heads, Sum.inl f_h0_heads))] sz)) 0 0 (va_A [(h0, Sum.inr (8, [Value.ref h0_heads, Value.ref h0_code, Value.int h0_clauses, Value.int h0_length])), (h0_heads, Sum.inl (cs 0, n_h0_heads, Sum.inl f_h0_heads))] sz) := by
  unfold wp_X8_setHead at h
  refine Met.ofW (cc := cX8_setHead) (maxL := 5) (ret := none) (by decide) rfl ?_
  intro p e s m args below meth c s₁ B hml hv
  obtain ⟨rfl, hsz, hP, hK, hD0, hN⟩ := hv
  have hx := B.exec
  have hb := B.bytes
  have hr := B.returns
  have hts := atoms_spec (ws := Cond.code yX8_setHead cX8_setHead 5 none :: gW) B.pre
  have htl : ∀ w ∈ gW, w.before _ s = true := fun w h => hts w (List.mem_cons_of_mem _ h)
  have hown : s.vm.findClass RX8 = some m.cls := findClass_of_methodNamed B.named
  have hlocks := B.notSynchronized
  subst hsz
  have hD := hD0.self (sz := s.heap.size)
  generalize hAe : va_A [(h0, Sum.inr (8, [Value.ref h0_heads, Value.ref h0_code, Value.int h0_clauses, Value.int h0_length])), (h0_heads, Sum.inl (cs 0, n_h0_heads, Sum.inl f_h0_heads))] s.heap.size = A at hD ⊢
  have hA : ∀ q : Nat, s.heap.size ≤ q → A q := fun q h => by rw [← hAe]; exact Or.inr h
  have hS : va_S A s.heap s.heap [] := va_S.rf
  have hl := lv_entry ([Value.ref h0, Value.int a, Value.int b, Value.int d]) (n := 5) (Nat.le_of_ble_eq_true rfl)
  rw [lg_entry_eq]
  generalize (lg_sl ([Value.ref h0, Value.int a, Value.int b, Value.int d]) ++ List.replicate (5 - (lg_sl ([Value.ref h0, Value.int a, Value.int b, Value.int d])).length) Slot.unset).toArray = ls at hl ⊢
  have hl : lv_has ls 5 [(0, Value.ref h0), (1, Value.int a), (2, Value.int b), (3, Value.int d)] := hl
  refine lv_iconst (v := 5) hx hb dX8_setHead_0 (by decide) ?_
  refine lv_iload_n hx hb dX8_setHead_1 rfl (lv_at hl 1 rfl) ?_
  refine lv_imul hx hb dX8_setHead_2 ?_
  refine lv_iload_n hx hb dX8_setHead_3 rfl (lv_at hl 2 rfl) ?_
  refine lv_iadd hx hb dX8_setHead_4 ?_
  refine lv_istore hx hb dX8_setHead_5 hl (by decide) (rfl : _ = ([(4, Value.int ((5 * a) + b)), (0, Value.ref h0), (1, Value.int a), (2, Value.int b), (3, Value.int d)] : List (Nat × Value))) (fun ls hl => ?_)
  refine lv_iload hx hb dX8_setHead_7 (lv_at hl 0 rfl) ?_
  refine lv_if_lt (tgt := 30) hx hb dX8_setHead_9 (by decide) (fun c_9 => ?_) (fun c_9 => ?_)
  · replace h := ok_t h c_9
    obtain ⟨hP9, hD9⟩ := PD_pk hP hD [(h0, Sum.inr (8, [Value.ref h0_heads, Value.ref h0_code, Value.int h0_clauses, Value.int h0_length])), (h0_heads, Sum.inl (cs 0, n_h0_heads, Sum.inl f_h0_heads))] [0, 1] rfl rfl
    exact W.vret hx hb hr (fun t ht hW => ⟨⟨f_h0_heads, rfl, h, ⟨by rw [ht]; exact hP9, va_K.moved hW.alike hK, hD9⟩⟩, hS.F ht⟩) hS.2.2 dX8_setHead_30
  · replace h := ok_f h c_9
    refine lv_iload hx hb dX8_setHead_12 (lv_at hl 0 rfl) ?_
    refine lv_aload_n hx hb dX8_setHead_14 rfl (lv_at hl 1 rfl) ?_
    refine va_get (ci := 8) (v := Value.ref h0_heads) (C := RX8) (T := TX8) (N := 4) hx hb htl inX8 hown hK hP 0 rfl rfl 0 (by decide) (htl _ fl_RX8_17) (fun _ h9 => h9) rfl dX8_setHead_15 ?_
    refine va_alen (v := (Int32.ofNat n_h0_heads)) hx hb hK hP 1 0 rfl rfl rfl dX8_setHead_18 ?_
    refine lv_icmp_ge (tgt := 30) hx hb dX8_setHead_19 (by decide) (fun c_19 => ?_) (fun c_19 => ?_)
    · replace h := ok_t h c_19
      obtain ⟨hP9, hD9⟩ := PD_pk hP hD [(h0, Sum.inr (8, [Value.ref h0_heads, Value.ref h0_code, Value.int h0_clauses, Value.int h0_length])), (h0_heads, Sum.inl (cs 0, n_h0_heads, Sum.inl f_h0_heads))] [0, 1] rfl rfl
      exact W.vret hx hb hr (fun t ht hW => ⟨⟨f_h0_heads, rfl, h, ⟨by rw [ht]; exact hP9, va_K.moved hW.alike hK, hD9⟩⟩, hS.F ht⟩) hS.2.2 dX8_setHead_30
    · replace h := ok_f h c_19
      refine lv_aload_n hx hb dX8_setHead_22 rfl (lv_at hl 1 rfl) ?_
      refine va_get (ci := 8) (v := Value.ref h0_heads) (C := RX8) (T := TX8) (N := 4) hx hb htl inX8 hown hK hP 0 rfl rfl 0 (by decide) (htl _ fl_RX8_17) (fun _ h9 => h9) rfl dX8_setHead_23 ?_
      refine lv_iload hx hb dX8_setHead_26 (lv_at hl 0 rfl) ?_
      refine lv_iload_n hx hb dX8_setHead_28 rfl (lv_at hl 4 rfl) ?_
      obtain ⟨hq_1, h⟩ := h
      refine va_iast hx hb hK hP hD hS 1 0 rfl rfl hq_1 dX8_setHead_29 (fun H locs hP hD hS => ?_)
      obtain ⟨hP, hD⟩ := PD_as hP [(h0, Sum.inr (8, [Value.ref h0_heads, Value.ref h0_code, Value.int h0_clauses, Value.int h0_length])), (h0_heads, Sum.inl (cs 0, n_h0_heads, Sum.inl (upd f_h0_heads ((5 * a) + b).toNatClampNeg d)))] rfl hD
      obtain ⟨hP9, hD9⟩ := PD_pk hP hD [(h0, Sum.inr (8, [Value.ref h0_heads, Value.ref h0_code, Value.int h0_clauses, Value.int h0_length])), (h0_heads, Sum.inl (cs 0, n_h0_heads, Sum.inl (upd f_h0_heads ((5 * a) + b).toNatClampNeg d)))] [0, 1] rfl rfl
      exact W.vret hx hb hr (fun t ht hW => ⟨⟨(upd f_h0_heads ((5 * a) + b).toNatClampNeg d), rfl, h, ⟨by rw [ht]; exact hP9, va_K.moved hW.alike hK, hD9⟩⟩, hS.F ht⟩) hS.2.2 dX8_setHead_30
set_option maxHeartbeats 1000000 in
set_option maxRecDepth 100000 in
theorem g_X9_daysBy (l : Launch) (G : va_G) (cs : Nat → ClassId) (h0 : Nat) (a : Int32) (b : Int32) (h0_cost : Nat) (h0_endsWay : Nat) (h0_left : Nat) (h0_path : Nat) (h0_steps : Int32) (h0_days : Int32) (h0_told : Nat) (h0_price : Nat) (h0_fewest : Nat) (h0_cellOfShaft : Nat) (h0_chance : Nat) (f_h0_cost : Nat → Int32) (f_h0_left : Nat → Int32) (f_h0_endsWay : Nat → Int32) (Q : Int32 → Prop) (h : wp_X9_daysBy a b f_h0_cost f_h0_left f_h0_endsWay Q) : Met l yX9_daysBy (Cond.code yX9_daysBy cX9_daysBy 3 (some .int) :: gW) ({ frames := 0, cells := 0, slots := 0, locals := 0 }) (va_Pc [Value.ref h0, Value.int a, Value.int b] (PrS G cs [(h0, Sum.inr (9, [Value.ref h0_cost, Value.ref h0_endsWay, Value.ref h0_left, Value.ref h0_path, Value.int h0_steps, Value.int h0_days, Value.ref h0_told, Value.ref h0_price, Value.ref h0_fewest, Value.ref h0_cellOfShaft, Value.ref h0_chance])), (h0_cost, Sum.inl (cs 0, 40, Sum.inl f_h0_cost)), (h0_left, Sum.inl (cs 0, 40, Sum.inl f_h0_left)), (h0_endsWay, Sum.inl (cs 2, 40, Sum.inl f_h0_endsWay))])) (vp_Si (fun r => Q r)) 0 0 (fun _ => False) := by
  unfold wp_X9_daysBy at h
  refine Met.ofW (cc := cX9_daysBy) (maxL := 3) (ret := (some .int)) (by decide) rfl ?_
  intro p e s m args below meth c s₁ B hml hv
  obtain ⟨rfl, hP, hK, hN⟩ := hv
  have hx := B.exec
  have hb := B.bytes
  have hr := B.returns
  have hts := atoms_spec (ws := Cond.code yX9_daysBy cX9_daysBy 3 (some .int) :: gW) B.pre
  have htl : ∀ w ∈ gW, w.before _ s = true := fun w h => hts w (List.mem_cons_of_mem _ h)
  have hown : s.vm.findClass RX9 = some m.cls := findClass_of_methodNamed B.named
  have hlocks := B.notSynchronized
  have hl := lv_entry ([Value.ref h0, Value.int a, Value.int b]) (n := 3) (Nat.le_of_ble_eq_true rfl)
  rw [lg_entry_eq]
  generalize (lg_sl ([Value.ref h0, Value.int a, Value.int b]) ++ List.replicate (3 - (lg_sl ([Value.ref h0, Value.int a, Value.int b])).length) Slot.unset).toArray = ls at hl ⊢
  have hl : lv_has ls 3 [(0, Value.ref h0), (1, Value.int a), (2, Value.int b)] := hl
  refine lv_iload_n hx hb dX9_daysBy_0 rfl (lv_at hl 1 rfl) ?_
  refine lv_if_lt (tgt := 30) hx hb dX9_daysBy_1 (by decide) (fun c_1 => ?_) (fun c_1 => ?_)
  · replace h := ok_t h c_1
    refine lv_ldc hx hb hown (htl _ ct_RX9_68) dX9_daysBy_30 ?_
    exact W.iret (v := 1000000) hx hb hr (fun t ht hW => ⟨1000000, rfl, h, ht⟩) (fun q h => by cases h) dX9_daysBy_32
  · replace h := ok_f h c_1
    refine lv_iload_n hx hb dX9_daysBy_4 rfl (lv_at hl 1 rfl) ?_
    refine lv_bipush (v := 40) hx hb dX9_daysBy_5 (by decide) ?_
    refine lv_icmp_ge (tgt := 30) hx hb dX9_daysBy_7 (by decide) (fun c_7 => ?_) (fun c_7 => ?_)
    · replace h := ok_t h c_7
      refine lv_ldc hx hb hown (htl _ ct_RX9_68) dX9_daysBy_30 ?_
      exact W.iret (v := 1000000) hx hb hr (fun t ht hW => ⟨1000000, rfl, h, ht⟩) (fun q h => by cases h) dX9_daysBy_32
    · replace h := ok_f h c_7
      refine lv_aload_n hx hb dX9_daysBy_10 rfl (lv_at hl 0 rfl) ?_
      refine va_get (ci := 9) (v := Value.ref h0_cost) (C := RX9) (T := TX9) (N := 11) hx hb htl inX9 hown hK hP 0 rfl rfl 0 (by decide) (htl _ fl_RX9_9) (fun _ h9 => h9) rfl dX9_daysBy_11 ?_
      refine lv_iload_n hx hb dX9_daysBy_14 rfl (lv_at hl 1 rfl) ?_
      obtain ⟨hq_1, h⟩ := h
      refine va_iald hx hb hK hP 1 0 rfl rfl hq_1 dX9_daysBy_15 ?_
      refine lv_if_eq (tgt := 30) hx hb dX9_daysBy_16 (by decide) (fun c_16 => ?_) (fun c_16 => ?_)
      · replace h := ok_t h c_16
        refine lv_ldc hx hb hown (htl _ ct_RX9_68) dX9_daysBy_30 ?_
        exact W.iret (v := 1000000) hx hb hr (fun t ht hW => ⟨1000000, rfl, h, ht⟩) (fun q h => by cases h) dX9_daysBy_32
      · replace h := ok_f h c_16
        refine lv_aload_n hx hb dX9_daysBy_19 rfl (lv_at hl 0 rfl) ?_
        refine va_get (ci := 9) (v := Value.ref h0_left) (C := RX9) (T := TX9) (N := 11) hx hb htl inX9 hown hK hP 0 rfl rfl 2 (by decide) (htl _ fl_RX9_19) (fun _ h9 => h9) rfl dX9_daysBy_20 ?_
        refine lv_iload_n hx hb dX9_daysBy_23 rfl (lv_at hl 1 rfl) ?_
        obtain ⟨hq_2, h⟩ := h
        refine va_iald hx hb hK hP 2 0 rfl rfl hq_2 dX9_daysBy_24 ?_
        refine lv_ldc hx hb hown (htl _ ct_RX9_68) dX9_daysBy_25 ?_
        refine lv_icmp_lt (tgt := 33) hx hb dX9_daysBy_27 (by decide) (fun c_27 => ?_) (fun c_27 => ?_)
        · replace h := ok_t h c_27
          refine lv_aload_n hx hb dX9_daysBy_33 rfl (lv_at hl 0 rfl) ?_
          refine va_get (ci := 9) (v := Value.ref h0_endsWay) (C := RX9) (T := TX9) (N := 11) hx hb htl inX9 hown hK hP 0 rfl rfl 1 (by decide) (htl _ fl_RX9_15) (fun _ h9 => h9) rfl dX9_daysBy_34 ?_
          refine lv_iload_n hx hb dX9_daysBy_37 rfl (lv_at hl 1 rfl) ?_
          obtain ⟨hq_3, h⟩ := h
          refine va_zald hx hb hK hP 3 2 rfl rfl hq_3 dX9_daysBy_38 ?_
          obtain ⟨k_52, e_52, h⟩ := ex_j h
          refine jnS (nL := 3) (k := k_52) (J := 52) (fun (y_52 : Unit) => [(0, Value.ref h0), (1, Value.int a)]) (fun (y_52 : Unit) => []) (fun y_52 h ls hl => ?_) (fun K_52 => ?_)
          · rw [e_52] at h
            have hl : lv_has ls 3 [(0, Value.ref h0), (1, Value.int a)] := hl
            refine W.eq (g2 := F0 m 52 ls []) rfl ?_
            refine lv_aload_n hx hb dX9_daysBy_52 rfl (lv_at hl 0 rfl) ?_
            refine va_get (ci := 9) (v := Value.ref h0_cost) (C := RX9) (T := TX9) (N := 11) hx hb htl inX9 hown hK hP 0 rfl rfl 0 (by decide) (htl _ fl_RX9_9) (fun _ h9 => h9) rfl dX9_daysBy_53 ?_
            refine lv_iload_n hx hb dX9_daysBy_56 rfl (lv_at hl 1 rfl) ?_
            obtain ⟨hq_4, h⟩ := h
            refine va_iald hx hb hK hP 1 0 rfl rfl hq_4 dX9_daysBy_57 ?_
            refine lv_aload_n hx hb dX9_daysBy_58 rfl (lv_at hl 0 rfl) ?_
            refine va_get (ci := 9) (v := Value.ref h0_left) (C := RX9) (T := TX9) (N := 11) hx hb htl inX9 hown hK hP 0 rfl rfl 2 (by decide) (htl _ fl_RX9_19) (fun _ h9 => h9) rfl dX9_daysBy_59 ?_
            refine lv_iload_n hx hb dX9_daysBy_62 rfl (lv_at hl 1 rfl) ?_
            obtain ⟨hq_5, h⟩ := h
            refine va_iald hx hb hK hP 2 0 rfl rfl hq_5 dX9_daysBy_63 ?_
            refine lv_iadd hx hb dX9_daysBy_64 ?_
            exact W.iret (v := ((f_h0_cost a.toNatClampNeg) + (f_h0_left a.toNatClampNeg))) hx hb hr (fun t ht hW => ⟨((f_h0_cost a.toNatClampNeg) + (f_h0_left a.toNatClampNeg)), rfl, h, ht⟩) (fun q h => by cases h) dX9_daysBy_65
          · clear e_52
            refine lv_if_eq (tgt := 52) hx hb dX9_daysBy_39 (by decide) (fun c_39 => ?_) (fun c_39 => ?_)
            · replace h := ok_t h c_39
              exact K_52 () h ls (lv_sub hl [0, 1] rfl)
            · replace h := ok_f h c_39
              refine lv_iload_n hx hb dX9_daysBy_42 rfl (lv_at hl 1 rfl) ?_
              refine lv_iload_n hx hb dX9_daysBy_43 rfl (lv_at hl 2 rfl) ?_
              refine lv_icmp_eq (tgt := 52) hx hb dX9_daysBy_44 (by decide) (fun c_44 => ?_) (fun c_44 => ?_)
              · replace h := ok_t h c_44
                exact K_52 () h ls (lv_sub hl [0, 1] rfl)
              · replace h := ok_f h c_44
                refine lv_ldc hx hb hown (htl _ ct_RX9_68) dX9_daysBy_47 ?_
                refine lv_goto (tgt := 65) hx hb dX9_daysBy_49 (by decide) ?_
                exact W.iret (v := 1000000) hx hb hr (fun t ht hW => ⟨1000000, rfl, h, ht⟩) (fun q h => by cases h) dX9_daysBy_65
        · replace h := ok_f h c_27
          refine lv_ldc hx hb hown (htl _ ct_RX9_68) dX9_daysBy_30 ?_
          exact W.iret (v := 1000000) hx hb hr (fun t ht hW => ⟨1000000, rfl, h, ht⟩) (fun q h => by cases h) dX9_daysBy_32
set_option maxHeartbeats 1000000 in
set_option maxRecDepth 100000 in
theorem lg_X9_walk_10 (l : Launch) (G : va_G) (cs : Nat → ClassId) (h0 : Nat) (a : Int32) (b : Int32) (h0_cost : Nat) (h0_endsWay : Nat) (h0_left : Nat) (h0_path : Nat) (h0_steps : Int32) (h0_days : Int32) (h0_told : Nat) (h0_price : Nat) (h0_fewest : Nat) (h0_cellOfShaft : Nat) (h0_chance : Nat) (f_h0_cost : Nat → Int32) (f_h0_left : Nat → Int32) (f_h0_endsWay : Nat → Int32) (f_h0_path : Nat → Int32) (Qb : Int32 → Int32 → Int32 → (Nat → Int32) → Prop) {p : Program} {e : Env} {s : State} {m : MethodId} {args : Array Value} {below : List Frame} {meth : Method} {c : Code} {QX : State → Prop} {A : Nat → Prop} (hx : p.tables.exec = Jvm.exec) (hb : c.code = cX9_walk) (hml : c.maxLocals = 6) (hown : s.vm.findClass RX9 = some m.cls) (htl : ∀ w ∈ gW, w.before args s = true) (hN : NW s) (hK : va_K G vwCl (tyL cs) s) (hA : ∀ q, s.heap.size ≤ q → A q) (K : ∀ (x_10_0 : Int32) (x_10_1 : Int32) (x_10_2 : Int32) (x_10_3 : Nat → Int32), Qb x_10_0 x_10_1 x_10_2 x_10_3 → ∀ (H : Heap) (locs : List Loc) (ls : Array Slot), va_P G vwCl [(h0, Sum.inr (9, [Value.ref h0_cost, Value.ref h0_endsWay, Value.ref h0_left, Value.ref h0_path, Value.int x_10_2, Value.int h0_days, Value.ref h0_told, Value.ref h0_price, Value.ref h0_fewest, Value.ref h0_cellOfShaft, Value.ref h0_chance])), (h0_cost, Sum.inl (cs 0, 40, Sum.inl f_h0_cost)), (h0_left, Sum.inl (cs 0, 40, Sum.inl f_h0_left)), (h0_endsWay, Sum.inl (cs 2, 40, Sum.inl f_h0_endsWay)), (h0_path, Sum.inl (cs 0, 40, Sum.inl x_10_3))] H → va_D A [(h0, Sum.inr (9, [Value.ref h0_cost, Value.ref h0_endsWay, Value.ref h0_left, Value.ref h0_path, Value.int x_10_2, Value.int h0_days, Value.ref h0_told, Value.ref h0_price, Value.ref h0_fewest, Value.ref h0_cellOfShaft, Value.ref h0_chance])), (h0_cost, Sum.inl (cs 0, 40, Sum.inl f_h0_cost)), (h0_left, Sum.inl (cs 0, 40, Sum.inl f_h0_left)), (h0_endsWay, Sum.inl (cs 2, 40, Sum.inl f_h0_endsWay)), (h0_path, Sum.inl (cs 0, 40, Sum.inl x_10_3))] → va_S A s.heap H locs → lv_has ls 6 [(4, Value.int x_10_0), (3, Value.int x_10_1), (0, Value.ref h0), (2, Value.int b)] → W p l e (headSpec (Cond.code yX9_walk cX9_walk 6 none :: gW) ({ frames := 1, cells := 0, slots := 0, locals := 22 })).room s m args below meth c H locs 0 0 QX (F0 m 128 ls [])) : ∀ (n : Nat) (x_10_0 : Int32) (x_10_1 : Int32) (x_10_2 : Int32) (x_10_3 : Nat → Int32), wl_X9_walk_10 b f_h0_cost f_h0_left f_h0_endsWay Qb n x_10_0 x_10_1 x_10_2 x_10_3 → ∀ (H : Heap) (locs : List Loc) (ls : Array Slot), va_P G vwCl [(h0, Sum.inr (9, [Value.ref h0_cost, Value.ref h0_endsWay, Value.ref h0_left, Value.ref h0_path, Value.int x_10_2, Value.int h0_days, Value.ref h0_told, Value.ref h0_price, Value.ref h0_fewest, Value.ref h0_cellOfShaft, Value.ref h0_chance])), (h0_cost, Sum.inl (cs 0, 40, Sum.inl f_h0_cost)), (h0_left, Sum.inl (cs 0, 40, Sum.inl f_h0_left)), (h0_endsWay, Sum.inl (cs 2, 40, Sum.inl f_h0_endsWay)), (h0_path, Sum.inl (cs 0, 40, Sum.inl x_10_3))] H → va_D A [(h0, Sum.inr (9, [Value.ref h0_cost, Value.ref h0_endsWay, Value.ref h0_left, Value.ref h0_path, Value.int x_10_2, Value.int h0_days, Value.ref h0_told, Value.ref h0_price, Value.ref h0_fewest, Value.ref h0_cellOfShaft, Value.ref h0_chance])), (h0_cost, Sum.inl (cs 0, 40, Sum.inl f_h0_cost)), (h0_left, Sum.inl (cs 0, 40, Sum.inl f_h0_left)), (h0_endsWay, Sum.inl (cs 2, 40, Sum.inl f_h0_endsWay)), (h0_path, Sum.inl (cs 0, 40, Sum.inl x_10_3))] → va_S A s.heap H locs → lv_has ls 6 [(4, Value.int x_10_0), (3, Value.int x_10_1), (0, Value.ref h0), (2, Value.int b)] → W p l e (headSpec (Cond.code yX9_walk cX9_walk 6 none :: gW) ({ frames := 1, cells := 0, slots := 0, locals := 22 })).room s m args below meth c H locs 0 0 QX (F0 m 10 ls []) := by
  intro n
  induction n with
  | zero =>
    intro x_10_0 x_10_1 x_10_2 x_10_3 h
    exact h.elim
  | succ n ih =>
    intro x_10_0 x_10_1 x_10_2 x_10_3 h H locs ls hP hD hS hl
    unfold wl_X9_walk_10 at h
    refine lv_iload hx hb dX9_walk_10 (lv_at hl 0 rfl) ?_
    refine lv_bipush (v := 40) hx hb dX9_walk_12 (by decide) ?_
    refine lv_icmp_ge (tgt := 128) hx hb dX9_walk_14 (by decide) (fun c_14 => ?_) (fun c_14 => ?_)
    · replace h := ok_t h c_14
      exact K x_10_0 x_10_1 x_10_2 x_10_3 h _ _ ls (hP.pick (is := [0, 1, 2, 3, 4]) rfl) (hD.sub [0, 1, 2, 3, 4] rfl rfl) hS (lv_sub hl [0, 1, 2, 3] rfl)
    · replace h := ok_f h c_14
      refine lv_iload_n hx hb dX9_walk_17 rfl (lv_at hl 1 rfl) ?_
      refine lv_iload_n hx hb dX9_walk_18 rfl (lv_at hl 3 rfl) ?_
      refine lv_icmp_eq (tgt := 128) hx hb dX9_walk_19 (by decide) (fun c_19 => ?_) (fun c_19 => ?_)
      · replace h := ok_t h c_19
        exact K x_10_0 x_10_1 x_10_2 x_10_3 h _ _ ls (hP.pick (is := [0, 1, 2, 3, 4]) rfl) (hD.sub [0, 1, 2, 3, 4] rfl rfl) hS (lv_sub hl [0, 1, 2, 3] rfl)
      · replace h := ok_f h c_19
        refine lv_iload_n hx hb dX9_walk_22 rfl (lv_at hl 1 rfl) ?_
        refine lv_bipush (v := 8) hx hb dX9_walk_23 (by decide) ?_
        refine lv_irem hx hb dX9_walk_25 (by decide) ?_
        refine lv_istore hx hb dX9_walk_26 hl (by decide) (rfl : _ = ([(5, Value.int (x_10_1 - x_10_1 / 8 * 8)), (4, Value.int x_10_0), (3, Value.int x_10_1), (0, Value.ref h0), (2, Value.int b)] : List (Nat × Value))) (fun ls hl => ?_)
        refine lv_iload hx hb dX9_walk_28 (lv_at hl 0 rfl) ?_
        obtain ⟨k_102, e_102, h⟩ := ex_j h
        refine jnM (G := G) (A := A) (nL := 6) (k := k_102) (J := 102) (fun (y_102 : Int32) => [(h0, Sum.inr (9, [Value.ref h0_cost, Value.ref h0_endsWay, Value.ref h0_left, Value.ref h0_path, Value.int x_10_2, Value.int h0_days, Value.ref h0_told, Value.ref h0_price, Value.ref h0_fewest, Value.ref h0_cellOfShaft, Value.ref h0_chance])), (h0_cost, Sum.inl (cs 0, 40, Sum.inl f_h0_cost)), (h0_left, Sum.inl (cs 0, 40, Sum.inl f_h0_left)), (h0_endsWay, Sum.inl (cs 2, 40, Sum.inl f_h0_endsWay)), (h0_path, Sum.inl (cs 0, 40, Sum.inl x_10_3))]) (fun (y_102 : Int32) => [(0, Value.ref h0), (2, Value.int b), (3, Value.int y_102), (4, Value.int x_10_0)]) (fun (y_102 : Int32) => []) (fun y_102 h H locs ls hP hD hS hl => ?_) (fun K_102 => ?_)
        · rw [e_102] at h
          have hl : lv_has ls 6 [(0, Value.ref h0), (2, Value.int b), (3, Value.int y_102), (4, Value.int x_10_0)] := hl
          obtain ⟨hP, hD⟩ := PD_as hP [(h0, Sum.inr (9, [Value.ref h0_cost, Value.ref h0_endsWay, Value.ref h0_left, Value.ref h0_path, Value.int x_10_2, Value.int h0_days, Value.ref h0_told, Value.ref h0_price, Value.ref h0_fewest, Value.ref h0_cellOfShaft, Value.ref h0_chance])), (h0_cost, Sum.inl (cs 0, 40, Sum.inl f_h0_cost)), (h0_left, Sum.inl (cs 0, 40, Sum.inl f_h0_left)), (h0_endsWay, Sum.inl (cs 2, 40, Sum.inl f_h0_endsWay)), (h0_path, Sum.inl (cs 0, 40, Sum.inl x_10_3))] rfl hD
          refine W.eq (g2 := F0 m 102 ls []) rfl ?_
          refine lv_aload_n hx hb dX9_walk_102 rfl (lv_at hl 0 rfl) ?_
          refine va_get (ci := 9) (v := Value.ref h0_path) (C := RX9) (T := TX9) (N := 11) hx hb htl inX9 hown hK hP 0 rfl rfl 3 (by decide) (htl _ fl_RX9_22) (fun _ h9 => h9) rfl dX9_walk_103 ?_
          refine lv_aload_n hx hb dX9_walk_106 rfl (lv_at hl 0 rfl) ?_
          refine va_get (ci := 9) (v := Value.int x_10_2) (C := RX9) (T := TX9) (N := 11) hx hb htl inX9 hown hK hP 0 rfl rfl 4 (by decide) (htl _ fl_RX9_69) (fun _ h9 => h9) rfl dX9_walk_107 ?_
          refine lv_iload_n hx hb dX9_walk_110 rfl (lv_at hl 2 rfl) ?_
          obtain ⟨hq_2001, h⟩ := h
          refine va_iast hx hb hK hP hD hS 4 0 rfl rfl hq_2001 dX9_walk_111 (fun H locs hP hD hS => ?_)
          obtain ⟨hP, hD⟩ := PD_as hP [(h0, Sum.inr (9, [Value.ref h0_cost, Value.ref h0_endsWay, Value.ref h0_left, Value.ref h0_path, Value.int x_10_2, Value.int h0_days, Value.ref h0_told, Value.ref h0_price, Value.ref h0_fewest, Value.ref h0_cellOfShaft, Value.ref h0_chance])), (h0_cost, Sum.inl (cs 0, 40, Sum.inl f_h0_cost)), (h0_left, Sum.inl (cs 0, 40, Sum.inl f_h0_left)), (h0_endsWay, Sum.inl (cs 2, 40, Sum.inl f_h0_endsWay)), (h0_path, Sum.inl (cs 0, 40, Sum.inl (upd x_10_3 x_10_2.toNatClampNeg y_102)))] rfl hD
          refine lv_aload_n hx hb dX9_walk_112 rfl (lv_at hl 0 rfl) ?_
          refine lv_dup hx hb dX9_walk_113 rfl ?_
          refine va_get (ci := 9) (v := Value.int x_10_2) (C := RX9) (T := TX9) (N := 11) hx hb htl inX9 hown hK hP 0 rfl rfl 4 (by decide) (htl _ fl_RX9_69) (fun _ h9 => h9) rfl dX9_walk_114 ?_
          refine lv_iconst (v := 1) hx hb dX9_walk_117 (by decide) ?_
          refine lv_iadd hx hb dX9_walk_118 ?_
          refine va_put (ci := 9) (v := Value.int (x_10_2 + 1)) (ty := .int) (C := RX9) (T := TX9) (N := 11) hx hb htl inX9 tyX9 tyX9_ok nmX9 hown hK hP hD hS 0 rfl rfl 4 (by decide) (htl _ fl_RX9_69) (fun _ h9 => h9) rfl (by decide +kernel) (by first | rfl | decide) (by first | rfl | decide) (Nat.le_of_ble_eq_true rfl) dX9_walk_119 (fun H locs hP hD hS => ?_)
          obtain ⟨hP, hD⟩ := PD_as hP [(h0, Sum.inr (9, [Value.ref h0_cost, Value.ref h0_endsWay, Value.ref h0_left, Value.ref h0_path, Value.int (x_10_2 + 1), Value.int h0_days, Value.ref h0_told, Value.ref h0_price, Value.ref h0_fewest, Value.ref h0_cellOfShaft, Value.ref h0_chance])), (h0_cost, Sum.inl (cs 0, 40, Sum.inl f_h0_cost)), (h0_left, Sum.inl (cs 0, 40, Sum.inl f_h0_left)), (h0_endsWay, Sum.inl (cs 2, 40, Sum.inl f_h0_endsWay)), (h0_path, Sum.inl (cs 0, 40, Sum.inl (upd x_10_3 x_10_2.toNatClampNeg y_102)))] rfl hD
          refine lv_iinc (v := (x_10_0 + 1)) hx hb dX9_walk_122 hl (k := 3) rfl (by first | rfl | decide) (by decide) (rfl : _ = ([(4, Value.int (x_10_0 + 1)), (0, Value.ref h0), (2, Value.int b), (3, Value.int y_102)] : List (Nat × Value))) (fun ls hl => ?_)
          refine lv_goto (tgt := 10) hx hb dX9_walk_125 (by decide) ?_
          exact ih (x_10_0 + 1) y_102 (x_10_2 + 1) (upd x_10_3 x_10_2.toNatClampNeg y_102) h _ _ ls (hP.pick (is := [0, 1, 2, 3, 4]) rfl) (hD.sub [0, 1, 2, 3, 4] rfl rfl) hS (lv_sub hl [0, 3, 1, 2] rfl)
        · clear e_102
          refine lv_if_le (tgt := 57) hx hb dX9_walk_30 (by decide) (fun c_30 => ?_) (fun c_30 => ?_)
          · replace h := ok_t h c_30
            refine lv_iload hx hb dX9_walk_57 (lv_at hl 0 rfl) ?_
            refine lv_bipush (v := 7) hx hb dX9_walk_59 (by decide) ?_
            refine lv_icmp_ge (tgt := 88) hx hb dX9_walk_61 (by decide) (fun c_61 => ?_) (fun c_61 => ?_)
            · replace h := ok_t h c_61
              refine lv_iload_n hx hb dX9_walk_88 rfl (lv_at hl 2 rfl) ?_
              refine lv_bipush (v := 8) hx hb dX9_walk_89 (by decide) ?_
              refine lv_iadd hx hb dX9_walk_91 ?_
              refine lv_bipush (v := 40) hx hb dX9_walk_92 (by decide) ?_
              refine lv_icmp_ge (tgt := 102) hx hb dX9_walk_94 (by decide) (fun c_94 => ?_) (fun c_94 => ?_)
              · replace h := ok_t h c_94
                exact K_102 x_10_1 h H locs ls (hP.pick (is := [0, 1, 2, 3, 4]) rfl) (hD.sub [0, 1, 2, 3, 4] rfl rfl) hS (lv_sub hl [3, 4, 2, 1] rfl)
              · replace h := ok_f h c_94
                refine lv_iload_n hx hb dX9_walk_97 rfl (lv_at hl 2 rfl) ?_
                refine lv_bipush (v := 8) hx hb dX9_walk_98 (by decide) ?_
                refine lv_iadd hx hb dX9_walk_100 ?_
                refine lv_istore_n hx hb dX9_walk_101 rfl hl (by decide) (rfl : _ = ([(3, Value.int (x_10_1 + 8)), (5, Value.int (x_10_1 - x_10_1 / 8 * 8)), (4, Value.int x_10_0), (0, Value.ref h0), (2, Value.int b)] : List (Nat × Value))) (fun ls hl => ?_)
                exact K_102 (x_10_1 + 8) h H locs ls (hP.pick (is := [0, 1, 2, 3, 4]) rfl) (hD.sub [0, 1, 2, 3, 4] rfl rfl) hS (lv_sub hl [3, 4, 0, 2] rfl)
            · replace h := ok_f h c_61
              refine lv_aload_n hx hb dX9_walk_64 rfl (lv_at hl 3 rfl) ?_
              refine lv_iload_n hx hb dX9_walk_65 rfl (lv_at hl 2 rfl) ?_
              refine lv_iconst (v := 1) hx hb dX9_walk_66 (by decide) ?_
              refine lv_iadd hx hb dX9_walk_67 ?_
              refine lv_iload_n hx hb dX9_walk_68 rfl (lv_at hl 4 rfl) ?_
              refine vp_callSi (mkVr (rest := []) ⟨hx, hb, hml, hown, htl⟩ hN hK hP (g_X9_daysBy l G cs h0 (x_10_1 + 1) b h0_cost h0_endsWay h0_left h0_path x_10_2 h0_days h0_told h0_price h0_fewest h0_cellOfShaft h0_chance (f_h0_cost) (f_h0_left) (f_h0_endsWay) _ h) [0, 1, 2, 3] rfl 0 9 rfl rfl (cV 2 htl lk_RX9_60 mI_X9_daysBy mS_X9_daysBy mN_RX9 mC_X9_daysBy ok_X9_daysBy rfl rfl ⟨(Nat.le_of_ble_eq_true rfl), (Nat.le_of_ble_eq_true rfl)⟩) rfl hl.1 rfl (Nat.le_of_ble_eq_true rfl) dX9_walk_69 ⟨(Nat.le_of_ble_eq_true rfl), (Nat.le_of_ble_eq_true rfl)⟩) (fun r_69 h => ?_)
              refine lv_aload_n hx hb dX9_walk_72 rfl (lv_at hl 3 rfl) ?_
              refine va_get (ci := 9) (v := Value.ref h0_left) (C := RX9) (T := TX9) (N := 11) hx hb htl inX9 hown hK hP 0 rfl rfl 2 (by decide) (htl _ fl_RX9_19) (fun _ h9 => h9) rfl dX9_walk_73 ?_
              refine lv_iload_n hx hb dX9_walk_76 rfl (lv_at hl 2 rfl) ?_
              obtain ⟨hq_2002, h⟩ := h
              refine va_iald hx hb hK hP 2 0 rfl rfl hq_2002 dX9_walk_77 ?_
              refine lv_icmp_ne (tgt := 88) hx hb dX9_walk_78 (by decide) (fun c_78 => ?_) (fun c_78 => ?_)
              · replace h := ok_f h c_78
                refine lv_iload_n hx hb dX9_walk_88 rfl (lv_at hl 2 rfl) ?_
                refine lv_bipush (v := 8) hx hb dX9_walk_89 (by decide) ?_
                refine lv_iadd hx hb dX9_walk_91 ?_
                refine lv_bipush (v := 40) hx hb dX9_walk_92 (by decide) ?_
                refine lv_icmp_ge (tgt := 102) hx hb dX9_walk_94 (by decide) (fun c_94 => ?_) (fun c_94 => ?_)
                · replace h := ok_t h c_94
                  exact K_102 x_10_1 h H locs ls (hP.pick (is := [0, 1, 2, 3, 4]) rfl) (hD.sub [0, 1, 2, 3, 4] rfl rfl) hS (lv_sub hl [3, 4, 2, 1] rfl)
                · replace h := ok_f h c_94
                  refine lv_iload_n hx hb dX9_walk_97 rfl (lv_at hl 2 rfl) ?_
                  refine lv_bipush (v := 8) hx hb dX9_walk_98 (by decide) ?_
                  refine lv_iadd hx hb dX9_walk_100 ?_
                  refine lv_istore_n hx hb dX9_walk_101 rfl hl (by decide) (rfl : _ = ([(3, Value.int (x_10_1 + 8)), (5, Value.int (x_10_1 - x_10_1 / 8 * 8)), (4, Value.int x_10_0), (0, Value.ref h0), (2, Value.int b)] : List (Nat × Value))) (fun ls hl => ?_)
                  exact K_102 (x_10_1 + 8) h H locs ls (hP.pick (is := [0, 1, 2, 3, 4]) rfl) (hD.sub [0, 1, 2, 3, 4] rfl rfl) hS (lv_sub hl [3, 4, 0, 2] rfl)
              · replace h := ok_t h c_78
                refine lv_iload_n hx hb dX9_walk_81 rfl (lv_at hl 2 rfl) ?_
                refine lv_iconst (v := 1) hx hb dX9_walk_82 (by decide) ?_
                refine lv_iadd hx hb dX9_walk_83 ?_
                refine lv_istore_n hx hb dX9_walk_84 rfl hl (by decide) (rfl : _ = ([(3, Value.int (x_10_1 + 1)), (5, Value.int (x_10_1 - x_10_1 / 8 * 8)), (4, Value.int x_10_0), (0, Value.ref h0), (2, Value.int b)] : List (Nat × Value))) (fun ls hl => ?_)
                refine lv_goto (tgt := 102) hx hb dX9_walk_85 (by decide) ?_
                exact K_102 (x_10_1 + 1) h H locs ls (hP.pick (is := [0, 1, 2, 3, 4]) rfl) (hD.sub [0, 1, 2, 3, 4] rfl rfl) hS (lv_sub hl [3, 4, 0, 2] rfl)
          · replace h := ok_f h c_30
            refine lv_aload_n hx hb dX9_walk_33 rfl (lv_at hl 3 rfl) ?_
            refine lv_iload_n hx hb dX9_walk_34 rfl (lv_at hl 2 rfl) ?_
            refine lv_iconst (v := 1) hx hb dX9_walk_35 (by decide) ?_
            refine lv_isub hx hb dX9_walk_36 ?_
            refine lv_iload_n hx hb dX9_walk_37 rfl (lv_at hl 4 rfl) ?_
            refine vp_callSi (mkVr (rest := []) ⟨hx, hb, hml, hown, htl⟩ hN hK hP (g_X9_daysBy l G cs h0 (x_10_1 - 1) b h0_cost h0_endsWay h0_left h0_path x_10_2 h0_days h0_told h0_price h0_fewest h0_cellOfShaft h0_chance (f_h0_cost) (f_h0_left) (f_h0_endsWay) _ h) [0, 1, 2, 3] rfl 0 9 rfl rfl (cV 2 htl lk_RX9_60 mI_X9_daysBy mS_X9_daysBy mN_RX9 mC_X9_daysBy ok_X9_daysBy rfl rfl ⟨(Nat.le_of_ble_eq_true rfl), (Nat.le_of_ble_eq_true rfl)⟩) rfl hl.1 rfl (Nat.le_of_ble_eq_true rfl) dX9_walk_38 ⟨(Nat.le_of_ble_eq_true rfl), (Nat.le_of_ble_eq_true rfl)⟩) (fun r_38 h => ?_)
            refine lv_aload_n hx hb dX9_walk_41 rfl (lv_at hl 3 rfl) ?_
            refine va_get (ci := 9) (v := Value.ref h0_left) (C := RX9) (T := TX9) (N := 11) hx hb htl inX9 hown hK hP 0 rfl rfl 2 (by decide) (htl _ fl_RX9_19) (fun _ h9 => h9) rfl dX9_walk_42 ?_
            refine lv_iload_n hx hb dX9_walk_45 rfl (lv_at hl 2 rfl) ?_
            obtain ⟨hq_2003, h⟩ := h
            refine va_iald hx hb hK hP 2 0 rfl rfl hq_2003 dX9_walk_46 ?_
            refine lv_icmp_ne (tgt := 57) hx hb dX9_walk_47 (by decide) (fun c_47 => ?_) (fun c_47 => ?_)
            · replace h := ok_f h c_47
              refine lv_iload hx hb dX9_walk_57 (lv_at hl 0 rfl) ?_
              refine lv_bipush (v := 7) hx hb dX9_walk_59 (by decide) ?_
              refine lv_icmp_ge (tgt := 88) hx hb dX9_walk_61 (by decide) (fun c_61 => ?_) (fun c_61 => ?_)
              · replace h := ok_t h c_61
                refine lv_iload_n hx hb dX9_walk_88 rfl (lv_at hl 2 rfl) ?_
                refine lv_bipush (v := 8) hx hb dX9_walk_89 (by decide) ?_
                refine lv_iadd hx hb dX9_walk_91 ?_
                refine lv_bipush (v := 40) hx hb dX9_walk_92 (by decide) ?_
                refine lv_icmp_ge (tgt := 102) hx hb dX9_walk_94 (by decide) (fun c_94 => ?_) (fun c_94 => ?_)
                · replace h := ok_t h c_94
                  exact K_102 x_10_1 h H locs ls (hP.pick (is := [0, 1, 2, 3, 4]) rfl) (hD.sub [0, 1, 2, 3, 4] rfl rfl) hS (lv_sub hl [3, 4, 2, 1] rfl)
                · replace h := ok_f h c_94
                  refine lv_iload_n hx hb dX9_walk_97 rfl (lv_at hl 2 rfl) ?_
                  refine lv_bipush (v := 8) hx hb dX9_walk_98 (by decide) ?_
                  refine lv_iadd hx hb dX9_walk_100 ?_
                  refine lv_istore_n hx hb dX9_walk_101 rfl hl (by decide) (rfl : _ = ([(3, Value.int (x_10_1 + 8)), (5, Value.int (x_10_1 - x_10_1 / 8 * 8)), (4, Value.int x_10_0), (0, Value.ref h0), (2, Value.int b)] : List (Nat × Value))) (fun ls hl => ?_)
                  exact K_102 (x_10_1 + 8) h H locs ls (hP.pick (is := [0, 1, 2, 3, 4]) rfl) (hD.sub [0, 1, 2, 3, 4] rfl rfl) hS (lv_sub hl [3, 4, 0, 2] rfl)
              · replace h := ok_f h c_61
                refine lv_aload_n hx hb dX9_walk_64 rfl (lv_at hl 3 rfl) ?_
                refine lv_iload_n hx hb dX9_walk_65 rfl (lv_at hl 2 rfl) ?_
                refine lv_iconst (v := 1) hx hb dX9_walk_66 (by decide) ?_
                refine lv_iadd hx hb dX9_walk_67 ?_
                refine lv_iload_n hx hb dX9_walk_68 rfl (lv_at hl 4 rfl) ?_
                refine vp_callSi (mkVr (rest := []) ⟨hx, hb, hml, hown, htl⟩ hN hK hP (g_X9_daysBy l G cs h0 (x_10_1 + 1) b h0_cost h0_endsWay h0_left h0_path x_10_2 h0_days h0_told h0_price h0_fewest h0_cellOfShaft h0_chance (f_h0_cost) (f_h0_left) (f_h0_endsWay) _ h) [0, 1, 2, 3] rfl 0 9 rfl rfl (cV 2 htl lk_RX9_60 mI_X9_daysBy mS_X9_daysBy mN_RX9 mC_X9_daysBy ok_X9_daysBy rfl rfl ⟨(Nat.le_of_ble_eq_true rfl), (Nat.le_of_ble_eq_true rfl)⟩) rfl hl.1 rfl (Nat.le_of_ble_eq_true rfl) dX9_walk_69 ⟨(Nat.le_of_ble_eq_true rfl), (Nat.le_of_ble_eq_true rfl)⟩) (fun r_69 h => ?_)
                refine lv_aload_n hx hb dX9_walk_72 rfl (lv_at hl 3 rfl) ?_
                refine va_get (ci := 9) (v := Value.ref h0_left) (C := RX9) (T := TX9) (N := 11) hx hb htl inX9 hown hK hP 0 rfl rfl 2 (by decide) (htl _ fl_RX9_19) (fun _ h9 => h9) rfl dX9_walk_73 ?_
                refine lv_iload_n hx hb dX9_walk_76 rfl (lv_at hl 2 rfl) ?_
                obtain ⟨hq_2004, h⟩ := h
                refine va_iald hx hb hK hP 2 0 rfl rfl hq_2004 dX9_walk_77 ?_
                refine lv_icmp_ne (tgt := 88) hx hb dX9_walk_78 (by decide) (fun c_78 => ?_) (fun c_78 => ?_)
                · replace h := ok_f h c_78
                  refine lv_iload_n hx hb dX9_walk_88 rfl (lv_at hl 2 rfl) ?_
                  refine lv_bipush (v := 8) hx hb dX9_walk_89 (by decide) ?_
                  refine lv_iadd hx hb dX9_walk_91 ?_
                  refine lv_bipush (v := 40) hx hb dX9_walk_92 (by decide) ?_
                  refine lv_icmp_ge (tgt := 102) hx hb dX9_walk_94 (by decide) (fun c_94 => ?_) (fun c_94 => ?_)
                  · replace h := ok_t h c_94
                    exact K_102 x_10_1 h H locs ls (hP.pick (is := [0, 1, 2, 3, 4]) rfl) (hD.sub [0, 1, 2, 3, 4] rfl rfl) hS (lv_sub hl [3, 4, 2, 1] rfl)
                  · replace h := ok_f h c_94
                    refine lv_iload_n hx hb dX9_walk_97 rfl (lv_at hl 2 rfl) ?_
                    refine lv_bipush (v := 8) hx hb dX9_walk_98 (by decide) ?_
                    refine lv_iadd hx hb dX9_walk_100 ?_
                    refine lv_istore_n hx hb dX9_walk_101 rfl hl (by decide) (rfl : _ = ([(3, Value.int (x_10_1 + 8)), (5, Value.int (x_10_1 - x_10_1 / 8 * 8)), (4, Value.int x_10_0), (0, Value.ref h0), (2, Value.int b)] : List (Nat × Value))) (fun ls hl => ?_)
                    exact K_102 (x_10_1 + 8) h H locs ls (hP.pick (is := [0, 1, 2, 3, 4]) rfl) (hD.sub [0, 1, 2, 3, 4] rfl rfl) hS (lv_sub hl [3, 4, 0, 2] rfl)
                · replace h := ok_t h c_78
                  refine lv_iload_n hx hb dX9_walk_81 rfl (lv_at hl 2 rfl) ?_
                  refine lv_iconst (v := 1) hx hb dX9_walk_82 (by decide) ?_
                  refine lv_iadd hx hb dX9_walk_83 ?_
                  refine lv_istore_n hx hb dX9_walk_84 rfl hl (by decide) (rfl : _ = ([(3, Value.int (x_10_1 + 1)), (5, Value.int (x_10_1 - x_10_1 / 8 * 8)), (4, Value.int x_10_0), (0, Value.ref h0), (2, Value.int b)] : List (Nat × Value))) (fun ls hl => ?_)
                  refine lv_goto (tgt := 102) hx hb dX9_walk_85 (by decide) ?_
                  exact K_102 (x_10_1 + 1) h H locs ls (hP.pick (is := [0, 1, 2, 3, 4]) rfl) (hD.sub [0, 1, 2, 3, 4] rfl rfl) hS (lv_sub hl [3, 4, 0, 2] rfl)
            · replace h := ok_t h c_47
              refine lv_iload_n hx hb dX9_walk_50 rfl (lv_at hl 2 rfl) ?_
              refine lv_iconst (v := 1) hx hb dX9_walk_51 (by decide) ?_
              refine lv_isub hx hb dX9_walk_52 ?_
              refine lv_istore_n hx hb dX9_walk_53 rfl hl (by decide) (rfl : _ = ([(3, Value.int (x_10_1 - 1)), (5, Value.int (x_10_1 - x_10_1 / 8 * 8)), (4, Value.int x_10_0), (0, Value.ref h0), (2, Value.int b)] : List (Nat × Value))) (fun ls hl => ?_)
              refine lv_goto (tgt := 102) hx hb dX9_walk_54 (by decide) ?_
              exact K_102 (x_10_1 - 1) h H locs ls (hP.pick (is := [0, 1, 2, 3, 4]) rfl) (hD.sub [0, 1, 2, 3, 4] rfl rfl) hS (lv_sub hl [3, 4, 0, 2] rfl)
set_option maxHeartbeats 1000000 in
set_option maxRecDepth 100000 in
theorem g_X9_walk (l : Launch) (G : va_G) (cs : Nat → ClassId) (h0 : Nat) (a : Int32) (b : Int32) (h0_cost : Nat) (h0_endsWay : Nat) (h0_left : Nat) (h0_path : Nat) (h0_steps : Int32) (h0_days : Int32) (h0_told : Nat) (h0_price : Nat) (h0_fewest : Nat) (h0_cellOfShaft : Nat) (h0_chance : Nat) (f_h0_cost : Nat → Int32) (f_h0_left : Nat → Int32) (f_h0_endsWay : Nat → Int32) (f_h0_path : Nat → Int32) (sz : Nat) (Q : (Int32 × (Nat → Int32)) → Prop) (h : wp_X9_walk a b f_h0_cost f_h0_left f_h0_endsWay f_h0_path Q) : Met l yX9_walk (Cond.code yX9_walk cX9_walk 6 none :: gW) ({ frames := 1, cells := 0, slots := 0, locals := 22 }) (va_Pc [Value.ref h0, Value.int a, Value.int b] (Pre G cs [(h0, Sum.inr (9, [Value.ref h0_cost, Value.ref h0_endsWay, Value.ref h0_left, Value.ref h0_path, Value.int h0_steps, Value.int h0_days, Value.ref h0_told, Value.ref h0_price, Value.ref h0_fewest, Value.ref h0_cellOfShaft, Value.ref h0_chance])), (h0_cost, Sum.inl (cs 0, 40, Sum.inl f_h0_cost)), (h0_left, Sum.inl (cs 0, 40, Sum.inl f_h0_left)), (h0_endsWay, Sum.inl (cs 2, 40, Sum.inl f_h0_endsWay)), (h0_path, Sum.inl (cs 0, 40, Sum.inl f_h0_path))] sz)) (va_Qv (fun (u : Int32 × (Nat → Int32)) => Q u) (fun (u : Int32 × (Nat → Int32)) t => Aft G cs (va_A [(h0, Sum.inr (9, [Value.ref h0_cost, Value.ref h0_endsWay, Value.ref h0_left, Value.ref h0_path, Value.int h0_steps, Value.int h0_days, Value.ref h0_told, Value.ref h0_price, Value.ref h0_fewest, Value.ref h0_cellOfShaft, Value.ref h0_chance])), (h0_cost, Sum.inl (cs 0, 40, Sum.inl f_h0_cost)), (h0_left, Sum.inl (cs 0, 40, Sum.inl f_h0_left)), (h0_endsWay, Sum.inl (cs 2, 40, Sum.inl f_h0_endsWay)), (h0_path, Sum.inl (cs 0, 40, Sum.inl f_h0_path))] sz) [(h0, Sum.inr (9, [Value.ref h0_cost, Value.ref h0_endsWay, Value.ref h0_left, Value.ref h0_path, Value.int u.1, Value.int h0_days, Value.ref h0_told, Value.ref h0_price, Value.ref h0_fewest, Value.ref h0_cellOfShaft, Value.ref h0_chance])), (h0_cost, Sum.inl (cs 0, 40, Sum.inl f_h0_cost)), (h0_left, Sum.inl (cs 0, 40, Sum.inl f_h0_left)), (h0_endsWay, Sum.inl (cs 2, 40, Sum.inl f_h0_endsWay)), (h0_path, Sum.inl (cs 0, 40, Sum.inl u.2))] t) (va_A [(h0, Sum.inr (9, [Value.ref h0_cost, Value.ref h0_endsWay, Value.ref h0_left, Value.ref h0_path, Value.int h0_steps, Value.int h0_days, Value.ref h0_told, Value.ref h0_price, Value.ref h0_fewest, Value.ref h0_cellOfShaft, Value.ref h0_chance])), (h0_cost, Sum.inl (cs 0, 40, Sum.inl f_h0_cost)), (h0_left, Sum.inl (cs 0, 40, Sum.inl f_h0_left)), (h0_endsWay, Sum.inl (cs 2, 40, Sum.inl f_h0_endsWay)), (h0_path, Sum.inl (cs 0, 40, Sum.inl f_h0_path))] sz)) 0 0 (va_A [(h0, Sum.inr (9, [Value.ref h0_cost, Value.ref h0_endsWay, Value.ref h0_left, Value.ref h0_path, Value.int h0_steps, Value.int h0_days, Value.ref h0_told, Value.ref h0_price, Value.ref h0_fewest, Value.ref h0_cellOfShaft, Value.ref h0_chance])), (h0_cost, Sum.inl (cs 0, 40, Sum.inl f_h0_cost)), (h0_left, Sum.inl (cs 0, 40, Sum.inl f_h0_left)), (h0_endsWay, Sum.inl (cs 2, 40, Sum.inl f_h0_endsWay)), (h0_path, Sum.inl (cs 0, 40, Sum.inl f_h0_path))] sz) := by
  unfold wp_X9_walk at h
  refine Met.ofW (cc := cX9_walk) (maxL := 6) (ret := none) (by decide) rfl ?_
  intro p e s m args below meth c s₁ B hml hv
  obtain ⟨rfl, hsz, hP, hK, hD0, hN⟩ := hv
  have hx := B.exec
  have hb := B.bytes
  have hr := B.returns
  have hts := atoms_spec (ws := Cond.code yX9_walk cX9_walk 6 none :: gW) B.pre
  have htl : ∀ w ∈ gW, w.before _ s = true := fun w h => hts w (List.mem_cons_of_mem _ h)
  have hown : s.vm.findClass RX9 = some m.cls := findClass_of_methodNamed B.named
  have hlocks := B.notSynchronized
  subst hsz
  have hD := hD0.self (sz := s.heap.size)
  generalize hAe : va_A [(h0, Sum.inr (9, [Value.ref h0_cost, Value.ref h0_endsWay, Value.ref h0_left, Value.ref h0_path, Value.int h0_steps, Value.int h0_days, Value.ref h0_told, Value.ref h0_price, Value.ref h0_fewest, Value.ref h0_cellOfShaft, Value.ref h0_chance])), (h0_cost, Sum.inl (cs 0, 40, Sum.inl f_h0_cost)), (h0_left, Sum.inl (cs 0, 40, Sum.inl f_h0_left)), (h0_endsWay, Sum.inl (cs 2, 40, Sum.inl f_h0_endsWay)), (h0_path, Sum.inl (cs 0, 40, Sum.inl f_h0_path))] s.heap.size = A at hD ⊢
  have hA : ∀ q : Nat, s.heap.size ≤ q → A q := fun q h => by rw [← hAe]; exact Or.inr h
  have hS : va_S A s.heap s.heap [] := va_S.rf
  have hl := lv_entry ([Value.ref h0, Value.int a, Value.int b]) (n := 6) (Nat.le_of_ble_eq_true rfl)
  rw [lg_entry_eq]
  generalize (lg_sl ([Value.ref h0, Value.int a, Value.int b]) ++ List.replicate (6 - (lg_sl ([Value.ref h0, Value.int a, Value.int b])).length) Slot.unset).toArray = ls at hl ⊢
  have hl : lv_has ls 6 [(0, Value.ref h0), (1, Value.int a), (2, Value.int b)] := hl
  refine lv_aload_n hx hb dX9_walk_0 rfl (lv_at hl 0 rfl) ?_
  refine lv_iconst (v := 0) hx hb dX9_walk_1 (by decide) ?_
  refine va_put (ci := 9) (v := Value.int 0) (ty := .int) (C := RX9) (T := TX9) (N := 11) hx hb htl inX9 tyX9 tyX9_ok nmX9 hown hK hP hD hS 0 rfl rfl 4 (by decide) (htl _ fl_RX9_69) (fun _ h9 => h9) rfl (by decide +kernel) (by first | rfl | decide) (by first | rfl | decide) (Nat.le_of_ble_eq_true rfl) dX9_walk_2 (fun H locs hP hD hS => ?_)
  obtain ⟨hP, hD⟩ := PD_as hP [(h0, Sum.inr (9, [Value.ref h0_cost, Value.ref h0_endsWay, Value.ref h0_left, Value.ref h0_path, Value.int 0, Value.int h0_days, Value.ref h0_told, Value.ref h0_price, Value.ref h0_fewest, Value.ref h0_cellOfShaft, Value.ref h0_chance])), (h0_cost, Sum.inl (cs 0, 40, Sum.inl f_h0_cost)), (h0_left, Sum.inl (cs 0, 40, Sum.inl f_h0_left)), (h0_endsWay, Sum.inl (cs 2, 40, Sum.inl f_h0_endsWay)), (h0_path, Sum.inl (cs 0, 40, Sum.inl f_h0_path))] rfl hD
  refine lv_iload_n hx hb dX9_walk_5 rfl (lv_at hl 1 rfl) ?_
  refine lv_istore_n hx hb dX9_walk_6 rfl hl (by decide) (rfl : _ = ([(3, Value.int a), (0, Value.ref h0), (1, Value.int a), (2, Value.int b)] : List (Nat × Value))) (fun ls hl => ?_)
  refine lv_iconst (v := 0) hx hb dX9_walk_7 (by decide) ?_
  refine lv_istore hx hb dX9_walk_8 hl (by decide) (rfl : _ = ([(4, Value.int 0), (3, Value.int a), (0, Value.ref h0), (1, Value.int a), (2, Value.int b)] : List (Nat × Value))) (fun ls hl => ?_)
  refine lg_X9_walk_10 l G cs h0 a b h0_cost h0_endsWay h0_left h0_path h0_steps h0_days h0_told h0_price h0_fewest h0_cellOfShaft h0_chance f_h0_cost f_h0_left f_h0_endsWay f_h0_path _ hx hb hml hown htl hN hK hA (fun x_10_0 x_10_1 x_10_2 x_10_3 h H locs ls hP hD hS hl => ?_) 1000000000000 0 a 0 f_h0_path h _ _ ls hP hD hS (lv_sub hl [0, 1, 2, 4] rfl)
  obtain ⟨hP9, hD9⟩ := PD_pk hP hD [(h0, Sum.inr (9, [Value.ref h0_cost, Value.ref h0_endsWay, Value.ref h0_left, Value.ref h0_path, Value.int x_10_2, Value.int h0_days, Value.ref h0_told, Value.ref h0_price, Value.ref h0_fewest, Value.ref h0_cellOfShaft, Value.ref h0_chance])), (h0_cost, Sum.inl (cs 0, 40, Sum.inl f_h0_cost)), (h0_left, Sum.inl (cs 0, 40, Sum.inl f_h0_left)), (h0_endsWay, Sum.inl (cs 2, 40, Sum.inl f_h0_endsWay)), (h0_path, Sum.inl (cs 0, 40, Sum.inl x_10_3))] [0, 1, 2, 3, 4] rfl rfl
  exact W.vret hx hb hr (fun t ht hW => ⟨⟨(x_10_2, x_10_3), rfl, h, ⟨by rw [ht]; exact hP9, va_K.moved hW.alike hK, hD9⟩⟩, hS.F ht⟩) hS.2.2 dX9_walk_128
set_option maxHeartbeats 1000000 in
set_option maxRecDepth 100000 in
theorem g_X9_daysWith (l : Launch) (G : va_G) (cs : Nat → ClassId) (h0 : Nat) (a : Int32) (b : Int32) (d : Int32) (h0_cost : Nat) (h0_endsWay : Nat) (h0_left : Nat) (h0_path : Nat) (h0_steps : Int32) (h0_days : Int32) (h0_told : Nat) (h0_price : Nat) (h0_fewest : Nat) (h0_cellOfShaft : Nat) (h0_chance : Nat) (f_h0_price : Nat → Int32) (f_h0_fewest : Nat → Int32) (Q : Int32 → Prop) (h : wp_X9_daysWith a b d f_h0_price f_h0_fewest Q) : Met l yX9_daysWith (Cond.code yX9_daysWith cX9_daysWith 4 (some .int) :: gW) ({ frames := 1, cells := 0, slots := 0, locals := 24 }) (va_Pc [Value.ref h0, Value.int a, Value.int b, Value.int d] (PrS G cs [(h0, Sum.inr (9, [Value.ref h0_cost, Value.ref h0_endsWay, Value.ref h0_left, Value.ref h0_path, Value.int h0_steps, Value.int h0_days, Value.ref h0_told, Value.ref h0_price, Value.ref h0_fewest, Value.ref h0_cellOfShaft, Value.ref h0_chance])), (h0_price, Sum.inl (cs 0, 36, Sum.inl f_h0_price)), (h0_fewest, Sum.inl (cs 0, 448, Sum.inl f_h0_fewest))])) (vp_Si (fun r => Q r)) 0 0 (fun _ => False) := by
  unfold wp_X9_daysWith at h
  refine Met.ofW (cc := cX9_daysWith) (maxL := 4) (ret := (some .int)) (by decide) rfl ?_
  intro p e s m args below meth c s₁ B hml hv
  obtain ⟨rfl, hP, hK, hN⟩ := hv
  have hx := B.exec
  have hb := B.bytes
  have hr := B.returns
  have hts := atoms_spec (ws := Cond.code yX9_daysWith cX9_daysWith 4 (some .int) :: gW) B.pre
  have htl : ∀ w ∈ gW, w.before _ s = true := fun w h => hts w (List.mem_cons_of_mem _ h)
  have hown : s.vm.findClass RX9 = some m.cls := findClass_of_methodNamed B.named
  have hlocks := B.notSynchronized
  have hl := lv_entry ([Value.ref h0, Value.int a, Value.int b, Value.int d]) (n := 4) (Nat.le_of_ble_eq_true rfl)
  rw [lg_entry_eq]
  generalize (lg_sl ([Value.ref h0, Value.int a, Value.int b, Value.int d]) ++ List.replicate (4 - (lg_sl ([Value.ref h0, Value.int a, Value.int b, Value.int d])).length) Slot.unset).toArray = ls at hl ⊢
  have hl : lv_has ls 4 [(0, Value.ref h0), (1, Value.int a), (2, Value.int b), (3, Value.int d)] := hl
  refine lv_ldc hx hb hown (htl _ ct_RX9_68) dX9_daysWith_0 ?_
  refine lv_aload_n hx hb dX9_daysWith_2 rfl (lv_at hl 0 rfl) ?_
  refine va_get (ci := 9) (v := Value.ref h0_price) (C := RX9) (T := TX9) (N := 11) hx hb htl inX9 hown hK hP 0 rfl rfl 7 (by decide) (htl _ fl_RX9_28) (fun _ h9 => h9) rfl dX9_daysWith_3 ?_
  refine lv_iload_n hx hb dX9_daysWith_6 rfl (lv_at hl 1 rfl) ?_
  refine lv_bipush (v := 6) hx hb dX9_daysWith_7 (by decide) ?_
  refine lv_imul hx hb dX9_daysWith_9 ?_
  refine lv_iload_n hx hb dX9_daysWith_10 rfl (lv_at hl 3 rfl) ?_
  refine lv_iadd hx hb dX9_daysWith_11 ?_
  obtain ⟨hq_1, h⟩ := h
  refine va_iald hx hb hK hP 1 0 rfl rfl hq_1 dX9_daysWith_12 ?_
  refine lv_aload_n hx hb dX9_daysWith_13 rfl (lv_at hl 0 rfl) ?_
  refine va_get (ci := 9) (v := Value.ref h0_fewest) (C := RX9) (T := TX9) (N := 11) hx hb htl inX9 hown hK hP 0 rfl rfl 8 (by decide) (htl _ fl_RX9_31) (fun _ h9 => h9) rfl dX9_daysWith_14 ?_
  refine lv_iload_n hx hb dX9_daysWith_17 rfl (lv_at hl 1 rfl) ?_
  refine lv_iconst (v := 1) hx hb dX9_daysWith_18 (by decide) ?_
  refine lv_iadd hx hb dX9_daysWith_19 ?_
  refine lv_bipush (v := 64) hx hb dX9_daysWith_20 (by decide) ?_
  refine lv_imul hx hb dX9_daysWith_22 ?_
  refine lv_iload_n hx hb dX9_daysWith_23 rfl (lv_at hl 2 rfl) ?_
  refine lv_iconst (v := 1) hx hb dX9_daysWith_24 (by decide) ?_
  refine lv_iload_n hx hb dX9_daysWith_25 rfl (lv_at hl 3 rfl) ?_
  refine lv_ishl hx hb dX9_daysWith_26 ?_
  refine lv_ixor hx hb dX9_daysWith_27 ?_
  refine lv_iadd hx hb dX9_daysWith_28 ?_
  obtain ⟨hq_2, h⟩ := h
  refine va_iald hx hb hK hP 2 0 rfl rfl hq_2 dX9_daysWith_29 ?_
  refine lv_iadd hx hb dX9_daysWith_30 ?_
  refine va_mmin hx hb (hml.trans hl.1.symm) hown (htl _ lk_RX9_63) (htl _ lb_s_imin) (htl _ lb_i) (htl _ lb_c_imin) (Nat.le_of_ble_eq_true rfl) (Nat.le_of_ble_eq_true rfl) (Nat.le_of_ble_eq_true rfl) (Nat.le_of_ble_eq_true rfl) dX9_daysWith_31 ?_
  exact W.iret (v := (if ((f_h0_price ((a * 6) + d).toNatClampNeg) + (f_h0_fewest (((a + 1) * 64) + (b ^^^ ((1 : Int32) <<< (d &&& 31)))).toNatClampNeg)) < 1000000 then ((f_h0_price ((a * 6) + d).toNatClampNeg) + (f_h0_fewest (((a + 1) * 64) + (b ^^^ ((1 : Int32) <<< (d &&& 31)))).toNatClampNeg)) else 1000000)) hx hb hr (fun t ht hW => ⟨(if ((f_h0_price ((a * 6) + d).toNatClampNeg) + (f_h0_fewest (((a + 1) * 64) + (b ^^^ ((1 : Int32) <<< (d &&& 31)))).toNatClampNeg)) < 1000000 then ((f_h0_price ((a * 6) + d).toNatClampNeg) + (f_h0_fewest (((a + 1) * 64) + (b ^^^ ((1 : Int32) <<< (d &&& 31)))).toNatClampNeg)) else 1000000), rfl, h, ht⟩) (fun q h => by cases h) dX9_daysWith_34
set_option maxHeartbeats 1000000 in
set_option maxRecDepth 100000 in
theorem lg_X9_fillRow_21 (l : Launch) (G : va_G) (cs : Nat → ClassId) (h0 : Nat) (a : Int32) (b : Int32) (h0_cost : Nat) (h0_endsWay : Nat) (h0_left : Nat) (h0_path : Nat) (h0_steps : Int32) (h0_days : Int32) (h0_told : Nat) (h0_price : Nat) (h0_fewest : Nat) (h0_cellOfShaft : Nat) (h0_chance : Nat) (f_h0_price : Nat → Int32) (f_h0_fewest : Nat → Int32) (f_h0_told : Nat → Int32) (f_h0_cellOfShaft : Nat → Int32) (x_9_0 : Int32) (x_9_1 : Int32) (x_9_2 : Nat → Int32) (Qb : Int32 → Int32 → Prop) {p : Program} {e : Env} {s : State} {m : MethodId} {args : Array Value} {below : List Frame} {meth : Method} {c : Code} {QX : State → Prop} {A : Nat → Prop} (hx : p.tables.exec = Jvm.exec) (hb : c.code = cX9_fillRow) (hml : c.maxLocals = 7) (hown : s.vm.findClass RX9 = some m.cls) (htl : ∀ w ∈ gW, w.before args s = true) (hN : NW s) (hK : va_K G vwCl (tyL cs) s) (hA : ∀ q, s.heap.size ≤ q → A q) (K : ∀ (x_21_0 : Int32) (x_21_1 : Int32), Qb x_21_0 x_21_1 → ∀ (H : Heap) (locs : List Loc) (ls : Array Slot), va_P G vwCl [(h0, Sum.inr (9, [Value.ref h0_cost, Value.ref h0_endsWay, Value.ref h0_left, Value.ref h0_path, Value.int h0_steps, Value.int h0_days, Value.ref h0_told, Value.ref h0_price, Value.ref h0_fewest, Value.ref h0_cellOfShaft, Value.ref h0_chance])), (h0_price, Sum.inl (cs 0, 36, Sum.inl f_h0_price)), (h0_fewest, Sum.inl (cs 0, 448, Sum.inl f_h0_fewest)), (h0_told, Sum.inl (cs 0, 6, Sum.inl f_h0_told)), (h0_cellOfShaft, Sum.inl (cs 0, 6, Sum.inl x_9_2))] H → va_D A [(h0, Sum.inr (9, [Value.ref h0_cost, Value.ref h0_endsWay, Value.ref h0_left, Value.ref h0_path, Value.int h0_steps, Value.int h0_days, Value.ref h0_told, Value.ref h0_price, Value.ref h0_fewest, Value.ref h0_cellOfShaft, Value.ref h0_chance])), (h0_price, Sum.inl (cs 0, 36, Sum.inl f_h0_price)), (h0_fewest, Sum.inl (cs 0, 448, Sum.inl f_h0_fewest)), (h0_told, Sum.inl (cs 0, 6, Sum.inl f_h0_told)), (h0_cellOfShaft, Sum.inl (cs 0, 6, Sum.inl x_9_2))] → va_S A s.heap H locs → lv_has ls 7 [(6, Value.int x_21_0), (5, Value.int x_21_1), (4, Value.int x_9_0), (3, Value.int x_9_1), (0, Value.ref h0), (1, Value.int a), (2, Value.int b)] → W p l e (headSpec (Cond.code yX9_fillRow cX9_fillRow 7 none :: gW) ({ frames := 2, cells := 0, slots := 0, locals := 47 })).room s m args below meth c H locs 0 0 QX (F0 m 76 ls [])) : ∀ (n : Nat) (x_21_0 : Int32) (x_21_1 : Int32), wl_X9_fillRow_21 b f_h0_price f_h0_fewest x_9_0 x_9_1 Qb n x_21_0 x_21_1 → ∀ (H : Heap) (locs : List Loc) (ls : Array Slot), va_P G vwCl [(h0, Sum.inr (9, [Value.ref h0_cost, Value.ref h0_endsWay, Value.ref h0_left, Value.ref h0_path, Value.int h0_steps, Value.int h0_days, Value.ref h0_told, Value.ref h0_price, Value.ref h0_fewest, Value.ref h0_cellOfShaft, Value.ref h0_chance])), (h0_price, Sum.inl (cs 0, 36, Sum.inl f_h0_price)), (h0_fewest, Sum.inl (cs 0, 448, Sum.inl f_h0_fewest)), (h0_told, Sum.inl (cs 0, 6, Sum.inl f_h0_told)), (h0_cellOfShaft, Sum.inl (cs 0, 6, Sum.inl x_9_2))] H → va_D A [(h0, Sum.inr (9, [Value.ref h0_cost, Value.ref h0_endsWay, Value.ref h0_left, Value.ref h0_path, Value.int h0_steps, Value.int h0_days, Value.ref h0_told, Value.ref h0_price, Value.ref h0_fewest, Value.ref h0_cellOfShaft, Value.ref h0_chance])), (h0_price, Sum.inl (cs 0, 36, Sum.inl f_h0_price)), (h0_fewest, Sum.inl (cs 0, 448, Sum.inl f_h0_fewest)), (h0_told, Sum.inl (cs 0, 6, Sum.inl f_h0_told)), (h0_cellOfShaft, Sum.inl (cs 0, 6, Sum.inl x_9_2))] → va_S A s.heap H locs → lv_has ls 7 [(6, Value.int x_21_0), (5, Value.int x_21_1), (4, Value.int x_9_0), (3, Value.int x_9_1), (0, Value.ref h0), (1, Value.int a), (2, Value.int b)] → W p l e (headSpec (Cond.code yX9_fillRow cX9_fillRow 7 none :: gW) ({ frames := 2, cells := 0, slots := 0, locals := 47 })).room s m args below meth c H locs 0 0 QX (F0 m 21 ls []) := by
  intro n
  induction n with
  | zero =>
    intro x_21_0 x_21_1 h
    exact h.elim
  | succ n ih =>
    intro x_21_0 x_21_1 h H locs ls hP hD hS hl
    unfold wl_X9_fillRow_21 at h
    refine lv_iload hx hb dX9_fillRow_21 (lv_at hl 0 rfl) ?_
    refine lv_iload_n hx hb dX9_fillRow_23 rfl (lv_at hl 6 rfl) ?_
    refine lv_icmp_ge (tgt := 76) hx hb dX9_fillRow_24 (by decide) (fun c_24 => ?_) (fun c_24 => ?_)
    · replace h := ok_t h c_24
      exact K x_21_0 x_21_1 h _ _ ls (hP.pick (is := [0, 1, 2, 3, 4]) rfl) (hD.sub [0, 1, 2, 3, 4] rfl rfl) hS (lv_sub hl [0, 1, 2, 3, 4, 5, 6] rfl)
    · replace h := ok_f h c_24
      refine lv_iload hx hb dX9_fillRow_27 (lv_at hl 1 rfl) ?_
      refine lv_iconst (v := (-1)) hx hb dX9_fillRow_29 (by decide) ?_
      refine lv_icmp_ne (tgt := 76) hx hb dX9_fillRow_30 (by decide) (fun c_30 => ?_) (fun c_30 => ?_)
      · replace h := ok_f h c_30
        exact K x_21_0 x_21_1 h _ _ ls (hP.pick (is := [0, 1, 2, 3, 4]) rfl) (hD.sub [0, 1, 2, 3, 4] rfl rfl) hS (lv_sub hl [0, 1, 2, 3, 4, 5, 6] rfl)
      · replace h := ok_t h c_30
        refine lv_iload_n hx hb dX9_fillRow_33 rfl (lv_at hl 3 rfl) ?_
        refine lv_iload hx hb dX9_fillRow_34 (lv_at hl 0 rfl) ?_
        refine lv_ishr hx hb dX9_fillRow_36 ?_
        refine lv_iconst (v := 1) hx hb dX9_fillRow_37 (by decide) ?_
        refine lv_iand hx hb dX9_fillRow_38 ?_
        refine lv_if_eq (tgt := 70) hx hb dX9_fillRow_39 (by decide) (fun c_39 => ?_) (fun c_39 => ?_)
        · replace h := ok_t h c_39
          refine lv_iinc (v := (x_21_0 + 1)) hx hb dX9_fillRow_70 hl (k := 0) rfl (by first | rfl | decide) (by decide) (rfl : _ = ([(6, Value.int (x_21_0 + 1)), (5, Value.int x_21_1), (4, Value.int x_9_0), (3, Value.int x_9_1), (0, Value.ref h0), (1, Value.int a), (2, Value.int b)] : List (Nat × Value))) (fun ls hl => ?_)
          refine lv_goto (tgt := 21) hx hb dX9_fillRow_73 (by decide) ?_
          exact ih (x_21_0 + 1) x_21_1 h _ _ ls (hP.pick (is := [0, 1, 2, 3, 4]) rfl) (hD.sub [0, 1, 2, 3, 4] rfl rfl) hS (lv_sub hl [0, 1, 2, 3, 4, 5, 6] rfl)
        · replace h := ok_f h c_39
          refine lv_aload_n hx hb dX9_fillRow_42 rfl (lv_at hl 4 rfl) ?_
          refine lv_iload hx hb dX9_fillRow_43 (lv_at hl 2 rfl) ?_
          refine lv_iload_n hx hb dX9_fillRow_45 rfl (lv_at hl 3 rfl) ?_
          refine lv_iload hx hb dX9_fillRow_46 (lv_at hl 0 rfl) ?_
          refine vp_callSi (mkVr (rest := []) ⟨hx, hb, hml, hown, htl⟩ hN hK hP (g_X9_daysWith l G cs h0 x_9_0 x_9_1 x_21_0 h0_cost h0_endsWay h0_left h0_path h0_steps h0_days h0_told h0_price h0_fewest h0_cellOfShaft h0_chance (f_h0_price) (f_h0_fewest) _ h) [0, 1, 2] rfl 0 9 rfl rfl (cV 3 htl lk_RX9_116 mI_X9_daysWith mS_X9_daysWith mN_RX9 mC_X9_daysWith ok_X9_daysWith rfl rfl ⟨(Nat.le_of_ble_eq_true rfl), (Nat.le_of_ble_eq_true rfl)⟩) rfl hl.1 rfl (Nat.le_of_ble_eq_true rfl) dX9_fillRow_48 ⟨(Nat.le_of_ble_eq_true rfl), (Nat.le_of_ble_eq_true rfl)⟩) (fun r_48 h => ?_)
          refine lv_aload_n hx hb dX9_fillRow_51 rfl (lv_at hl 4 rfl) ?_
          refine va_get (ci := 9) (v := Value.ref h0_fewest) (C := RX9) (T := TX9) (N := 11) hx hb htl inX9 hown hK hP 0 rfl rfl 8 (by decide) (htl _ fl_RX9_31) (fun _ h9 => h9) rfl dX9_fillRow_52 ?_
          refine lv_iload hx hb dX9_fillRow_55 (lv_at hl 2 rfl) ?_
          refine lv_bipush (v := 64) hx hb dX9_fillRow_57 (by decide) ?_
          refine lv_imul hx hb dX9_fillRow_59 ?_
          refine lv_iload_n hx hb dX9_fillRow_60 rfl (lv_at hl 3 rfl) ?_
          refine lv_iadd hx hb dX9_fillRow_61 ?_
          obtain ⟨hq_2001, h⟩ := h
          refine va_iald hx hb hK hP 2 0 rfl rfl hq_2001 dX9_fillRow_62 ?_
          refine lv_icmp_ne (tgt := 70) hx hb dX9_fillRow_63 (by decide) (fun c_63 => ?_) (fun c_63 => ?_)
          · replace h := ok_f h c_63
            refine lv_iinc (v := (x_21_0 + 1)) hx hb dX9_fillRow_70 hl (k := 0) rfl (by first | rfl | decide) (by decide) (rfl : _ = ([(6, Value.int (x_21_0 + 1)), (5, Value.int x_21_1), (4, Value.int x_9_0), (3, Value.int x_9_1), (0, Value.ref h0), (1, Value.int a), (2, Value.int b)] : List (Nat × Value))) (fun ls hl => ?_)
            refine lv_goto (tgt := 21) hx hb dX9_fillRow_73 (by decide) ?_
            exact ih (x_21_0 + 1) x_21_1 h _ _ ls (hP.pick (is := [0, 1, 2, 3, 4]) rfl) (hD.sub [0, 1, 2, 3, 4] rfl rfl) hS (lv_sub hl [0, 1, 2, 3, 4, 5, 6] rfl)
          · replace h := ok_t h c_63
            refine lv_iload hx hb dX9_fillRow_66 (lv_at hl 0 rfl) ?_
            refine lv_istore hx hb dX9_fillRow_68 hl (by decide) (rfl : _ = ([(5, Value.int x_21_0), (6, Value.int x_21_0), (4, Value.int x_9_0), (3, Value.int x_9_1), (0, Value.ref h0), (1, Value.int a), (2, Value.int b)] : List (Nat × Value))) (fun ls hl => ?_)
            refine lv_iinc (v := (x_21_0 + 1)) hx hb dX9_fillRow_70 hl (k := 1) rfl (by first | rfl | decide) (by decide) (rfl : _ = ([(6, Value.int (x_21_0 + 1)), (5, Value.int x_21_0), (4, Value.int x_9_0), (3, Value.int x_9_1), (0, Value.ref h0), (1, Value.int a), (2, Value.int b)] : List (Nat × Value))) (fun ls hl => ?_)
            refine lv_goto (tgt := 21) hx hb dX9_fillRow_73 (by decide) ?_
            exact ih (x_21_0 + 1) x_21_0 h _ _ ls (hP.pick (is := [0, 1, 2, 3, 4]) rfl) (hD.sub [0, 1, 2, 3, 4] rfl rfl) hS (lv_sub hl [0, 1, 2, 3, 4, 5, 6] rfl)
set_option maxHeartbeats 1000000 in
set_option maxRecDepth 100000 in
theorem lg_X9_fillRow_9 (l : Launch) (G : va_G) (cs : Nat → ClassId) (h0 : Nat) (a : Int32) (b : Int32) (h0_cost : Nat) (h0_endsWay : Nat) (h0_left : Nat) (h0_path : Nat) (h0_steps : Int32) (h0_days : Int32) (h0_told : Nat) (h0_price : Nat) (h0_fewest : Nat) (h0_cellOfShaft : Nat) (h0_chance : Nat) (f_h0_price : Nat → Int32) (f_h0_fewest : Nat → Int32) (f_h0_told : Nat → Int32) (f_h0_cellOfShaft : Nat → Int32) (Qb : Int32 → Int32 → (Nat → Int32) → Prop) {p : Program} {e : Env} {s : State} {m : MethodId} {args : Array Value} {below : List Frame} {meth : Method} {c : Code} {QX : State → Prop} {A : Nat → Prop} (hx : p.tables.exec = Jvm.exec) (hb : c.code = cX9_fillRow) (hml : c.maxLocals = 7) (hown : s.vm.findClass RX9 = some m.cls) (htl : ∀ w ∈ gW, w.before args s = true) (hN : NW s) (hK : va_K G vwCl (tyL cs) s) (hA : ∀ q, s.heap.size ≤ q → A q) (K : ∀ (x_9_0 : Int32) (x_9_1 : Int32) (x_9_2 : Nat → Int32), Qb x_9_0 x_9_1 x_9_2 → ∀ (H : Heap) (locs : List Loc) (ls : Array Slot), va_P G vwCl [(h0, Sum.inr (9, [Value.ref h0_cost, Value.ref h0_endsWay, Value.ref h0_left, Value.ref h0_path, Value.int h0_steps, Value.int h0_days, Value.ref h0_told, Value.ref h0_price, Value.ref h0_fewest, Value.ref h0_cellOfShaft, Value.ref h0_chance])), (h0_price, Sum.inl (cs 0, 36, Sum.inl f_h0_price)), (h0_fewest, Sum.inl (cs 0, 448, Sum.inl f_h0_fewest)), (h0_told, Sum.inl (cs 0, 6, Sum.inl f_h0_told)), (h0_cellOfShaft, Sum.inl (cs 0, 6, Sum.inl x_9_2))] H → va_D A [(h0, Sum.inr (9, [Value.ref h0_cost, Value.ref h0_endsWay, Value.ref h0_left, Value.ref h0_path, Value.int h0_steps, Value.int h0_days, Value.ref h0_told, Value.ref h0_price, Value.ref h0_fewest, Value.ref h0_cellOfShaft, Value.ref h0_chance])), (h0_price, Sum.inl (cs 0, 36, Sum.inl f_h0_price)), (h0_fewest, Sum.inl (cs 0, 448, Sum.inl f_h0_fewest)), (h0_told, Sum.inl (cs 0, 6, Sum.inl f_h0_told)), (h0_cellOfShaft, Sum.inl (cs 0, 6, Sum.inl x_9_2))] → va_S A s.heap H locs → lv_has ls 7 [(4, Value.int x_9_0), (3, Value.int x_9_1), (0, Value.ref h0), (1, Value.int a), (2, Value.int b)] → W p l e (headSpec (Cond.code yX9_fillRow cX9_fillRow 7 none :: gW) ({ frames := 2, cells := 0, slots := 0, locals := 47 })).room s m args below meth c H locs 0 0 QX (F0 m 124 ls [])) : ∀ (n : Nat) (x_9_0 : Int32) (x_9_1 : Int32) (x_9_2 : Nat → Int32), wl_X9_fillRow_9 a b f_h0_price f_h0_fewest f_h0_told Qb n x_9_0 x_9_1 x_9_2 → ∀ (H : Heap) (locs : List Loc) (ls : Array Slot), va_P G vwCl [(h0, Sum.inr (9, [Value.ref h0_cost, Value.ref h0_endsWay, Value.ref h0_left, Value.ref h0_path, Value.int h0_steps, Value.int h0_days, Value.ref h0_told, Value.ref h0_price, Value.ref h0_fewest, Value.ref h0_cellOfShaft, Value.ref h0_chance])), (h0_price, Sum.inl (cs 0, 36, Sum.inl f_h0_price)), (h0_fewest, Sum.inl (cs 0, 448, Sum.inl f_h0_fewest)), (h0_told, Sum.inl (cs 0, 6, Sum.inl f_h0_told)), (h0_cellOfShaft, Sum.inl (cs 0, 6, Sum.inl x_9_2))] H → va_D A [(h0, Sum.inr (9, [Value.ref h0_cost, Value.ref h0_endsWay, Value.ref h0_left, Value.ref h0_path, Value.int h0_steps, Value.int h0_days, Value.ref h0_told, Value.ref h0_price, Value.ref h0_fewest, Value.ref h0_cellOfShaft, Value.ref h0_chance])), (h0_price, Sum.inl (cs 0, 36, Sum.inl f_h0_price)), (h0_fewest, Sum.inl (cs 0, 448, Sum.inl f_h0_fewest)), (h0_told, Sum.inl (cs 0, 6, Sum.inl f_h0_told)), (h0_cellOfShaft, Sum.inl (cs 0, 6, Sum.inl x_9_2))] → va_S A s.heap H locs → lv_has ls 7 [(4, Value.int x_9_0), (3, Value.int x_9_1), (0, Value.ref h0), (1, Value.int a), (2, Value.int b)] → W p l e (headSpec (Cond.code yX9_fillRow cX9_fillRow 7 none :: gW) ({ frames := 2, cells := 0, slots := 0, locals := 47 })).room s m args below meth c H locs 0 0 QX (F0 m 9 ls []) := by
  intro n
  induction n with
  | zero =>
    intro x_9_0 x_9_1 x_9_2 h
    exact h.elim
  | succ n ih =>
    intro x_9_0 x_9_1 x_9_2 h H locs ls hP hD hS hl
    unfold wl_X9_fillRow_9 at h
    refine lv_iload hx hb dX9_fillRow_9 (lv_at hl 0 rfl) ?_
    refine lv_iload_n hx hb dX9_fillRow_11 rfl (lv_at hl 3 rfl) ?_
    refine lv_icmp_ge (tgt := 124) hx hb dX9_fillRow_12 (by decide) (fun c_12 => ?_) (fun c_12 => ?_)
    · replace h := ok_t h c_12
      exact K x_9_0 x_9_1 x_9_2 h _ _ ls (hP.pick (is := [0, 1, 2, 3, 4]) rfl) (hD.sub [0, 1, 2, 3, 4] rfl rfl) hS (lv_sub hl [0, 1, 2, 3, 4] rfl)
    · replace h := ok_f h c_12
      refine lv_iconst (v := (-1)) hx hb dX9_fillRow_15 (by decide) ?_
      refine lv_istore hx hb dX9_fillRow_16 hl (by decide) (rfl : _ = ([(5, Value.int (-1)), (4, Value.int x_9_0), (3, Value.int x_9_1), (0, Value.ref h0), (1, Value.int a), (2, Value.int b)] : List (Nat × Value))) (fun ls hl => ?_)
      refine lv_iconst (v := 0) hx hb dX9_fillRow_18 (by decide) ?_
      refine lv_istore hx hb dX9_fillRow_19 hl (by decide) (rfl : _ = ([(6, Value.int 0), (5, Value.int (-1)), (4, Value.int x_9_0), (3, Value.int x_9_1), (0, Value.ref h0), (1, Value.int a), (2, Value.int b)] : List (Nat × Value))) (fun ls hl => ?_)
      refine lg_X9_fillRow_21 l G cs h0 a b h0_cost h0_endsWay h0_left h0_path h0_steps h0_days h0_told h0_price h0_fewest h0_cellOfShaft h0_chance f_h0_price f_h0_fewest f_h0_told f_h0_cellOfShaft x_9_0 x_9_1 x_9_2 _ hx hb hml hown htl hN hK hA (fun x_21_0 x_21_1 h H locs ls hP hD hS hl => ?_) 1000000000000 0 (-1) h _ _ ls hP hD hS (lv_sub hl [0, 1, 2, 3, 4, 5, 6] rfl)
      refine lv_aload_n hx hb dX9_fillRow_76 rfl (lv_at hl 4 rfl) ?_
      refine va_get (ci := 9) (v := Value.ref h0_cellOfShaft) (C := RX9) (T := TX9) (N := 11) hx hb htl inX9 hown hK hP 0 rfl rfl 9 (by decide) (htl _ fl_RX9_34) (fun _ h9 => h9) rfl dX9_fillRow_77 ?_
      refine lv_iload hx hb dX9_fillRow_80 (lv_at hl 2 rfl) ?_
      refine lv_iload hx hb dX9_fillRow_82 (lv_at hl 1 rfl) ?_
      refine lv_iconst (v := (-1)) hx hb dX9_fillRow_84 (by decide) ?_
      obtain ⟨k_100, e_100, h⟩ := ex_j h
      refine jnM (G := G) (A := A) (nL := 7) (k := k_100) (J := 100) (fun (y_100 : Int32) => [(h0, Sum.inr (9, [Value.ref h0_cost, Value.ref h0_endsWay, Value.ref h0_left, Value.ref h0_path, Value.int h0_steps, Value.int h0_days, Value.ref h0_told, Value.ref h0_price, Value.ref h0_fewest, Value.ref h0_cellOfShaft, Value.ref h0_chance])), (h0_price, Sum.inl (cs 0, 36, Sum.inl f_h0_price)), (h0_fewest, Sum.inl (cs 0, 448, Sum.inl f_h0_fewest)), (h0_told, Sum.inl (cs 0, 6, Sum.inl f_h0_told)), (h0_cellOfShaft, Sum.inl (cs 0, 6, Sum.inl x_9_2))]) (fun (y_100 : Int32) => [(0, Value.ref h0), (1, Value.int a), (2, Value.int b), (3, Value.int x_9_1), (4, Value.int x_9_0), (5, Value.int x_21_1)]) (fun (y_100 : Int32) => [Value.int y_100, Value.int x_9_0, Value.ref h0_cellOfShaft]) (fun y_100 h H locs ls hP hD hS hl => ?_) (fun K_100 => ?_)
      · rw [e_100] at h
        have hl : lv_has ls 7 [(0, Value.ref h0), (1, Value.int a), (2, Value.int b), (3, Value.int x_9_1), (4, Value.int x_9_0), (5, Value.int x_21_1)] := hl
        obtain ⟨hP, hD⟩ := PD_as hP [(h0, Sum.inr (9, [Value.ref h0_cost, Value.ref h0_endsWay, Value.ref h0_left, Value.ref h0_path, Value.int h0_steps, Value.int h0_days, Value.ref h0_told, Value.ref h0_price, Value.ref h0_fewest, Value.ref h0_cellOfShaft, Value.ref h0_chance])), (h0_price, Sum.inl (cs 0, 36, Sum.inl f_h0_price)), (h0_fewest, Sum.inl (cs 0, 448, Sum.inl f_h0_fewest)), (h0_told, Sum.inl (cs 0, 6, Sum.inl f_h0_told)), (h0_cellOfShaft, Sum.inl (cs 0, 6, Sum.inl x_9_2))] rfl hD
        refine W.eq (g2 := F0 m 100 ls [Value.int y_100, Value.int x_9_0, Value.ref h0_cellOfShaft]) rfl ?_
        obtain ⟨hq_2001, h⟩ := h
        refine va_iast hx hb hK hP hD hS 4 0 rfl rfl hq_2001 dX9_fillRow_100 (fun H locs hP hD hS => ?_)
        obtain ⟨hP, hD⟩ := PD_as hP [(h0, Sum.inr (9, [Value.ref h0_cost, Value.ref h0_endsWay, Value.ref h0_left, Value.ref h0_path, Value.int h0_steps, Value.int h0_days, Value.ref h0_told, Value.ref h0_price, Value.ref h0_fewest, Value.ref h0_cellOfShaft, Value.ref h0_chance])), (h0_price, Sum.inl (cs 0, 36, Sum.inl f_h0_price)), (h0_fewest, Sum.inl (cs 0, 448, Sum.inl f_h0_fewest)), (h0_told, Sum.inl (cs 0, 6, Sum.inl f_h0_told)), (h0_cellOfShaft, Sum.inl (cs 0, 6, Sum.inl (upd x_9_2 x_9_0.toNatClampNeg y_100)))] rfl hD
        refine lv_iload hx hb dX9_fillRow_101 (lv_at hl 5 rfl) ?_
        refine lv_iconst (v := (-1)) hx hb dX9_fillRow_103 (by decide) ?_
        refine lv_icmp_ne (tgt := 111) hx hb dX9_fillRow_104 (by decide) (fun c_104 => ?_) (fun c_104 => ?_)
        · replace h := ok_f h c_104
          refine lv_iload_n hx hb dX9_fillRow_111 rfl (lv_at hl 3 rfl) ?_
          refine lv_iconst (v := 1) hx hb dX9_fillRow_112 (by decide) ?_
          refine lv_iload hx hb dX9_fillRow_113 (lv_at hl 5 rfl) ?_
          refine lv_ishl hx hb dX9_fillRow_115 ?_
          refine lv_ixor hx hb dX9_fillRow_116 ?_
          refine lv_istore_n hx hb dX9_fillRow_117 rfl hl (by decide) (rfl : _ = ([(3, Value.int (x_9_1 ^^^ ((1 : Int32) <<< (x_21_1 &&& 31)))), (0, Value.ref h0), (1, Value.int a), (2, Value.int b), (4, Value.int x_9_0), (5, Value.int x_21_1)] : List (Nat × Value))) (fun ls hl => ?_)
          refine lv_iinc (v := (x_9_0 + 1)) hx hb dX9_fillRow_118 hl (k := 4) rfl (by first | rfl | decide) (by decide) (rfl : _ = ([(4, Value.int (x_9_0 + 1)), (3, Value.int (x_9_1 ^^^ ((1 : Int32) <<< (x_21_1 &&& 31)))), (0, Value.ref h0), (1, Value.int a), (2, Value.int b), (5, Value.int x_21_1)] : List (Nat × Value))) (fun ls hl => ?_)
          refine lv_goto (tgt := 9) hx hb dX9_fillRow_121 (by decide) ?_
          exact ih (x_9_0 + 1) (x_9_1 ^^^ ((1 : Int32) <<< (x_21_1 &&& 31))) (upd x_9_2 x_9_0.toNatClampNeg y_100) h _ _ ls (hP.pick (is := [0, 1, 2, 3, 4]) rfl) (hD.sub [0, 1, 2, 3, 4] rfl rfl) hS (lv_sub hl [0, 1, 2, 3, 4] rfl)
        · replace h := ok_t h c_104
          refine lv_iload_n hx hb dX9_fillRow_107 rfl (lv_at hl 3 rfl) ?_
          refine lv_goto (tgt := 117) hx hb dX9_fillRow_108 (by decide) ?_
          refine lv_istore_n hx hb dX9_fillRow_117 rfl hl (by decide) (rfl : _ = ([(3, Value.int x_9_1), (0, Value.ref h0), (1, Value.int a), (2, Value.int b), (4, Value.int x_9_0), (5, Value.int x_21_1)] : List (Nat × Value))) (fun ls hl => ?_)
          refine lv_iinc (v := (x_9_0 + 1)) hx hb dX9_fillRow_118 hl (k := 4) rfl (by first | rfl | decide) (by decide) (rfl : _ = ([(4, Value.int (x_9_0 + 1)), (3, Value.int x_9_1), (0, Value.ref h0), (1, Value.int a), (2, Value.int b), (5, Value.int x_21_1)] : List (Nat × Value))) (fun ls hl => ?_)
          refine lv_goto (tgt := 9) hx hb dX9_fillRow_121 (by decide) ?_
          exact ih (x_9_0 + 1) x_9_1 (upd x_9_2 x_9_0.toNatClampNeg y_100) h _ _ ls (hP.pick (is := [0, 1, 2, 3, 4]) rfl) (hD.sub [0, 1, 2, 3, 4] rfl rfl) hS (lv_sub hl [0, 1, 2, 3, 4] rfl)
      · clear e_100
        refine lv_icmp_ne (tgt := 93) hx hb dX9_fillRow_85 (by decide) (fun c_85 => ?_) (fun c_85 => ?_)
        · replace h := ok_f h c_85
          refine lv_aload_n hx hb dX9_fillRow_93 rfl (lv_at hl 4 rfl) ?_
          refine va_get (ci := 9) (v := Value.ref h0_told) (C := RX9) (T := TX9) (N := 11) hx hb htl inX9 hown hK hP 0 rfl rfl 6 (by decide) (htl _ fl_RX9_25) (fun _ h9 => h9) rfl dX9_fillRow_94 ?_
          refine lv_iload hx hb dX9_fillRow_97 (lv_at hl 1 rfl) ?_
          obtain ⟨hq_2002, h⟩ := h
          refine va_iald hx hb hK hP 3 0 rfl rfl hq_2002 dX9_fillRow_99 ?_
          exact K_100 (f_h0_told x_21_1.toNatClampNeg) h H locs ls (hP.pick (is := [0, 1, 2, 3, 4]) rfl) (hD.sub [0, 1, 2, 3, 4] rfl rfl) hS (lv_sub hl [4, 5, 6, 3, 2, 1] rfl)
        · replace h := ok_t h c_85
          refine lv_bipush (v := 100) hx hb dX9_fillRow_88 (by decide) ?_
          refine lv_goto (tgt := 100) hx hb dX9_fillRow_90 (by decide) ?_
          exact K_100 100 h H locs ls (hP.pick (is := [0, 1, 2, 3, 4]) rfl) (hD.sub [0, 1, 2, 3, 4] rfl rfl) hS (lv_sub hl [4, 5, 6, 3, 2, 1] rfl)
set_option maxHeartbeats 1000000 in
set_option maxRecDepth 100000 in
theorem g_X9_fillRow (l : Launch) (G : va_G) (cs : Nat → ClassId) (h0 : Nat) (a : Int32) (b : Int32) (h0_cost : Nat) (h0_endsWay : Nat) (h0_left : Nat) (h0_path : Nat) (h0_steps : Int32) (h0_days : Int32) (h0_told : Nat) (h0_price : Nat) (h0_fewest : Nat) (h0_cellOfShaft : Nat) (h0_chance : Nat) (f_h0_price : Nat → Int32) (f_h0_fewest : Nat → Int32) (f_h0_told : Nat → Int32) (f_h0_cellOfShaft : Nat → Int32) (sz : Nat) (Q : (Nat → Int32) → Prop) (h : wp_X9_fillRow a b f_h0_price f_h0_fewest f_h0_told f_h0_cellOfShaft Q) : Met l yX9_fillRow (Cond.code yX9_fillRow cX9_fillRow 7 none :: gW) ({ frames := 2, cells := 0, slots := 0, locals := 47 }) (va_Pc [Value.ref h0, Value.int a, Value.int b] (Pre G cs [(h0, Sum.inr (9, [Value.ref h0_cost, Value.ref h0_endsWay, Value.ref h0_left, Value.ref h0_path, Value.int h0_steps, Value.int h0_days, Value.ref h0_told, Value.ref h0_price, Value.ref h0_fewest, Value.ref h0_cellOfShaft, Value.ref h0_chance])), (h0_price, Sum.inl (cs 0, 36, Sum.inl f_h0_price)), (h0_fewest, Sum.inl (cs 0, 448, Sum.inl f_h0_fewest)), (h0_told, Sum.inl (cs 0, 6, Sum.inl f_h0_told)), (h0_cellOfShaft, Sum.inl (cs 0, 6, Sum.inl f_h0_cellOfShaft))] sz)) (va_Qv (fun (u : Nat → Int32) => Q u) (fun (u : Nat → Int32) t => Aft G cs (va_A [(h0, Sum.inr (9, [Value.ref h0_cost, Value.ref h0_endsWay, Value.ref h0_left, Value.ref h0_path, Value.int h0_steps, Value.int h0_days, Value.ref h0_told, Value.ref h0_price, Value.ref h0_fewest, Value.ref h0_cellOfShaft, Value.ref h0_chance])), (h0_price, Sum.inl (cs 0, 36, Sum.inl f_h0_price)), (h0_fewest, Sum.inl (cs 0, 448, Sum.inl f_h0_fewest)), (h0_told, Sum.inl (cs 0, 6, Sum.inl f_h0_told)), (h0_cellOfShaft, Sum.inl (cs 0, 6, Sum.inl f_h0_cellOfShaft))] sz) [(h0, Sum.inr (9, [Value.ref h0_cost, Value.ref h0_endsWay, Value.ref h0_left, Value.ref h0_path, Value.int h0_steps, Value.int h0_days, Value.ref h0_told, Value.ref h0_price, Value.ref h0_fewest, Value.ref h0_cellOfShaft, Value.ref h0_chance])), (h0_price, Sum.inl (cs 0, 36, Sum.inl f_h0_price)), (h0_fewest, Sum.inl (cs 0, 448, Sum.inl f_h0_fewest)), (h0_told, Sum.inl (cs 0, 6, Sum.inl f_h0_told)), (h0_cellOfShaft, Sum.inl (cs 0, 6, Sum.inl u))] t) (va_A [(h0, Sum.inr (9, [Value.ref h0_cost, Value.ref h0_endsWay, Value.ref h0_left, Value.ref h0_path, Value.int h0_steps, Value.int h0_days, Value.ref h0_told, Value.ref h0_price, Value.ref h0_fewest, Value.ref h0_cellOfShaft, Value.ref h0_chance])), (h0_price, Sum.inl (cs 0, 36, Sum.inl f_h0_price)), (h0_fewest, Sum.inl (cs 0, 448, Sum.inl f_h0_fewest)), (h0_told, Sum.inl (cs 0, 6, Sum.inl f_h0_told)), (h0_cellOfShaft, Sum.inl (cs 0, 6, Sum.inl f_h0_cellOfShaft))] sz)) 0 0 (va_A [(h0, Sum.inr (9, [Value.ref h0_cost, Value.ref h0_endsWay, Value.ref h0_left, Value.ref h0_path, Value.int h0_steps, Value.int h0_days, Value.ref h0_told, Value.ref h0_price, Value.ref h0_fewest, Value.ref h0_cellOfShaft, Value.ref h0_chance])), (h0_price, Sum.inl (cs 0, 36, Sum.inl f_h0_price)), (h0_fewest, Sum.inl (cs 0, 448, Sum.inl f_h0_fewest)), (h0_told, Sum.inl (cs 0, 6, Sum.inl f_h0_told)), (h0_cellOfShaft, Sum.inl (cs 0, 6, Sum.inl f_h0_cellOfShaft))] sz) := by
  unfold wp_X9_fillRow at h
  refine Met.ofW (cc := cX9_fillRow) (maxL := 7) (ret := none) (by decide) rfl ?_
  intro p e s m args below meth c s₁ B hml hv
  obtain ⟨rfl, hsz, hP, hK, hD0, hN⟩ := hv
  have hx := B.exec
  have hb := B.bytes
  have hr := B.returns
  have hts := atoms_spec (ws := Cond.code yX9_fillRow cX9_fillRow 7 none :: gW) B.pre
  have htl : ∀ w ∈ gW, w.before _ s = true := fun w h => hts w (List.mem_cons_of_mem _ h)
  have hown : s.vm.findClass RX9 = some m.cls := findClass_of_methodNamed B.named
  have hlocks := B.notSynchronized
  subst hsz
  have hD := hD0.self (sz := s.heap.size)
  generalize hAe : va_A [(h0, Sum.inr (9, [Value.ref h0_cost, Value.ref h0_endsWay, Value.ref h0_left, Value.ref h0_path, Value.int h0_steps, Value.int h0_days, Value.ref h0_told, Value.ref h0_price, Value.ref h0_fewest, Value.ref h0_cellOfShaft, Value.ref h0_chance])), (h0_price, Sum.inl (cs 0, 36, Sum.inl f_h0_price)), (h0_fewest, Sum.inl (cs 0, 448, Sum.inl f_h0_fewest)), (h0_told, Sum.inl (cs 0, 6, Sum.inl f_h0_told)), (h0_cellOfShaft, Sum.inl (cs 0, 6, Sum.inl f_h0_cellOfShaft))] s.heap.size = A at hD ⊢
  have hA : ∀ q : Nat, s.heap.size ≤ q → A q := fun q h => by rw [← hAe]; exact Or.inr h
  have hS : va_S A s.heap s.heap [] := va_S.rf
  have hl := lv_entry ([Value.ref h0, Value.int a, Value.int b]) (n := 7) (Nat.le_of_ble_eq_true rfl)
  rw [lg_entry_eq]
  generalize (lg_sl ([Value.ref h0, Value.int a, Value.int b]) ++ List.replicate (7 - (lg_sl ([Value.ref h0, Value.int a, Value.int b])).length) Slot.unset).toArray = ls at hl ⊢
  have hl : lv_has ls 7 [(0, Value.ref h0), (1, Value.int a), (2, Value.int b)] := hl
  refine lv_iconst (v := 1) hx hb dX9_fillRow_0 (by decide) ?_
  refine lv_iload_n hx hb dX9_fillRow_1 rfl (lv_at hl 2 rfl) ?_
  refine lv_ishl hx hb dX9_fillRow_2 ?_
  refine lv_iconst (v := 1) hx hb dX9_fillRow_3 (by decide) ?_
  refine lv_isub hx hb dX9_fillRow_4 ?_
  refine lv_istore_n hx hb dX9_fillRow_5 rfl hl (by decide) (rfl : _ = ([(3, Value.int (((1 : Int32) <<< (b &&& 31)) - 1)), (0, Value.ref h0), (1, Value.int a), (2, Value.int b)] : List (Nat × Value))) (fun ls hl => ?_)
  refine lv_iconst (v := 0) hx hb dX9_fillRow_6 (by decide) ?_
  refine lv_istore hx hb dX9_fillRow_7 hl (by decide) (rfl : _ = ([(4, Value.int 0), (3, Value.int (((1 : Int32) <<< (b &&& 31)) - 1)), (0, Value.ref h0), (1, Value.int a), (2, Value.int b)] : List (Nat × Value))) (fun ls hl => ?_)
  refine lg_X9_fillRow_9 l G cs h0 a b h0_cost h0_endsWay h0_left h0_path h0_steps h0_days h0_told h0_price h0_fewest h0_cellOfShaft h0_chance f_h0_price f_h0_fewest f_h0_told f_h0_cellOfShaft _ hx hb hml hown htl hN hK hA (fun x_9_0 x_9_1 x_9_2 h H locs ls hP hD hS hl => ?_) 1000000000000 0 (((1 : Int32) <<< (b &&& 31)) - 1) f_h0_cellOfShaft h _ _ ls hP hD hS (lv_sub hl [0, 1, 2, 3, 4] rfl)
  obtain ⟨hP9, hD9⟩ := PD_pk hP hD [(h0, Sum.inr (9, [Value.ref h0_cost, Value.ref h0_endsWay, Value.ref h0_left, Value.ref h0_path, Value.int h0_steps, Value.int h0_days, Value.ref h0_told, Value.ref h0_price, Value.ref h0_fewest, Value.ref h0_cellOfShaft, Value.ref h0_chance])), (h0_price, Sum.inl (cs 0, 36, Sum.inl f_h0_price)), (h0_fewest, Sum.inl (cs 0, 448, Sum.inl f_h0_fewest)), (h0_told, Sum.inl (cs 0, 6, Sum.inl f_h0_told)), (h0_cellOfShaft, Sum.inl (cs 0, 6, Sum.inl x_9_2))] [0, 1, 2, 3, 4] rfl rfl
  exact W.vret hx hb hr (fun t ht hW => ⟨⟨x_9_2, rfl, h, ⟨by rw [ht]; exact hP9, va_K.moved hW.alike hK, hD9⟩⟩, hS.F ht⟩) hS.2.2 dX9_fillRow_124
set_option maxHeartbeats 1000000 in
set_option maxRecDepth 100000 in
theorem g_X10_lawOf_N (l : Launch) (G : va_G) (cs : Nat → ClassId) (h0 : Nat) (a : Int32) (h0_rock : Nat) (h0_crew : Nat) (h0_folk : Nat) (h0_term : Nat) (h0_laws : Nat) (h0_lawCount : Int32) (h0_force : Int32) (f_h0_laws : Nat → Option Nat) (Q : Prop) (h : wp_X10_lawOf_N a h0_lawCount f_h0_laws Q) : Met l yX10_lawOf (Cond.code yX10_lawOf cX10_lawOf 2 (some (.object "ListenWells$Text")) :: gW) ({ frames := 0, cells := 0, slots := 0, locals := 0 }) (va_Pc [Value.ref h0, Value.int a] (PrS G cs [(h0, Sum.inr (10, [Value.ref h0_rock, Value.ref h0_crew, Value.ref h0_folk, Value.ref h0_term, Value.ref h0_laws, Value.int h0_lawCount, Value.int h0_force])), (h0_laws, Sum.inl (cs 3, 6, Sum.inr (Sum.inr (Sum.inr (Sum.inr f_h0_laws)))))])) (va_Sr (fun _ => Q) (fun _ => Value.null)) 0 0 (fun _ => False) := by
  unfold wp_X10_lawOf_N at h
  refine Met.ofW (cc := cX10_lawOf) (maxL := 2) (ret := (some (.object "ListenWells$Text"))) (by decide) rfl ?_
  intro p e s m args below meth c s₁ B hml hv
  obtain ⟨rfl, hP, hK, hN⟩ := hv
  have hx := B.exec
  have hb := B.bytes
  have hr := B.returns
  have hts := atoms_spec (ws := Cond.code yX10_lawOf cX10_lawOf 2 (some (.object "ListenWells$Text")) :: gW) B.pre
  have htl : ∀ w ∈ gW, w.before _ s = true := fun w h => hts w (List.mem_cons_of_mem _ h)
  have hown : s.vm.findClass RX10 = some m.cls := findClass_of_methodNamed B.named
  have hlocks := B.notSynchronized
  have hl := lv_entry ([Value.ref h0, Value.int a]) (n := 2) (Nat.le_of_ble_eq_true rfl)
  rw [lg_entry_eq]
  generalize (lg_sl ([Value.ref h0, Value.int a]) ++ List.replicate (2 - (lg_sl ([Value.ref h0, Value.int a])).length) Slot.unset).toArray = ls at hl ⊢
  have hl : lv_has ls 2 [(0, Value.ref h0), (1, Value.int a)] := hl
  refine lv_iload_n hx hb dX10_lawOf_0 rfl (lv_at hl 1 rfl) ?_
  refine lv_if_lt (tgt := 27) hx hb dX10_lawOf_1 (by decide) (fun c_1 => ?_) (fun c_1 => ?_)
  · replace h := ok_t h c_1
    refine lv_null hx hb dX10_lawOf_27 ?_
    exact W.aret (v := Value.null) hx hb hr (by first | exact Or.inl ⟨_, rfl⟩ | exact Or.inr ⟨_, rfl⟩) (Or.inl rfl) (fun t ht hW => ⟨0, rfl, h, ht⟩) (fun q h => by cases h) dX10_lawOf_28
  · replace h := ok_f h c_1
    refine lv_iload_n hx hb dX10_lawOf_4 rfl (lv_at hl 1 rfl) ?_
    refine lv_aload_n hx hb dX10_lawOf_5 rfl (lv_at hl 0 rfl) ?_
    refine va_get (ci := 10) (v := Value.int h0_lawCount) (C := RX10) (T := TX10) (N := 7) hx hb htl inX10 hown hK hP 0 rfl rfl 5 (by decide) (htl _ fl_RX10_46) (fun _ h9 => h9) rfl dX10_lawOf_6 ?_
    refine lv_icmp_ge (tgt := 27) hx hb dX10_lawOf_9 (by decide) (fun c_9 => ?_) (fun c_9 => ?_)
    · replace h := ok_t h c_9
      refine lv_null hx hb dX10_lawOf_27 ?_
      exact W.aret (v := Value.null) hx hb hr (by first | exact Or.inl ⟨_, rfl⟩ | exact Or.inr ⟨_, rfl⟩) (Or.inl rfl) (fun t ht hW => ⟨0, rfl, h, ht⟩) (fun q h => by cases h) dX10_lawOf_28
    · replace h := ok_f h c_9
      refine lv_iload_n hx hb dX10_lawOf_12 rfl (lv_at hl 1 rfl) ?_
      refine lv_bipush (v := 6) hx hb dX10_lawOf_13 (by decide) ?_
      refine lv_icmp_ge (tgt := 27) hx hb dX10_lawOf_15 (by decide) (fun c_15 => ?_) (fun c_15 => ?_)
      · replace h := ok_t h c_15
        refine lv_null hx hb dX10_lawOf_27 ?_
        exact W.aret (v := Value.null) hx hb hr (by first | exact Or.inl ⟨_, rfl⟩ | exact Or.inr ⟨_, rfl⟩) (Or.inl rfl) (fun t ht hW => ⟨0, rfl, h, ht⟩) (fun q h => by cases h) dX10_lawOf_28
      · replace h := ok_f h c_15
        refine lv_aload_n hx hb dX10_lawOf_18 rfl (lv_at hl 0 rfl) ?_
        refine va_get (ci := 10) (v := Value.ref h0_laws) (C := RX10) (T := TX10) (N := 7) hx hb htl inX10 hown hK hP 0 rfl rfl 4 (by decide) (htl _ fl_RX10_38) (fun _ h9 => h9) rfl dX10_lawOf_19 ?_
        refine lv_iload_n hx hb dX10_lawOf_22 rfl (lv_at hl 1 rfl) ?_
        obtain ⟨hq_1, h⟩ := h
        refine va_aldq hx hb hK hP 1 3 rfl rfl hq_1 dX10_lawOf_23 ?_
        refine lv_goto (tgt := 28) hx hb dX10_lawOf_24 (by decide) ?_
        obtain ⟨hq_2, h⟩ := h
        refine W.eq (g2 := F0 m 28 ls [Value.null]) (by rw [hq_2]; rfl) ?_
        exact W.aret (v := Value.null) hx hb hr (by first | exact Or.inl ⟨_, rfl⟩ | exact Or.inr ⟨_, rfl⟩) (Or.inl rfl) (fun t ht hW => ⟨0, rfl, h, ht⟩) (fun q h => by cases h) dX10_lawOf_28
set_option maxHeartbeats 1000000 in
set_option maxRecDepth 100000 in
theorem g_X10_lawOf_T (l : Launch) (G : va_G) (cs : Nat → ClassId) (h0 : Nat) (a : Int32) (h0_rock : Nat) (h0_crew : Nat) (h0_folk : Nat) (h0_term : Nat) (h0_laws : Nat) (h0_lawCount : Int32) (h0_force : Int32) (f_h0_laws : Nat → Option Nat) (t : Nat) (Q : Prop) (h : wp_X10_lawOf_T a h0_lawCount f_h0_laws t Q) : Met l yX10_lawOf (Cond.code yX10_lawOf cX10_lawOf 2 (some (.object "ListenWells$Text")) :: gW) ({ frames := 0, cells := 0, slots := 0, locals := 0 }) (va_Pc [Value.ref h0, Value.int a] (PrS G cs [(h0, Sum.inr (10, [Value.ref h0_rock, Value.ref h0_crew, Value.ref h0_folk, Value.ref h0_term, Value.ref h0_laws, Value.int h0_lawCount, Value.int h0_force])), (h0_laws, Sum.inl (cs 3, 6, Sum.inr (Sum.inr (Sum.inr (Sum.inr f_h0_laws)))))])) (va_Sr (fun _ => Q) (fun _ => Value.ref t)) 0 0 (fun _ => False) := by
  unfold wp_X10_lawOf_T at h
  refine Met.ofW (cc := cX10_lawOf) (maxL := 2) (ret := (some (.object "ListenWells$Text"))) (by decide) rfl ?_
  intro p e s m args below meth c s₁ B hml hv
  obtain ⟨rfl, hP, hK, hN⟩ := hv
  have hx := B.exec
  have hb := B.bytes
  have hr := B.returns
  have hts := atoms_spec (ws := Cond.code yX10_lawOf cX10_lawOf 2 (some (.object "ListenWells$Text")) :: gW) B.pre
  have htl : ∀ w ∈ gW, w.before _ s = true := fun w h => hts w (List.mem_cons_of_mem _ h)
  have hown : s.vm.findClass RX10 = some m.cls := findClass_of_methodNamed B.named
  have hlocks := B.notSynchronized
  have hl := lv_entry ([Value.ref h0, Value.int a]) (n := 2) (Nat.le_of_ble_eq_true rfl)
  rw [lg_entry_eq]
  generalize (lg_sl ([Value.ref h0, Value.int a]) ++ List.replicate (2 - (lg_sl ([Value.ref h0, Value.int a])).length) Slot.unset).toArray = ls at hl ⊢
  have hl : lv_has ls 2 [(0, Value.ref h0), (1, Value.int a)] := hl
  refine lv_iload_n hx hb dX10_lawOf_0 rfl (lv_at hl 1 rfl) ?_
  refine lv_if_lt (tgt := 27) hx hb dX10_lawOf_1 (by decide) (fun c_1 => ?_) (fun c_1 => ?_)
  · replace h := ok_t h c_1
    refine lv_null hx hb dX10_lawOf_27 ?_
    obtain ⟨hq_1, h⟩ := h
    exact hq_1.elim
  · replace h := ok_f h c_1
    refine lv_iload_n hx hb dX10_lawOf_4 rfl (lv_at hl 1 rfl) ?_
    refine lv_aload_n hx hb dX10_lawOf_5 rfl (lv_at hl 0 rfl) ?_
    refine va_get (ci := 10) (v := Value.int h0_lawCount) (C := RX10) (T := TX10) (N := 7) hx hb htl inX10 hown hK hP 0 rfl rfl 5 (by decide) (htl _ fl_RX10_46) (fun _ h9 => h9) rfl dX10_lawOf_6 ?_
    refine lv_icmp_ge (tgt := 27) hx hb dX10_lawOf_9 (by decide) (fun c_9 => ?_) (fun c_9 => ?_)
    · replace h := ok_t h c_9
      refine lv_null hx hb dX10_lawOf_27 ?_
      obtain ⟨hq_2, h⟩ := h
      exact hq_2.elim
    · replace h := ok_f h c_9
      refine lv_iload_n hx hb dX10_lawOf_12 rfl (lv_at hl 1 rfl) ?_
      refine lv_bipush (v := 6) hx hb dX10_lawOf_13 (by decide) ?_
      refine lv_icmp_ge (tgt := 27) hx hb dX10_lawOf_15 (by decide) (fun c_15 => ?_) (fun c_15 => ?_)
      · replace h := ok_t h c_15
        refine lv_null hx hb dX10_lawOf_27 ?_
        obtain ⟨hq_3, h⟩ := h
        exact hq_3.elim
      · replace h := ok_f h c_15
        refine lv_aload_n hx hb dX10_lawOf_18 rfl (lv_at hl 0 rfl) ?_
        refine va_get (ci := 10) (v := Value.ref h0_laws) (C := RX10) (T := TX10) (N := 7) hx hb htl inX10 hown hK hP 0 rfl rfl 4 (by decide) (htl _ fl_RX10_38) (fun _ h9 => h9) rfl dX10_lawOf_19 ?_
        refine lv_iload_n hx hb dX10_lawOf_22 rfl (lv_at hl 1 rfl) ?_
        obtain ⟨hq_4, h⟩ := h
        refine va_aldq hx hb hK hP 1 3 rfl rfl hq_4 dX10_lawOf_23 ?_
        refine lv_goto (tgt := 28) hx hb dX10_lawOf_24 (by decide) ?_
        obtain ⟨hq_5, h⟩ := h
        refine W.eq (g2 := F0 m 28 ls [Value.ref t]) (by rw [hq_5]; rfl) ?_
        exact W.aret (v := Value.ref t) hx hb hr (by first | exact Or.inl ⟨_, rfl⟩ | exact Or.inr ⟨_, rfl⟩) (Or.inr ⟨_, rfl⟩) (fun t ht hW => ⟨0, rfl, h, ht⟩) (fun q h => by cases h) dX10_lawOf_28
end
section
def yX10_lawInForce : MethodName := ⟨RX10, "lawInForce", "()LListenWells$Text;"⟩
abbrev cX10_lawInForce : ByteArray := prog_12_method_5_code
theorem dB_566 : (decode cX10_lawInForce 0 = .ok (.aload_n 0, 1)) ∧ (decode cX10_lawInForce 1 = .ok (.aload_n 0, 1)) ∧ (decode cX10_lawInForce 2 = .ok (.getfield 42, 3)) ∧ (decode cX10_lawInForce 5 = .ok (.invokevirtual 49, 3)) ∧ (decode cX10_lawInForce 8 = .ok (.areturn, 1)) := by decide +kernel
theorem dX10_lawInForce_0 : decode cX10_lawInForce 0 = .ok (.aload_n 0, 1) := dB_566.1
theorem dX10_lawInForce_1 : decode cX10_lawInForce 1 = .ok (.aload_n 0, 1) := dB_566.2.1
theorem dX10_lawInForce_2 : decode cX10_lawInForce 2 = .ok (.getfield 42, 3) := dB_566.2.2.1
theorem dX10_lawInForce_5 : decode cX10_lawInForce 5 = .ok (.invokevirtual 49, 3) := dB_566.2.2.2.1
theorem dX10_lawInForce_8 : decode cX10_lawInForce 8 = .ok (.areturn, 1) := dB_566.2.2.2.2
theorem fl_RX10_42 : Cond.fieldLink RX10 42 RX10 "force" "I" ∈ gW := gW_u tb_1 236 (by rfl) (by decide +kernel)
theorem lk_RX10_49 : Cond.methodLink RX10 49 yX10_lawOf ∈ gW := gW_u tb_3 43 (by rfl) (by decide +kernel)
theorem mI_X10_lawOf : Cond.instanceMethod yX10_lawOf ∈ gW := gW_u tb_3 44 (by rfl) (by decide +kernel)
theorem mS_X10_lawOf : Cond.selects RX10 yX10_lawOf yX10_lawOf ∈ gW := gW_u tb_3 45 (by rfl) (by decide +kernel)
theorem mC_X10_lawOf : Cond.code yX10_lawOf cX10_lawOf 2 (some (.object "ListenWells$Text")) ∈ gW := gW_u tb_3 46 (by rfl) (by decide +kernel)
theorem ok_X10_lawOf : okD yX10_lawOf 1 := ⟨by decide +kernel, by decide +kernel, by decide +kernel⟩
def yX10_mayBeDugOn : MethodName := ⟨RX10, "mayBeDugOn", "(I)Z"⟩
abbrev cX10_mayBeDugOn : ByteArray := prog_12_method_6_code
theorem dB_567 : (decode cX10_mayBeDugOn 0 = .ok (.aload_n 0, 1)) ∧ (decode cX10_mayBeDugOn 1 = .ok (.getfield 12, 3)) ∧ (decode cX10_mayBeDugOn 4 = .ok (.aload_n 0, 1)) ∧ (decode cX10_mayBeDugOn 5 = .ok (.getfield 21, 3)) ∧ (decode cX10_mayBeDugOn 8 = .ok (.getfield 53, 3)) ∧ (decode cX10_mayBeDugOn 11 = .ok (.iload_n 1, 1)) ∧ (decode cX10_mayBeDugOn 12 = .ok (.iaload, 1)) ∧ (decode cX10_mayBeDugOn 13 = .ok (.invokevirtual 56, 3)) ∧ (decode cX10_mayBeDugOn 16 = .ok (.ifCond .ne 7, 3)) ∧ (decode cX10_mayBeDugOn 23 = .ok (.iconst 0, 1)) ∧ (decode cX10_mayBeDugOn 24 = .ok (.ireturn, 1)) ∧ (decode cX10_mayBeDugOn 19 = .ok (.iconst 1, 1)) ∧ (decode cX10_mayBeDugOn 20 = .ok (.goto 4, 3)) := by decide +kernel
theorem dX10_mayBeDugOn_0 : decode cX10_mayBeDugOn 0 = .ok (.aload_n 0, 1) := dB_567.1
theorem dX10_mayBeDugOn_1 : decode cX10_mayBeDugOn 1 = .ok (.getfield 12, 3) := dB_567.2.1
theorem dX10_mayBeDugOn_4 : decode cX10_mayBeDugOn 4 = .ok (.aload_n 0, 1) := dB_567.2.2.1
theorem dX10_mayBeDugOn_5 : decode cX10_mayBeDugOn 5 = .ok (.getfield 21, 3) := dB_567.2.2.2.1
theorem dX10_mayBeDugOn_8 : decode cX10_mayBeDugOn 8 = .ok (.getfield 53, 3) := dB_567.2.2.2.2.1
theorem dX10_mayBeDugOn_11 : decode cX10_mayBeDugOn 11 = .ok (.iload_n 1, 1) := dB_567.2.2.2.2.2.1
theorem dX10_mayBeDugOn_12 : decode cX10_mayBeDugOn 12 = .ok (.iaload, 1) := dB_567.2.2.2.2.2.2.1
theorem dX10_mayBeDugOn_13 : decode cX10_mayBeDugOn 13 = .ok (.invokevirtual 56, 3) := dB_567.2.2.2.2.2.2.2.1
theorem dX10_mayBeDugOn_16 : decode cX10_mayBeDugOn 16 = .ok (.ifCond .ne 7, 3) := dB_567.2.2.2.2.2.2.2.2.1
theorem dX10_mayBeDugOn_23 : decode cX10_mayBeDugOn 23 = .ok (.iconst 0, 1) := dB_567.2.2.2.2.2.2.2.2.2.1
theorem dX10_mayBeDugOn_24 : decode cX10_mayBeDugOn 24 = .ok (.ireturn, 1) := dB_567.2.2.2.2.2.2.2.2.2.2.1
theorem dX10_mayBeDugOn_19 : decode cX10_mayBeDugOn 19 = .ok (.iconst 1, 1) := dB_567.2.2.2.2.2.2.2.2.2.2.2.1
theorem dX10_mayBeDugOn_20 : decode cX10_mayBeDugOn 20 = .ok (.goto 4, 3) := dB_567.2.2.2.2.2.2.2.2.2.2.2.2
theorem fl_RX10_12 : Cond.fieldLink RX10 12 RX10 "rock" "LListenWells$Rock;" ∈ gW := gW_u tb_1 212 (by rfl) (by decide +kernel)
theorem fl_RX10_21 : Cond.fieldLink RX10 21 RX10 "crew" "LListenWells$Crew;" ∈ gW := gW_u tb_1 218 (by rfl) (by decide +kernel)
theorem fl_RX10_53 : Cond.fieldLink RX10 53 RX1 "cell" "[I" ∈ gW := gW_u tb_1 121 (by rfl) (by decide +kernel)
theorem lk_RX10_56 : Cond.methodLink RX10 56 yX6_endsAWay ∈ gW := gW_u tb_4 207 (by rfl) (by decide +kernel)
theorem mI_X6_endsAWay : Cond.instanceMethod yX6_endsAWay ∈ gW := gW_u tb_4 208 (by rfl) (by decide +kernel)
theorem mS_X6_endsAWay : Cond.selects RX6 yX6_endsAWay yX6_endsAWay ∈ gW := gW_u tb_4 209 (by rfl) (by decide +kernel)
theorem mC_X6_endsAWay : Cond.code yX6_endsAWay cX6_endsAWay 2 (some .boolean) ∈ gW := gW_u tb_4 210 (by rfl) (by decide +kernel)
theorem ok_X6_endsAWay : okD yX6_endsAWay 1 := ⟨by decide +kernel, by decide +kernel, by decide +kernel⟩
def yX10_shareOf : MethodName := ⟨RX10, "shareOf", "(I)I"⟩
abbrev cX10_shareOf : ByteArray := prog_12_method_7_code
theorem dB_568 : (decode cX10_shareOf 0 = .ok (.aload_n 0, 1)) ∧ (decode cX10_shareOf 1 = .ok (.getfield 12, 3)) ∧ (decode cX10_shareOf 4 = .ok (.iload_n 1, 1)) ∧ (decode cX10_shareOf 5 = .ok (.invokevirtual 60, 3)) ∧ (decode cX10_shareOf 8 = .ok (.lstore_n 2, 1)) ∧ (decode cX10_shareOf 9 = .ok (.aload_n 0, 1)) ∧ (decode cX10_shareOf 10 = .ok (.getfield 21, 3)) ∧ (decode cX10_shareOf 13 = .ok (.lload_n 2, 1)) ∧ (decode cX10_shareOf 14 = .ok (.invokevirtual 64, 3)) ∧ (decode cX10_shareOf 17 = .ok (.istore 4, 2)) ∧ (decode cX10_shareOf 19 = .ok (.iload 4, 2)) ∧ (decode cX10_shareOf 21 = .ok (.ifCond .ne 7, 3)) ∧ (decode cX10_shareOf 28 = .ok (.aload_n 0, 1)) ∧ (decode cX10_shareOf 29 = .ok (.getfield 12, 3)) ∧ (decode cX10_shareOf 32 = .ok (.lload_n 2, 1)) ∧ (decode cX10_shareOf 33 = .ok (.invokevirtual 68, 3)) := by decide +kernel
theorem dX10_shareOf_0 : decode cX10_shareOf 0 = .ok (.aload_n 0, 1) := dB_568.1
theorem dX10_shareOf_1 : decode cX10_shareOf 1 = .ok (.getfield 12, 3) := dB_568.2.1
theorem dX10_shareOf_4 : decode cX10_shareOf 4 = .ok (.iload_n 1, 1) := dB_568.2.2.1
theorem dX10_shareOf_5 : decode cX10_shareOf 5 = .ok (.invokevirtual 60, 3) := dB_568.2.2.2.1
theorem dX10_shareOf_8 : decode cX10_shareOf 8 = .ok (.lstore_n 2, 1) := dB_568.2.2.2.2.1
theorem dX10_shareOf_9 : decode cX10_shareOf 9 = .ok (.aload_n 0, 1) := dB_568.2.2.2.2.2.1
theorem dX10_shareOf_10 : decode cX10_shareOf 10 = .ok (.getfield 21, 3) := dB_568.2.2.2.2.2.2.1
theorem dX10_shareOf_13 : decode cX10_shareOf 13 = .ok (.lload_n 2, 1) := dB_568.2.2.2.2.2.2.2.1
theorem dX10_shareOf_14 : decode cX10_shareOf 14 = .ok (.invokevirtual 64, 3) := dB_568.2.2.2.2.2.2.2.2.1
theorem dX10_shareOf_17 : decode cX10_shareOf 17 = .ok (.istore 4, 2) := dB_568.2.2.2.2.2.2.2.2.2.1
theorem dX10_shareOf_19 : decode cX10_shareOf 19 = .ok (.iload 4, 2) := dB_568.2.2.2.2.2.2.2.2.2.2.1
theorem dX10_shareOf_21 : decode cX10_shareOf 21 = .ok (.ifCond .ne 7, 3) := dB_568.2.2.2.2.2.2.2.2.2.2.2.1
theorem dX10_shareOf_28 : decode cX10_shareOf 28 = .ok (.aload_n 0, 1) := dB_568.2.2.2.2.2.2.2.2.2.2.2.2.1
theorem dX10_shareOf_29 : decode cX10_shareOf 29 = .ok (.getfield 12, 3) := dB_568.2.2.2.2.2.2.2.2.2.2.2.2.2.1
theorem dX10_shareOf_32 : decode cX10_shareOf 32 = .ok (.lload_n 2, 1) := dB_568.2.2.2.2.2.2.2.2.2.2.2.2.2.2.1
theorem dX10_shareOf_33 : decode cX10_shareOf 33 = .ok (.invokevirtual 68, 3) := dB_568.2.2.2.2.2.2.2.2.2.2.2.2.2.2.2
theorem lk_RX10_60 : Cond.methodLink RX10 60 yX6_veinOf ∈ gW := gW_u tb_3 112 (by rfl) (by decide +kernel)
theorem mI_X6_veinOf : Cond.instanceMethod yX6_veinOf ∈ gW := gW_u tb_3 113 (by rfl) (by decide +kernel)
theorem mS_X6_veinOf : Cond.selects RX6 yX6_veinOf yX6_veinOf ∈ gW := gW_u tb_3 114 (by rfl) (by decide +kernel)
theorem mC_X6_veinOf : Cond.code yX6_veinOf cX6_veinOf 13 (some .long) ∈ gW := gW_u tb_3 115 (by rfl) (by decide +kernel)
theorem ok_X6_veinOf : okD yX6_veinOf 1 := ⟨by decide +kernel, by decide +kernel, by decide +kernel⟩
theorem lk_RX10_64 : Cond.methodLink RX10 64 yX1_countIn ∈ gW := gW_u tb_3 118 (by rfl) (by decide +kernel)
theorem mI_X1_countIn : Cond.instanceMethod yX1_countIn ∈ gW := gW_u tb_3 119 (by rfl) (by decide +kernel)
theorem mS_X1_countIn : Cond.selects RX1 yX1_countIn yX1_countIn ∈ gW := gW_u tb_3 120 (by rfl) (by decide +kernel)
theorem mC_X1_countIn : Cond.code yX1_countIn cX1_countIn 5 (some .int) ∈ gW := gW_u tb_3 121 (by rfl) (by decide +kernel)
theorem ok_X1_countIn : okD yX1_countIn 1 := ⟨by decide +kernel, by decide +kernel, by decide +kernel⟩
theorem lk_RX10_68 : Cond.methodLink RX10 68 yX6_waterIn ∈ gW := gW_u tb_3 122 (by rfl) (by decide +kernel)
theorem mI_X6_waterIn : Cond.instanceMethod yX6_waterIn ∈ gW := gW_u tb_3 123 (by rfl) (by decide +kernel)
theorem mS_X6_waterIn : Cond.selects RX6 yX6_waterIn yX6_waterIn ∈ gW := gW_u tb_3 124 (by rfl) (by decide +kernel)
theorem mC_X6_waterIn : Cond.code yX6_waterIn cX6_waterIn 5 (some .int) ∈ gW := gW_u tb_3 125 (by rfl) (by decide +kernel)
theorem ok_X6_waterIn : okD yX6_waterIn 1 := ⟨by decide +kernel, by decide +kernel, by decide +kernel⟩
theorem dB_569 : (decode cX10_shareOf 36 = .ok (.iload 4, 2)) ∧ (decode cX10_shareOf 38 = .ok (.idiv, 1)) ∧ (decode cX10_shareOf 39 = .ok (.ireturn, 1)) ∧ (decode cX10_shareOf 24 = .ok (.iconst 0, 1)) ∧ (decode cX10_shareOf 25 = .ok (.goto 14, 3)) := by decide +kernel
theorem dX10_shareOf_36 : decode cX10_shareOf 36 = .ok (.iload 4, 2) := dB_569.1
theorem dX10_shareOf_38 : decode cX10_shareOf 38 = .ok (.idiv, 1) := dB_569.2.1
theorem dX10_shareOf_39 : decode cX10_shareOf 39 = .ok (.ireturn, 1) := dB_569.2.2.1
theorem dX10_shareOf_24 : decode cX10_shareOf 24 = .ok (.iconst 0, 1) := dB_569.2.2.2.1
theorem dX10_shareOf_25 : decode cX10_shareOf 25 = .ok (.goto 14, 3) := dB_569.2.2.2.2
def yX10_copyFrom : MethodName := ⟨RX10, "copyFrom", "(LListenWells$World;)V"⟩
abbrev cX10_copyFrom : ByteArray := prog_12_method_8_code
theorem dB_570 : (decode cX10_copyFrom 0 = .ok (.aload_n 0, 1)) ∧ (decode cX10_copyFrom 1 = .ok (.getfield 12, 3)) ∧ (decode cX10_copyFrom 4 = .ok (.aload_n 1, 1)) ∧ (decode cX10_copyFrom 5 = .ok (.getfield 12, 3)) ∧ (decode cX10_copyFrom 8 = .ok (.invokevirtual 71, 3)) ∧ (decode cX10_copyFrom 11 = .ok (.aload_n 0, 1)) ∧ (decode cX10_copyFrom 12 = .ok (.getfield 21, 3)) ∧ (decode cX10_copyFrom 15 = .ok (.aload_n 1, 1)) ∧ (decode cX10_copyFrom 16 = .ok (.getfield 21, 3)) ∧ (decode cX10_copyFrom 19 = .ok (.invokevirtual 75, 3)) ∧ (decode cX10_copyFrom 22 = .ok (.aload_n 0, 1)) ∧ (decode cX10_copyFrom 23 = .ok (.getfield 28, 3)) ∧ (decode cX10_copyFrom 26 = .ok (.aload_n 1, 1)) ∧ (decode cX10_copyFrom 27 = .ok (.getfield 28, 3)) ∧ (decode cX10_copyFrom 30 = .ok (.invokevirtual 78, 3)) ∧ (decode cX10_copyFrom 33 = .ok (.aload_n 1, 1)) := by decide +kernel
theorem dX10_copyFrom_0 : decode cX10_copyFrom 0 = .ok (.aload_n 0, 1) := dB_570.1
theorem dX10_copyFrom_1 : decode cX10_copyFrom 1 = .ok (.getfield 12, 3) := dB_570.2.1
theorem dX10_copyFrom_4 : decode cX10_copyFrom 4 = .ok (.aload_n 1, 1) := dB_570.2.2.1
theorem dX10_copyFrom_5 : decode cX10_copyFrom 5 = .ok (.getfield 12, 3) := dB_570.2.2.2.1
theorem dX10_copyFrom_8 : decode cX10_copyFrom 8 = .ok (.invokevirtual 71, 3) := dB_570.2.2.2.2.1
theorem dX10_copyFrom_11 : decode cX10_copyFrom 11 = .ok (.aload_n 0, 1) := dB_570.2.2.2.2.2.1
theorem dX10_copyFrom_12 : decode cX10_copyFrom 12 = .ok (.getfield 21, 3) := dB_570.2.2.2.2.2.2.1
theorem dX10_copyFrom_15 : decode cX10_copyFrom 15 = .ok (.aload_n 1, 1) := dB_570.2.2.2.2.2.2.2.1
theorem dX10_copyFrom_16 : decode cX10_copyFrom 16 = .ok (.getfield 21, 3) := dB_570.2.2.2.2.2.2.2.2.1
theorem dX10_copyFrom_19 : decode cX10_copyFrom 19 = .ok (.invokevirtual 75, 3) := dB_570.2.2.2.2.2.2.2.2.2.1
theorem dX10_copyFrom_22 : decode cX10_copyFrom 22 = .ok (.aload_n 0, 1) := dB_570.2.2.2.2.2.2.2.2.2.2.1
theorem dX10_copyFrom_23 : decode cX10_copyFrom 23 = .ok (.getfield 28, 3) := dB_570.2.2.2.2.2.2.2.2.2.2.2.1
theorem dX10_copyFrom_26 : decode cX10_copyFrom 26 = .ok (.aload_n 1, 1) := dB_570.2.2.2.2.2.2.2.2.2.2.2.2.1
theorem dX10_copyFrom_27 : decode cX10_copyFrom 27 = .ok (.getfield 28, 3) := dB_570.2.2.2.2.2.2.2.2.2.2.2.2.2.1
theorem dX10_copyFrom_30 : decode cX10_copyFrom 30 = .ok (.invokevirtual 78, 3) := dB_570.2.2.2.2.2.2.2.2.2.2.2.2.2.2.1
theorem dX10_copyFrom_33 : decode cX10_copyFrom 33 = .ok (.aload_n 1, 1) := dB_570.2.2.2.2.2.2.2.2.2.2.2.2.2.2.2
theorem lk_RX10_71 : Cond.methodLink RX10 71 yX6_copyFrom ∈ gW := gW_u tb_4 123 (by rfl) (by decide +kernel)
theorem mI_X6_copyFrom : Cond.instanceMethod yX6_copyFrom ∈ gW := gW_u tb_4 124 (by rfl) (by decide +kernel)
theorem mS_X6_copyFrom : Cond.selects RX6 yX6_copyFrom yX6_copyFrom ∈ gW := gW_u tb_4 125 (by rfl) (by decide +kernel)
theorem mC_X6_copyFrom : Cond.code yX6_copyFrom cX6_copyFrom 2 none ∈ gW := gW_u tb_4 126 (by rfl) (by decide +kernel)
theorem ok_X6_copyFrom : okD yX6_copyFrom 1 := ⟨by decide +kernel, by decide +kernel, by decide +kernel⟩
theorem lk_RX10_75 : Cond.methodLink RX10 75 yX1_copyFrom ∈ gW := gW_u tb_4 128 (by rfl) (by decide +kernel)
theorem mI_X1_copyFrom : Cond.instanceMethod yX1_copyFrom ∈ gW := gW_u tb_4 129 (by rfl) (by decide +kernel)
theorem mS_X1_copyFrom : Cond.selects RX1 yX1_copyFrom yX1_copyFrom ∈ gW := gW_u tb_4 130 (by rfl) (by decide +kernel)
theorem mC_X1_copyFrom : Cond.code yX1_copyFrom cX1_copyFrom 2 none ∈ gW := gW_u tb_4 131 (by rfl) (by decide +kernel)
theorem ok_X1_copyFrom : okD yX1_copyFrom 1 := ⟨by decide +kernel, by decide +kernel, by decide +kernel⟩
theorem fl_RX10_28 : Cond.fieldLink RX10 28 RX10 "folk" "LListenWells$Folk;" ∈ gW := gW_u tb_1 223 (by rfl) (by decide +kernel)
theorem lk_RX10_78 : Cond.methodLink RX10 78 yX4_copyFrom ∈ gW := gW_u tb_4 133 (by rfl) (by decide +kernel)
theorem mI_X4_copyFrom : Cond.instanceMethod yX4_copyFrom ∈ gW := gW_u tb_4 134 (by rfl) (by decide +kernel)
theorem mS_X4_copyFrom : Cond.selects RX4 yX4_copyFrom yX4_copyFrom ∈ gW := gW_u tb_4 135 (by rfl) (by decide +kernel)
theorem mC_X4_copyFrom : Cond.code yX4_copyFrom cX4_copyFrom 2 none ∈ gW := gW_u tb_4 136 (by rfl) (by decide +kernel)
theorem ok_X4_copyFrom : okD yX4_copyFrom 1 := ⟨by decide +kernel, by decide +kernel, by decide +kernel⟩
theorem dB_571 : (decode cX10_copyFrom 34 = .ok (.getfield 32, 3)) ∧ (decode cX10_copyFrom 37 = .ok (.iconst 0, 1)) ∧ (decode cX10_copyFrom 38 = .ok (.aload_n 0, 1)) ∧ (decode cX10_copyFrom 39 = .ok (.getfield 32, 3)) ∧ (decode cX10_copyFrom 42 = .ok (.iconst 0, 1)) ∧ (decode cX10_copyFrom 43 = .ok (.aload_n 0, 1)) ∧ (decode cX10_copyFrom 44 = .ok (.getfield 32, 3)) ∧ (decode cX10_copyFrom 47 = .ok (.arraylength, 1)) ∧ (decode cX10_copyFrom 48 = .ok (.invokestatic 81, 3)) ∧ (decode cX10_copyFrom 51 = .ok (.iconst 0, 1)) ∧ (decode cX10_copyFrom 52 = .ok (.istore_n 2, 1)) ∧ (decode cX10_copyFrom 53 = .ok (.iload_n 2, 1)) ∧ (decode cX10_copyFrom 54 = .ok (.bipush 6, 2)) ∧ (decode cX10_copyFrom 56 = .ok (.if_icmp .ge 21, 3)) ∧ (decode cX10_copyFrom 59 = .ok (.aload_n 0, 1)) ∧ (decode cX10_copyFrom 60 = .ok (.getfield 38, 3)) := by decide +kernel
theorem dX10_copyFrom_34 : decode cX10_copyFrom 34 = .ok (.getfield 32, 3) := dB_571.1
theorem dX10_copyFrom_37 : decode cX10_copyFrom 37 = .ok (.iconst 0, 1) := dB_571.2.1
theorem dX10_copyFrom_38 : decode cX10_copyFrom 38 = .ok (.aload_n 0, 1) := dB_571.2.2.1
theorem dX10_copyFrom_39 : decode cX10_copyFrom 39 = .ok (.getfield 32, 3) := dB_571.2.2.2.1
theorem dX10_copyFrom_42 : decode cX10_copyFrom 42 = .ok (.iconst 0, 1) := dB_571.2.2.2.2.1
theorem dX10_copyFrom_43 : decode cX10_copyFrom 43 = .ok (.aload_n 0, 1) := dB_571.2.2.2.2.2.1
theorem dX10_copyFrom_44 : decode cX10_copyFrom 44 = .ok (.getfield 32, 3) := dB_571.2.2.2.2.2.2.1
theorem dX10_copyFrom_47 : decode cX10_copyFrom 47 = .ok (.arraylength, 1) := dB_571.2.2.2.2.2.2.2.1
theorem dX10_copyFrom_48 : decode cX10_copyFrom 48 = .ok (.invokestatic 81, 3) := dB_571.2.2.2.2.2.2.2.2.1
theorem dX10_copyFrom_51 : decode cX10_copyFrom 51 = .ok (.iconst 0, 1) := dB_571.2.2.2.2.2.2.2.2.2.1
theorem dX10_copyFrom_52 : decode cX10_copyFrom 52 = .ok (.istore_n 2, 1) := dB_571.2.2.2.2.2.2.2.2.2.2.1
theorem dX10_copyFrom_53 : decode cX10_copyFrom 53 = .ok (.iload_n 2, 1) := dB_571.2.2.2.2.2.2.2.2.2.2.2.1
theorem dX10_copyFrom_54 : decode cX10_copyFrom 54 = .ok (.bipush 6, 2) := dB_571.2.2.2.2.2.2.2.2.2.2.2.2.1
theorem dX10_copyFrom_56 : decode cX10_copyFrom 56 = .ok (.if_icmp .ge 21, 3) := dB_571.2.2.2.2.2.2.2.2.2.2.2.2.2.1
theorem dX10_copyFrom_59 : decode cX10_copyFrom 59 = .ok (.aload_n 0, 1) := dB_571.2.2.2.2.2.2.2.2.2.2.2.2.2.2.1
theorem dX10_copyFrom_60 : decode cX10_copyFrom 60 = .ok (.getfield 38, 3) := dB_571.2.2.2.2.2.2.2.2.2.2.2.2.2.2.2
theorem fl_RX10_32 : Cond.fieldLink RX10 32 RX10 "term" "[I" ∈ gW := gW_u tb_1 228 (by rfl) (by decide +kernel)
theorem lk_RX10_81 : Cond.methodLink RX10 81 arraycopyName ∈ gW := gW_u tb_4 138 (by rfl) (by decide +kernel)
theorem dB_572 : (decode cX10_copyFrom 63 = .ok (.iload_n 2, 1)) ∧ (decode cX10_copyFrom 64 = .ok (.aload_n 1, 1)) ∧ (decode cX10_copyFrom 65 = .ok (.getfield 38, 3)) ∧ (decode cX10_copyFrom 68 = .ok (.iload_n 2, 1)) ∧ (decode cX10_copyFrom 69 = .ok (.aaload, 1)) ∧ (decode cX10_copyFrom 70 = .ok (.aastore, 1)) ∧ (decode cX10_copyFrom 71 = .ok (.iinc 2 1, 3)) ∧ (decode cX10_copyFrom 74 = .ok (.goto (-21), 3)) ∧ (decode cX10_copyFrom 77 = .ok (.aload_n 0, 1)) ∧ (decode cX10_copyFrom 78 = .ok (.aload_n 1, 1)) ∧ (decode cX10_copyFrom 79 = .ok (.getfield 46, 3)) ∧ (decode cX10_copyFrom 82 = .ok (.putfield 46, 3)) ∧ (decode cX10_copyFrom 85 = .ok (.aload_n 0, 1)) ∧ (decode cX10_copyFrom 86 = .ok (.aload_n 1, 1)) ∧ (decode cX10_copyFrom 87 = .ok (.getfield 42, 3)) ∧ (decode cX10_copyFrom 90 = .ok (.putfield 42, 3)) := by decide +kernel
theorem dX10_copyFrom_63 : decode cX10_copyFrom 63 = .ok (.iload_n 2, 1) := dB_572.1
theorem dX10_copyFrom_64 : decode cX10_copyFrom 64 = .ok (.aload_n 1, 1) := dB_572.2.1
theorem dX10_copyFrom_65 : decode cX10_copyFrom 65 = .ok (.getfield 38, 3) := dB_572.2.2.1
theorem dX10_copyFrom_68 : decode cX10_copyFrom 68 = .ok (.iload_n 2, 1) := dB_572.2.2.2.1
theorem dX10_copyFrom_69 : decode cX10_copyFrom 69 = .ok (.aaload, 1) := dB_572.2.2.2.2.1
theorem dX10_copyFrom_70 : decode cX10_copyFrom 70 = .ok (.aastore, 1) := dB_572.2.2.2.2.2.1
theorem dX10_copyFrom_71 : decode cX10_copyFrom 71 = .ok (.iinc 2 1, 3) := dB_572.2.2.2.2.2.2.1
theorem dX10_copyFrom_74 : decode cX10_copyFrom 74 = .ok (.goto (-21), 3) := dB_572.2.2.2.2.2.2.2.1
theorem dX10_copyFrom_77 : decode cX10_copyFrom 77 = .ok (.aload_n 0, 1) := dB_572.2.2.2.2.2.2.2.2.1
theorem dX10_copyFrom_78 : decode cX10_copyFrom 78 = .ok (.aload_n 1, 1) := dB_572.2.2.2.2.2.2.2.2.2.1
theorem dX10_copyFrom_79 : decode cX10_copyFrom 79 = .ok (.getfield 46, 3) := dB_572.2.2.2.2.2.2.2.2.2.2.1
theorem dX10_copyFrom_82 : decode cX10_copyFrom 82 = .ok (.putfield 46, 3) := dB_572.2.2.2.2.2.2.2.2.2.2.2.1
theorem dX10_copyFrom_85 : decode cX10_copyFrom 85 = .ok (.aload_n 0, 1) := dB_572.2.2.2.2.2.2.2.2.2.2.2.2.1
theorem dX10_copyFrom_86 : decode cX10_copyFrom 86 = .ok (.aload_n 1, 1) := dB_572.2.2.2.2.2.2.2.2.2.2.2.2.2.1
theorem dX10_copyFrom_87 : decode cX10_copyFrom 87 = .ok (.getfield 42, 3) := dB_572.2.2.2.2.2.2.2.2.2.2.2.2.2.2.1
theorem dX10_copyFrom_90 : decode cX10_copyFrom 90 = .ok (.putfield 42, 3) := dB_572.2.2.2.2.2.2.2.2.2.2.2.2.2.2.2
theorem dX10_copyFrom_93 : decode cX10_copyFrom 93 = .ok (.return_, 1) := by decide +kernel
def yX11_of : MethodName := ⟨RX11, "of", "(II)I"⟩
abbrev cX11_of : ByteArray := prog_1_method_5_code
theorem dB_573 : (decode cX11_of 0 = .ok (.aload_n 0, 1)) ∧ (decode cX11_of 1 = .ok (.getfield 21, 3)) ∧ (decode cX11_of 4 = .ok (.getfield 78, 3)) ∧ (decode cX11_of 7 = .ok (.astore_n 3, 1)) ∧ (decode cX11_of 8 = .ok (.iload_n 1, 1)) ∧ (decode cX11_of 9 = .ok (.aload_n 3, 1)) ∧ (decode cX11_of 10 = .ok (.getfield 134, 3)) ∧ (decode cX11_of 13 = .ok (.getfield 137, 3)) ∧ (decode cX11_of 16 = .ok (.invokestatic 82, 3)) ∧ (decode cX11_of 19 = .ok (.ifCond .ne 5, 3)) ∧ (decode cX11_of 24 = .ok (.aload_n 3, 1)) ∧ (decode cX11_of 25 = .ok (.getfield 134, 3)) ∧ (decode cX11_of 28 = .ok (.getfield 147, 3)) ∧ (decode cX11_of 31 = .ok (.iload_n 1, 1)) ∧ (decode cX11_of 32 = .ok (.iaload, 1)) ∧ (decode cX11_of 33 = .ok (.istore 4, 2)) := by decide +kernel
theorem dX11_of_0 : decode cX11_of 0 = .ok (.aload_n 0, 1) := dB_573.1
theorem dX11_of_1 : decode cX11_of 1 = .ok (.getfield 21, 3) := dB_573.2.1
theorem dX11_of_4 : decode cX11_of 4 = .ok (.getfield 78, 3) := dB_573.2.2.1
theorem dX11_of_7 : decode cX11_of 7 = .ok (.astore_n 3, 1) := dB_573.2.2.2.1
theorem dX11_of_8 : decode cX11_of 8 = .ok (.iload_n 1, 1) := dB_573.2.2.2.2.1
theorem dX11_of_9 : decode cX11_of 9 = .ok (.aload_n 3, 1) := dB_573.2.2.2.2.2.1
theorem dX11_of_10 : decode cX11_of 10 = .ok (.getfield 134, 3) := dB_573.2.2.2.2.2.2.1
theorem dX11_of_13 : decode cX11_of 13 = .ok (.getfield 137, 3) := dB_573.2.2.2.2.2.2.2.1
theorem dX11_of_16 : decode cX11_of 16 = .ok (.invokestatic 82, 3) := dB_573.2.2.2.2.2.2.2.2.1
theorem dX11_of_19 : decode cX11_of 19 = .ok (.ifCond .ne 5, 3) := dB_573.2.2.2.2.2.2.2.2.2.1
theorem dX11_of_24 : decode cX11_of 24 = .ok (.aload_n 3, 1) := dB_573.2.2.2.2.2.2.2.2.2.2.1
theorem dX11_of_25 : decode cX11_of 25 = .ok (.getfield 134, 3) := dB_573.2.2.2.2.2.2.2.2.2.2.2.1
theorem dX11_of_28 : decode cX11_of 28 = .ok (.getfield 147, 3) := dB_573.2.2.2.2.2.2.2.2.2.2.2.2.1
theorem dX11_of_31 : decode cX11_of 31 = .ok (.iload_n 1, 1) := dB_573.2.2.2.2.2.2.2.2.2.2.2.2.2.1
theorem dX11_of_32 : decode cX11_of 32 = .ok (.iaload, 1) := dB_573.2.2.2.2.2.2.2.2.2.2.2.2.2.2.1
theorem dX11_of_33 : decode cX11_of 33 = .ok (.istore 4, 2) := dB_573.2.2.2.2.2.2.2.2.2.2.2.2.2.2.2
theorem fl_RX11_147 : Cond.fieldLink RX11 147 RX1 "cell" "[I" ∈ gW := gW_u tb_1 120 (by rfl) (by decide +kernel)
theorem dB_574 : (decode cX11_of 35 = .ok (.iload_n 2, 1)) ∧ (decode cX11_of 36 = .ok (.tableswitch 96 0 4 #[36, 39, 49, 69, 89], 36)) ∧ (decode cX11_of 72 = .ok (.iload 4, 2)) ∧ (decode cX11_of 74 = .ok (.ireturn, 1)) ∧ (decode cX11_of 75 = .ok (.aload_n 3, 1)) ∧ (decode cX11_of 76 = .ok (.getfield 134, 3)) ∧ (decode cX11_of 79 = .ok (.getfield 150, 3)) ∧ (decode cX11_of 82 = .ok (.iload_n 1, 1)) ∧ (decode cX11_of 83 = .ok (.iaload, 1)) ∧ (decode cX11_of 84 = .ok (.ireturn, 1)) ∧ (decode cX11_of 85 = .ok (.aload_n 3, 1)) ∧ (decode cX11_of 86 = .ok (.getfield 95, 3)) ∧ (decode cX11_of 89 = .ok (.getfield 124, 3)) ∧ (decode cX11_of 92 = .ok (.iload 4, 2)) ∧ (decode cX11_of 94 = .ok (.iaload, 1)) ∧ (decode cX11_of 95 = .ok (.iconst 2, 1)) := by decide +kernel
theorem dX11_of_35 : decode cX11_of 35 = .ok (.iload_n 2, 1) := dB_574.1
theorem dX11_of_36 : decode cX11_of 36 = .ok (.tableswitch 96 0 4 #[36, 39, 49, 69, 89], 36) := dB_574.2.1
theorem dX11_of_72 : decode cX11_of 72 = .ok (.iload 4, 2) := dB_574.2.2.1
theorem dX11_of_74 : decode cX11_of 74 = .ok (.ireturn, 1) := dB_574.2.2.2.1
theorem dX11_of_75 : decode cX11_of 75 = .ok (.aload_n 3, 1) := dB_574.2.2.2.2.1
theorem dX11_of_76 : decode cX11_of 76 = .ok (.getfield 134, 3) := dB_574.2.2.2.2.2.1
theorem dX11_of_79 : decode cX11_of 79 = .ok (.getfield 150, 3) := dB_574.2.2.2.2.2.2.1
theorem dX11_of_82 : decode cX11_of 82 = .ok (.iload_n 1, 1) := dB_574.2.2.2.2.2.2.2.1
theorem dX11_of_83 : decode cX11_of 83 = .ok (.iaload, 1) := dB_574.2.2.2.2.2.2.2.2.1
theorem dX11_of_84 : decode cX11_of 84 = .ok (.ireturn, 1) := dB_574.2.2.2.2.2.2.2.2.2.1
theorem dX11_of_85 : decode cX11_of 85 = .ok (.aload_n 3, 1) := dB_574.2.2.2.2.2.2.2.2.2.2.1
theorem dX11_of_86 : decode cX11_of 86 = .ok (.getfield 95, 3) := dB_574.2.2.2.2.2.2.2.2.2.2.2.1
theorem dX11_of_89 : decode cX11_of 89 = .ok (.getfield 124, 3) := dB_574.2.2.2.2.2.2.2.2.2.2.2.2.1
theorem dX11_of_92 : decode cX11_of 92 = .ok (.iload 4, 2) := dB_574.2.2.2.2.2.2.2.2.2.2.2.2.2.1
theorem dX11_of_94 : decode cX11_of 94 = .ok (.iaload, 1) := dB_574.2.2.2.2.2.2.2.2.2.2.2.2.2.2.1
theorem dX11_of_95 : decode cX11_of 95 = .ok (.iconst 2, 1) := dB_574.2.2.2.2.2.2.2.2.2.2.2.2.2.2.2
theorem fl_RX11_150 : Cond.fieldLink RX11 150 RX1 "buckets" "[I" ∈ gW := gW_u tb_1 125 (by rfl) (by decide +kernel)
theorem dB_575 : (decode cX11_of 96 = .ok (.if_icmp .ne 7, 3)) ∧ (decode cX11_of 103 = .ok (.iconst 0, 1)) ∧ (decode cX11_of 104 = .ok (.ireturn, 1)) ∧ (decode cX11_of 99 = .ok (.iconst 1, 1)) ∧ (decode cX11_of 100 = .ok (.goto 4, 3)) ∧ (decode cX11_of 105 = .ok (.aload_n 3, 1)) ∧ (decode cX11_of 106 = .ok (.getfield 95, 3)) ∧ (decode cX11_of 109 = .ok (.getfield 124, 3)) ∧ (decode cX11_of 112 = .ok (.iload 4, 2)) ∧ (decode cX11_of 114 = .ok (.iaload, 1)) ∧ (decode cX11_of 115 = .ok (.iconst 3, 1)) ∧ (decode cX11_of 116 = .ok (.if_icmp .ne 7, 3)) ∧ (decode cX11_of 123 = .ok (.iconst 0, 1)) ∧ (decode cX11_of 124 = .ok (.ireturn, 1)) ∧ (decode cX11_of 119 = .ok (.iconst 1, 1)) ∧ (decode cX11_of 120 = .ok (.goto 4, 3)) := by decide +kernel
theorem dX11_of_96 : decode cX11_of 96 = .ok (.if_icmp .ne 7, 3) := dB_575.1
theorem dX11_of_103 : decode cX11_of 103 = .ok (.iconst 0, 1) := dB_575.2.1
theorem dX11_of_104 : decode cX11_of 104 = .ok (.ireturn, 1) := dB_575.2.2.1
theorem dX11_of_99 : decode cX11_of 99 = .ok (.iconst 1, 1) := dB_575.2.2.2.1
theorem dX11_of_100 : decode cX11_of 100 = .ok (.goto 4, 3) := dB_575.2.2.2.2.1
theorem dX11_of_105 : decode cX11_of 105 = .ok (.aload_n 3, 1) := dB_575.2.2.2.2.2.1
theorem dX11_of_106 : decode cX11_of 106 = .ok (.getfield 95, 3) := dB_575.2.2.2.2.2.2.1
theorem dX11_of_109 : decode cX11_of 109 = .ok (.getfield 124, 3) := dB_575.2.2.2.2.2.2.2.1
theorem dX11_of_112 : decode cX11_of 112 = .ok (.iload 4, 2) := dB_575.2.2.2.2.2.2.2.2.1
theorem dX11_of_114 : decode cX11_of 114 = .ok (.iaload, 1) := dB_575.2.2.2.2.2.2.2.2.2.1
theorem dX11_of_115 : decode cX11_of 115 = .ok (.iconst 3, 1) := dB_575.2.2.2.2.2.2.2.2.2.2.1
theorem dX11_of_116 : decode cX11_of 116 = .ok (.if_icmp .ne 7, 3) := dB_575.2.2.2.2.2.2.2.2.2.2.2.1
theorem dX11_of_123 : decode cX11_of 123 = .ok (.iconst 0, 1) := dB_575.2.2.2.2.2.2.2.2.2.2.2.2.1
theorem dX11_of_124 : decode cX11_of 124 = .ok (.ireturn, 1) := dB_575.2.2.2.2.2.2.2.2.2.2.2.2.2.1
theorem dX11_of_119 : decode cX11_of 119 = .ok (.iconst 1, 1) := dB_575.2.2.2.2.2.2.2.2.2.2.2.2.2.2.1
theorem dX11_of_120 : decode cX11_of 120 = .ok (.goto 4, 3) := dB_575.2.2.2.2.2.2.2.2.2.2.2.2.2.2.2
theorem dB_576 : (decode cX11_of 125 = .ok (.aload_n 3, 1)) ∧ (decode cX11_of 126 = .ok (.iload 4, 2)) ∧ (decode cX11_of 128 = .ok (.invokevirtual 153, 3)) ∧ (decode cX11_of 131 = .ok (.ireturn, 1)) ∧ (decode cX11_of 132 = .ok (.iconst (-1), 1)) ∧ (decode cX11_of 133 = .ok (.ireturn, 1)) ∧ (decode cX11_of 22 = .ok (.iconst (-1), 1)) ∧ (decode cX11_of 23 = .ok (.ireturn, 1)) := by decide +kernel
theorem dX11_of_125 : decode cX11_of 125 = .ok (.aload_n 3, 1) := dB_576.1
theorem dX11_of_126 : decode cX11_of 126 = .ok (.iload 4, 2) := dB_576.2.1
theorem dX11_of_128 : decode cX11_of 128 = .ok (.invokevirtual 153, 3) := dB_576.2.2.1
theorem dX11_of_131 : decode cX11_of 131 = .ok (.ireturn, 1) := dB_576.2.2.2.1
theorem dX11_of_132 : decode cX11_of 132 = .ok (.iconst (-1), 1) := dB_576.2.2.2.2.1
theorem dX11_of_133 : decode cX11_of 133 = .ok (.ireturn, 1) := dB_576.2.2.2.2.2.1
theorem dX11_of_22 : decode cX11_of 22 = .ok (.iconst (-1), 1) := dB_576.2.2.2.2.2.2.1
theorem dX11_of_23 : decode cX11_of 23 = .ok (.ireturn, 1) := dB_576.2.2.2.2.2.2.2
theorem lk_RX11_153 : Cond.methodLink RX11 153 yX10_shareOf ∈ gW := gW_u tb_3 108 (by rfl) (by decide +kernel)
theorem mI_X10_shareOf : Cond.instanceMethod yX10_shareOf ∈ gW := gW_u tb_3 109 (by rfl) (by decide +kernel)
theorem mS_X10_shareOf : Cond.selects RX10 yX10_shareOf yX10_shareOf ∈ gW := gW_u tb_3 110 (by rfl) (by decide +kernel)
theorem mC_X10_shareOf : Cond.code yX10_shareOf cX10_shareOf 5 (some .int) ∈ gW := gW_u tb_3 111 (by rfl) (by decide +kernel)
theorem ok_X10_shareOf : okD yX10_shareOf 1 := ⟨by decide +kernel, by decide +kernel, by decide +kernel⟩
def yX11_listener : MethodName := ⟨RX11, "listener", "(II)I"⟩
abbrev cX11_listener : ByteArray := prog_1_method_6_code
theorem dB_577 : (decode cX11_listener 0 = .ok (.iload_n 1, 1)) ∧ (decode cX11_listener 1 = .ok (.bipush 8, 2)) ∧ (decode cX11_listener 3 = .ok (.invokestatic 82, 3)) ∧ (decode cX11_listener 6 = .ok (.ifCond .eq 12, 3)) ∧ (decode cX11_listener 18 = .ok (.aload_n 0, 1)) ∧ (decode cX11_listener 19 = .ok (.iconst (-1), 1)) ∧ (decode cX11_listener 20 = .ok (.invokevirtual 91, 3)) ∧ (decode cX11_listener 23 = .ok (.ireturn, 1)) ∧ (decode cX11_listener 9 = .ok (.iload_n 2, 1)) ∧ (decode cX11_listener 10 = .ok (.bipush 21, 2)) ∧ (decode cX11_listener 12 = .ok (.invokestatic 82, 3)) ∧ (decode cX11_listener 15 = .ok (.ifCond .ne 9, 3)) ∧ (decode cX11_listener 24 = .ok (.aload_n 0, 1)) ∧ (decode cX11_listener 25 = .ok (.getfield 21, 3)) ∧ (decode cX11_listener 28 = .ok (.getfield 78, 3)) ∧ (decode cX11_listener 31 = .ok (.getfield 156, 3)) := by decide +kernel
theorem dX11_listener_0 : decode cX11_listener 0 = .ok (.iload_n 1, 1) := dB_577.1
theorem dX11_listener_1 : decode cX11_listener 1 = .ok (.bipush 8, 2) := dB_577.2.1
theorem dX11_listener_3 : decode cX11_listener 3 = .ok (.invokestatic 82, 3) := dB_577.2.2.1
theorem dX11_listener_6 : decode cX11_listener 6 = .ok (.ifCond .eq 12, 3) := dB_577.2.2.2.1
theorem dX11_listener_18 : decode cX11_listener 18 = .ok (.aload_n 0, 1) := dB_577.2.2.2.2.1
theorem dX11_listener_19 : decode cX11_listener 19 = .ok (.iconst (-1), 1) := dB_577.2.2.2.2.2.1
theorem dX11_listener_20 : decode cX11_listener 20 = .ok (.invokevirtual 91, 3) := dB_577.2.2.2.2.2.2.1
theorem dX11_listener_23 : decode cX11_listener 23 = .ok (.ireturn, 1) := dB_577.2.2.2.2.2.2.2.1
theorem dX11_listener_9 : decode cX11_listener 9 = .ok (.iload_n 2, 1) := dB_577.2.2.2.2.2.2.2.2.1
theorem dX11_listener_10 : decode cX11_listener 10 = .ok (.bipush 21, 2) := dB_577.2.2.2.2.2.2.2.2.2.1
theorem dX11_listener_12 : decode cX11_listener 12 = .ok (.invokestatic 82, 3) := dB_577.2.2.2.2.2.2.2.2.2.2.1
theorem dX11_listener_15 : decode cX11_listener 15 = .ok (.ifCond .ne 9, 3) := dB_577.2.2.2.2.2.2.2.2.2.2.2.1
theorem dX11_listener_24 : decode cX11_listener 24 = .ok (.aload_n 0, 1) := dB_577.2.2.2.2.2.2.2.2.2.2.2.2.1
theorem dX11_listener_25 : decode cX11_listener 25 = .ok (.getfield 21, 3) := dB_577.2.2.2.2.2.2.2.2.2.2.2.2.2.1
theorem dX11_listener_28 : decode cX11_listener 28 = .ok (.getfield 78, 3) := dB_577.2.2.2.2.2.2.2.2.2.2.2.2.2.2.1
theorem dX11_listener_31 : decode cX11_listener 31 = .ok (.getfield 156, 3) := dB_577.2.2.2.2.2.2.2.2.2.2.2.2.2.2.2
theorem dB_578 : (decode cX11_listener 34 = .ok (.astore_n 3, 1)) ∧ (decode cX11_listener 35 = .ok (.aload_n 3, 1)) ∧ (decode cX11_listener 36 = .ok (.getfield 160, 3)) ∧ (decode cX11_listener 39 = .ok (.iconst 5, 1)) ∧ (decode cX11_listener 40 = .ok (.if_icmp .lt 10, 3)) ∧ (decode cX11_listener 50 = .ok (.aload_n 3, 1)) ∧ (decode cX11_listener 51 = .ok (.iload_n 1, 1)) ∧ (decode cX11_listener 52 = .ok (.iload_n 2, 1)) ∧ (decode cX11_listener 53 = .ok (.invokevirtual 165, 3)) ∧ (decode cX11_listener 56 = .ok (.aload_n 0, 1)) ∧ (decode cX11_listener 57 = .ok (.getfield 21, 3)) ∧ (decode cX11_listener 60 = .ok (.getfield 107, 3)) ∧ (decode cX11_listener 63 = .ok (.invokevirtual 111, 3)) ∧ (decode cX11_listener 66 = .ok (.aload_n 0, 1)) ∧ (decode cX11_listener 67 = .ok (.aload_n 3, 1)) ∧ (decode cX11_listener 68 = .ok (.getfield 160, 3)) := by decide +kernel
theorem dX11_listener_34 : decode cX11_listener 34 = .ok (.astore_n 3, 1) := dB_578.1
theorem dX11_listener_35 : decode cX11_listener 35 = .ok (.aload_n 3, 1) := dB_578.2.1
theorem dX11_listener_36 : decode cX11_listener 36 = .ok (.getfield 160, 3) := dB_578.2.2.1
theorem dX11_listener_39 : decode cX11_listener 39 = .ok (.iconst 5, 1) := dB_578.2.2.2.1
theorem dX11_listener_40 : decode cX11_listener 40 = .ok (.if_icmp .lt 10, 3) := dB_578.2.2.2.2.1
theorem dX11_listener_50 : decode cX11_listener 50 = .ok (.aload_n 3, 1) := dB_578.2.2.2.2.2.1
theorem dX11_listener_51 : decode cX11_listener 51 = .ok (.iload_n 1, 1) := dB_578.2.2.2.2.2.2.1
theorem dX11_listener_52 : decode cX11_listener 52 = .ok (.iload_n 2, 1) := dB_578.2.2.2.2.2.2.2.1
theorem dX11_listener_53 : decode cX11_listener 53 = .ok (.invokevirtual 165, 3) := dB_578.2.2.2.2.2.2.2.2.1
theorem dX11_listener_56 : decode cX11_listener 56 = .ok (.aload_n 0, 1) := dB_578.2.2.2.2.2.2.2.2.2.1
theorem dX11_listener_57 : decode cX11_listener 57 = .ok (.getfield 21, 3) := dB_578.2.2.2.2.2.2.2.2.2.2.1
theorem dX11_listener_60 : decode cX11_listener 60 = .ok (.getfield 107, 3) := dB_578.2.2.2.2.2.2.2.2.2.2.2.1
theorem dX11_listener_63 : decode cX11_listener 63 = .ok (.invokevirtual 111, 3) := dB_578.2.2.2.2.2.2.2.2.2.2.2.2.1
theorem dX11_listener_66 : decode cX11_listener 66 = .ok (.aload_n 0, 1) := dB_578.2.2.2.2.2.2.2.2.2.2.2.2.2.1
theorem dX11_listener_67 : decode cX11_listener 67 = .ok (.aload_n 3, 1) := dB_578.2.2.2.2.2.2.2.2.2.2.2.2.2.2.1
theorem dX11_listener_68 : decode cX11_listener 68 = .ok (.getfield 160, 3) := dB_578.2.2.2.2.2.2.2.2.2.2.2.2.2.2.2
theorem fl_RX11_160 : Cond.fieldLink RX11 160 RX4 "listeners" "I" ∈ gW := gW_u tb_1 155 (by rfl) (by decide +kernel)
theorem lk_RX11_165 : Cond.methodLink RX11 165 yX4_addListener ∈ gW := gW_u tb_3 130 (by rfl) (by decide +kernel)
theorem mI_X4_addListener : Cond.instanceMethod yX4_addListener ∈ gW := gW_u tb_3 131 (by rfl) (by decide +kernel)
theorem mS_X4_addListener : Cond.selects RX4 yX4_addListener yX4_addListener ∈ gW := gW_u tb_3 132 (by rfl) (by decide +kernel)
theorem mC_X4_addListener : Cond.code yX4_addListener cX4_addListener 3 none ∈ gW := gW_u tb_3 133 (by rfl) (by decide +kernel)
theorem ok_X4_addListener : okD yX4_addListener 2 := ⟨by decide +kernel, by decide +kernel, by decide +kernel⟩
theorem dB_579 : (decode cX11_listener 71 = .ok (.iconst 1, 1)) ∧ (decode cX11_listener 72 = .ok (.isub, 1)) ∧ (decode cX11_listener 73 = .ok (.invokevirtual 91, 3)) ∧ (decode cX11_listener 76 = .ok (.ireturn, 1)) ∧ (decode cX11_listener 43 = .ok (.aload_n 0, 1)) ∧ (decode cX11_listener 44 = .ok (.bipush (-5), 2)) ∧ (decode cX11_listener 46 = .ok (.invokevirtual 91, 3)) ∧ (decode cX11_listener 49 = .ok (.ireturn, 1)) := by decide +kernel
theorem dX11_listener_71 : decode cX11_listener 71 = .ok (.iconst 1, 1) := dB_579.1
theorem dX11_listener_72 : decode cX11_listener 72 = .ok (.isub, 1) := dB_579.2.1
theorem dX11_listener_73 : decode cX11_listener 73 = .ok (.invokevirtual 91, 3) := dB_579.2.2.1
theorem dX11_listener_76 : decode cX11_listener 76 = .ok (.ireturn, 1) := dB_579.2.2.2.1
theorem dX11_listener_43 : decode cX11_listener 43 = .ok (.aload_n 0, 1) := dB_579.2.2.2.2.1
theorem dX11_listener_44 : decode cX11_listener 44 = .ok (.bipush (-5), 2) := dB_579.2.2.2.2.2.1
theorem dX11_listener_46 : decode cX11_listener 46 = .ok (.invokevirtual 91, 3) := dB_579.2.2.2.2.2.2.1
theorem dX11_listener_49 : decode cX11_listener 49 = .ok (.ireturn, 1) := dB_579.2.2.2.2.2.2.2
def yX11_noise : MethodName := ⟨RX11, "noise", "(II)I"⟩
abbrev cX11_noise : ByteArray := prog_1_method_7_code
theorem dB_580 : (decode cX11_noise 0 = .ok (.iload_n 1, 1)) ∧ (decode cX11_noise 1 = .ok (.bipush 8, 2)) ∧ (decode cX11_noise 3 = .ok (.invokestatic 82, 3)) ∧ (decode cX11_noise 6 = .ok (.ifCond .eq 12, 3)) ∧ (decode cX11_noise 18 = .ok (.aload_n 0, 1)) ∧ (decode cX11_noise 19 = .ok (.iconst (-1), 1)) ∧ (decode cX11_noise 20 = .ok (.invokevirtual 91, 3)) ∧ (decode cX11_noise 23 = .ok (.ireturn, 1)) ∧ (decode cX11_noise 9 = .ok (.iload_n 2, 1)) ∧ (decode cX11_noise 10 = .ok (.bipush 21, 2)) ∧ (decode cX11_noise 12 = .ok (.invokestatic 82, 3)) ∧ (decode cX11_noise 15 = .ok (.ifCond .ne 9, 3)) ∧ (decode cX11_noise 24 = .ok (.aload_n 0, 1)) ∧ (decode cX11_noise 25 = .ok (.getfield 21, 3)) ∧ (decode cX11_noise 28 = .ok (.getfield 78, 3)) ∧ (decode cX11_noise 31 = .ok (.getfield 156, 3)) := by decide +kernel
theorem dX11_noise_0 : decode cX11_noise 0 = .ok (.iload_n 1, 1) := dB_580.1
theorem dX11_noise_1 : decode cX11_noise 1 = .ok (.bipush 8, 2) := dB_580.2.1
theorem dX11_noise_3 : decode cX11_noise 3 = .ok (.invokestatic 82, 3) := dB_580.2.2.1
theorem dX11_noise_6 : decode cX11_noise 6 = .ok (.ifCond .eq 12, 3) := dB_580.2.2.2.1
theorem dX11_noise_18 : decode cX11_noise 18 = .ok (.aload_n 0, 1) := dB_580.2.2.2.2.1
theorem dX11_noise_19 : decode cX11_noise 19 = .ok (.iconst (-1), 1) := dB_580.2.2.2.2.2.1
theorem dX11_noise_20 : decode cX11_noise 20 = .ok (.invokevirtual 91, 3) := dB_580.2.2.2.2.2.2.1
theorem dX11_noise_23 : decode cX11_noise 23 = .ok (.ireturn, 1) := dB_580.2.2.2.2.2.2.2.1
theorem dX11_noise_9 : decode cX11_noise 9 = .ok (.iload_n 2, 1) := dB_580.2.2.2.2.2.2.2.2.1
theorem dX11_noise_10 : decode cX11_noise 10 = .ok (.bipush 21, 2) := dB_580.2.2.2.2.2.2.2.2.2.1
theorem dX11_noise_12 : decode cX11_noise 12 = .ok (.invokestatic 82, 3) := dB_580.2.2.2.2.2.2.2.2.2.2.1
theorem dX11_noise_15 : decode cX11_noise 15 = .ok (.ifCond .ne 9, 3) := dB_580.2.2.2.2.2.2.2.2.2.2.2.1
theorem dX11_noise_24 : decode cX11_noise 24 = .ok (.aload_n 0, 1) := dB_580.2.2.2.2.2.2.2.2.2.2.2.2.1
theorem dX11_noise_25 : decode cX11_noise 25 = .ok (.getfield 21, 3) := dB_580.2.2.2.2.2.2.2.2.2.2.2.2.2.1
theorem dX11_noise_28 : decode cX11_noise 28 = .ok (.getfield 78, 3) := dB_580.2.2.2.2.2.2.2.2.2.2.2.2.2.2.1
theorem dX11_noise_31 : decode cX11_noise 31 = .ok (.getfield 156, 3) := dB_580.2.2.2.2.2.2.2.2.2.2.2.2.2.2.2
theorem dB_581 : (decode cX11_noise 34 = .ok (.astore_n 3, 1)) ∧ (decode cX11_noise 35 = .ok (.aload_n 3, 1)) ∧ (decode cX11_noise 36 = .ok (.getfield 169, 3)) ∧ (decode cX11_noise 39 = .ok (.bipush 6, 2)) ∧ (decode cX11_noise 41 = .ok (.if_icmp .lt 10, 3)) ∧ (decode cX11_noise 51 = .ok (.aload_n 3, 1)) ∧ (decode cX11_noise 52 = .ok (.iload_n 1, 1)) ∧ (decode cX11_noise 53 = .ok (.iload_n 2, 1)) ∧ (decode cX11_noise 54 = .ok (.invokevirtual 172, 3)) ∧ (decode cX11_noise 57 = .ok (.aload_n 0, 1)) ∧ (decode cX11_noise 58 = .ok (.getfield 21, 3)) ∧ (decode cX11_noise 61 = .ok (.getfield 107, 3)) ∧ (decode cX11_noise 64 = .ok (.invokevirtual 111, 3)) ∧ (decode cX11_noise 67 = .ok (.aload_n 0, 1)) ∧ (decode cX11_noise 68 = .ok (.aload_n 3, 1)) ∧ (decode cX11_noise 69 = .ok (.getfield 169, 3)) := by decide +kernel
theorem dX11_noise_34 : decode cX11_noise 34 = .ok (.astore_n 3, 1) := dB_581.1
theorem dX11_noise_35 : decode cX11_noise 35 = .ok (.aload_n 3, 1) := dB_581.2.1
theorem dX11_noise_36 : decode cX11_noise 36 = .ok (.getfield 169, 3) := dB_581.2.2.1
theorem dX11_noise_39 : decode cX11_noise 39 = .ok (.bipush 6, 2) := dB_581.2.2.2.1
theorem dX11_noise_41 : decode cX11_noise 41 = .ok (.if_icmp .lt 10, 3) := dB_581.2.2.2.2.1
theorem dX11_noise_51 : decode cX11_noise 51 = .ok (.aload_n 3, 1) := dB_581.2.2.2.2.2.1
theorem dX11_noise_52 : decode cX11_noise 52 = .ok (.iload_n 1, 1) := dB_581.2.2.2.2.2.2.1
theorem dX11_noise_53 : decode cX11_noise 53 = .ok (.iload_n 2, 1) := dB_581.2.2.2.2.2.2.2.1
theorem dX11_noise_54 : decode cX11_noise 54 = .ok (.invokevirtual 172, 3) := dB_581.2.2.2.2.2.2.2.2.1
theorem dX11_noise_57 : decode cX11_noise 57 = .ok (.aload_n 0, 1) := dB_581.2.2.2.2.2.2.2.2.2.1
theorem dX11_noise_58 : decode cX11_noise 58 = .ok (.getfield 21, 3) := dB_581.2.2.2.2.2.2.2.2.2.2.1
theorem dX11_noise_61 : decode cX11_noise 61 = .ok (.getfield 107, 3) := dB_581.2.2.2.2.2.2.2.2.2.2.2.1
theorem dX11_noise_64 : decode cX11_noise 64 = .ok (.invokevirtual 111, 3) := dB_581.2.2.2.2.2.2.2.2.2.2.2.2.1
theorem dX11_noise_67 : decode cX11_noise 67 = .ok (.aload_n 0, 1) := dB_581.2.2.2.2.2.2.2.2.2.2.2.2.2.1
theorem dX11_noise_68 : decode cX11_noise 68 = .ok (.aload_n 3, 1) := dB_581.2.2.2.2.2.2.2.2.2.2.2.2.2.2.1
theorem dX11_noise_69 : decode cX11_noise 69 = .ok (.getfield 169, 3) := dB_581.2.2.2.2.2.2.2.2.2.2.2.2.2.2.2
theorem fl_RX11_169 : Cond.fieldLink RX11 169 RX4 "noises" "I" ∈ gW := gW_u tb_1 167 (by rfl) (by decide +kernel)
theorem lk_RX11_172 : Cond.methodLink RX11 172 yX4_addNoise ∈ gW := gW_u tb_3 138 (by rfl) (by decide +kernel)
theorem mI_X4_addNoise : Cond.instanceMethod yX4_addNoise ∈ gW := gW_u tb_3 139 (by rfl) (by decide +kernel)
theorem mS_X4_addNoise : Cond.selects RX4 yX4_addNoise yX4_addNoise ∈ gW := gW_u tb_3 140 (by rfl) (by decide +kernel)
theorem mC_X4_addNoise : Cond.code yX4_addNoise cX4_addNoise 3 none ∈ gW := gW_u tb_3 141 (by rfl) (by decide +kernel)
theorem ok_X4_addNoise : okD yX4_addNoise 2 := ⟨by decide +kernel, by decide +kernel, by decide +kernel⟩
theorem dB_582 : (decode cX11_noise 72 = .ok (.iconst 1, 1)) ∧ (decode cX11_noise 73 = .ok (.isub, 1)) ∧ (decode cX11_noise 74 = .ok (.invokevirtual 91, 3)) ∧ (decode cX11_noise 77 = .ok (.ireturn, 1)) ∧ (decode cX11_noise 44 = .ok (.aload_n 0, 1)) ∧ (decode cX11_noise 45 = .ok (.bipush (-5), 2)) ∧ (decode cX11_noise 47 = .ok (.invokevirtual 91, 3)) ∧ (decode cX11_noise 50 = .ok (.ireturn, 1)) := by decide +kernel
theorem dX11_noise_72 : decode cX11_noise 72 = .ok (.iconst 1, 1) := dB_582.1
theorem dX11_noise_73 : decode cX11_noise 73 = .ok (.isub, 1) := dB_582.2.1
theorem dX11_noise_74 : decode cX11_noise 74 = .ok (.invokevirtual 91, 3) := dB_582.2.2.1
theorem dX11_noise_77 : decode cX11_noise 77 = .ok (.ireturn, 1) := dB_582.2.2.2.1
theorem dX11_noise_44 : decode cX11_noise 44 = .ok (.aload_n 0, 1) := dB_582.2.2.2.2.1
theorem dX11_noise_45 : decode cX11_noise 45 = .ok (.bipush (-5), 2) := dB_582.2.2.2.2.2.1
theorem dX11_noise_47 : decode cX11_noise 47 = .ok (.invokevirtual 91, 3) := dB_582.2.2.2.2.2.2.1
theorem dX11_noise_50 : decode cX11_noise 50 = .ok (.ireturn, 1) := dB_582.2.2.2.2.2.2.2
def yX11_who : MethodName := ⟨RX11, "who", "(II)I"⟩
abbrev cX11_who : ByteArray := prog_1_method_8_code
theorem dB_583 : (decode cX11_who 0 = .ok (.aload_n 0, 1)) ∧ (decode cX11_who 1 = .ok (.getfield 21, 3)) ∧ (decode cX11_who 4 = .ok (.getfield 78, 3)) ∧ (decode cX11_who 7 = .ok (.getfield 156, 3)) ∧ (decode cX11_who 10 = .ok (.astore_n 3, 1)) ∧ (decode cX11_who 11 = .ok (.iload_n 2, 1)) ∧ (decode cX11_who 12 = .ok (.ifCond .eq 8, 3)) ∧ (decode cX11_who 20 = .ok (.iconst 1, 1)) ∧ (decode cX11_who 21 = .ok (.goto 4, 3)) ∧ (decode cX11_who 15 = .ok (.iload_n 2, 1)) ∧ (decode cX11_who 16 = .ok (.iconst 1, 1)) ∧ (decode cX11_who 17 = .ok (.if_icmp .ne 7, 3)) ∧ (decode cX11_who 24 = .ok (.iconst 0, 1)) ∧ (decode cX11_who 25 = .ok (.istore 4, 2)) ∧ (decode cX11_who 27 = .ok (.iload_n 1, 1)) ∧ (decode cX11_who 28 = .ok (.iload 4, 2)) := by decide +kernel
theorem dX11_who_0 : decode cX11_who 0 = .ok (.aload_n 0, 1) := dB_583.1
theorem dX11_who_1 : decode cX11_who 1 = .ok (.getfield 21, 3) := dB_583.2.1
theorem dX11_who_4 : decode cX11_who 4 = .ok (.getfield 78, 3) := dB_583.2.2.1
theorem dX11_who_7 : decode cX11_who 7 = .ok (.getfield 156, 3) := dB_583.2.2.2.1
theorem dX11_who_10 : decode cX11_who 10 = .ok (.astore_n 3, 1) := dB_583.2.2.2.2.1
theorem dX11_who_11 : decode cX11_who 11 = .ok (.iload_n 2, 1) := dB_583.2.2.2.2.2.1
theorem dX11_who_12 : decode cX11_who 12 = .ok (.ifCond .eq 8, 3) := dB_583.2.2.2.2.2.2.1
theorem dX11_who_20 : decode cX11_who 20 = .ok (.iconst 1, 1) := dB_583.2.2.2.2.2.2.2.1
theorem dX11_who_21 : decode cX11_who 21 = .ok (.goto 4, 3) := dB_583.2.2.2.2.2.2.2.2.1
theorem dX11_who_15 : decode cX11_who 15 = .ok (.iload_n 2, 1) := dB_583.2.2.2.2.2.2.2.2.2.1
theorem dX11_who_16 : decode cX11_who 16 = .ok (.iconst 1, 1) := dB_583.2.2.2.2.2.2.2.2.2.2.1
theorem dX11_who_17 : decode cX11_who 17 = .ok (.if_icmp .ne 7, 3) := dB_583.2.2.2.2.2.2.2.2.2.2.2.1
theorem dX11_who_24 : decode cX11_who 24 = .ok (.iconst 0, 1) := dB_583.2.2.2.2.2.2.2.2.2.2.2.2.1
theorem dX11_who_25 : decode cX11_who 25 = .ok (.istore 4, 2) := dB_583.2.2.2.2.2.2.2.2.2.2.2.2.2.1
theorem dX11_who_27 : decode cX11_who 27 = .ok (.iload_n 1, 1) := dB_583.2.2.2.2.2.2.2.2.2.2.2.2.2.2.1
theorem dX11_who_28 : decode cX11_who 28 = .ok (.iload 4, 2) := dB_583.2.2.2.2.2.2.2.2.2.2.2.2.2.2.2
theorem dB_584 : (decode cX11_who 30 = .ok (.ifCond .eq 10, 3)) ∧ (decode cX11_who 40 = .ok (.aload_n 3, 1)) ∧ (decode cX11_who 41 = .ok (.getfield 169, 3)) ∧ (decode cX11_who 33 = .ok (.aload_n 3, 1)) ∧ (decode cX11_who 34 = .ok (.getfield 160, 3)) ∧ (decode cX11_who 37 = .ok (.goto 7, 3)) ∧ (decode cX11_who 44 = .ok (.invokestatic 82, 3)) ∧ (decode cX11_who 47 = .ok (.ifCond .ne 5, 3)) ∧ (decode cX11_who 52 = .ok (.iload_n 2, 1)) ∧ (decode cX11_who 53 = .ok (.tableswitch 72 0 4 #[35, 42, 49, 56, 63], 35)) ∧ (decode cX11_who 88 = .ok (.aload_n 3, 1)) ∧ (decode cX11_who 89 = .ok (.getfield 175, 3)) ∧ (decode cX11_who 92 = .ok (.iload_n 1, 1)) ∧ (decode cX11_who 93 = .ok (.iaload, 1)) ∧ (decode cX11_who 94 = .ok (.ireturn, 1)) ∧ (decode cX11_who 95 = .ok (.aload_n 3, 1)) := by decide +kernel
theorem dX11_who_30 : decode cX11_who 30 = .ok (.ifCond .eq 10, 3) := dB_584.1
theorem dX11_who_40 : decode cX11_who 40 = .ok (.aload_n 3, 1) := dB_584.2.1
theorem dX11_who_41 : decode cX11_who 41 = .ok (.getfield 169, 3) := dB_584.2.2.1
theorem dX11_who_33 : decode cX11_who 33 = .ok (.aload_n 3, 1) := dB_584.2.2.2.1
theorem dX11_who_34 : decode cX11_who 34 = .ok (.getfield 160, 3) := dB_584.2.2.2.2.1
theorem dX11_who_37 : decode cX11_who 37 = .ok (.goto 7, 3) := dB_584.2.2.2.2.2.1
theorem dX11_who_44 : decode cX11_who 44 = .ok (.invokestatic 82, 3) := dB_584.2.2.2.2.2.2.1
theorem dX11_who_47 : decode cX11_who 47 = .ok (.ifCond .ne 5, 3) := dB_584.2.2.2.2.2.2.2.1
theorem dX11_who_52 : decode cX11_who 52 = .ok (.iload_n 2, 1) := dB_584.2.2.2.2.2.2.2.2.1
theorem dX11_who_53 : decode cX11_who 53 = .ok (.tableswitch 72 0 4 #[35, 42, 49, 56, 63], 35) := dB_584.2.2.2.2.2.2.2.2.2.1
theorem dX11_who_88 : decode cX11_who 88 = .ok (.aload_n 3, 1) := dB_584.2.2.2.2.2.2.2.2.2.2.1
theorem dX11_who_89 : decode cX11_who 89 = .ok (.getfield 175, 3) := dB_584.2.2.2.2.2.2.2.2.2.2.2.1
theorem dX11_who_92 : decode cX11_who 92 = .ok (.iload_n 1, 1) := dB_584.2.2.2.2.2.2.2.2.2.2.2.2.1
theorem dX11_who_93 : decode cX11_who 93 = .ok (.iaload, 1) := dB_584.2.2.2.2.2.2.2.2.2.2.2.2.2.1
theorem dX11_who_94 : decode cX11_who 94 = .ok (.ireturn, 1) := dB_584.2.2.2.2.2.2.2.2.2.2.2.2.2.2.1
theorem dX11_who_95 : decode cX11_who 95 = .ok (.aload_n 3, 1) := dB_584.2.2.2.2.2.2.2.2.2.2.2.2.2.2.2
theorem fl_RX11_175 : Cond.fieldLink RX11 175 RX4 "column" "[I" ∈ gW := gW_u tb_1 149 (by rfl) (by decide +kernel)
theorem dB_585 : (decode cX11_who 96 = .ok (.getfield 178, 3)) ∧ (decode cX11_who 99 = .ok (.iload_n 1, 1)) ∧ (decode cX11_who 100 = .ok (.iaload, 1)) ∧ (decode cX11_who 101 = .ok (.ireturn, 1)) ∧ (decode cX11_who 102 = .ok (.aload_n 3, 1)) ∧ (decode cX11_who 103 = .ok (.getfield 181, 3)) ∧ (decode cX11_who 106 = .ok (.iload_n 1, 1)) ∧ (decode cX11_who 107 = .ok (.iaload, 1)) ∧ (decode cX11_who 108 = .ok (.ireturn, 1)) ∧ (decode cX11_who 109 = .ok (.aload_n 3, 1)) ∧ (decode cX11_who 110 = .ok (.getfield 184, 3)) ∧ (decode cX11_who 113 = .ok (.iload_n 1, 1)) ∧ (decode cX11_who 114 = .ok (.iaload, 1)) ∧ (decode cX11_who 115 = .ok (.ireturn, 1)) ∧ (decode cX11_who 116 = .ok (.aload_n 3, 1)) ∧ (decode cX11_who 117 = .ok (.getfield 187, 3)) := by decide +kernel
theorem dX11_who_96 : decode cX11_who 96 = .ok (.getfield 178, 3) := dB_585.1
theorem dX11_who_99 : decode cX11_who 99 = .ok (.iload_n 1, 1) := dB_585.2.1
theorem dX11_who_100 : decode cX11_who 100 = .ok (.iaload, 1) := dB_585.2.2.1
theorem dX11_who_101 : decode cX11_who 101 = .ok (.ireturn, 1) := dB_585.2.2.2.1
theorem dX11_who_102 : decode cX11_who 102 = .ok (.aload_n 3, 1) := dB_585.2.2.2.2.1
theorem dX11_who_103 : decode cX11_who 103 = .ok (.getfield 181, 3) := dB_585.2.2.2.2.2.1
theorem dX11_who_106 : decode cX11_who 106 = .ok (.iload_n 1, 1) := dB_585.2.2.2.2.2.2.1
theorem dX11_who_107 : decode cX11_who 107 = .ok (.iaload, 1) := dB_585.2.2.2.2.2.2.2.1
theorem dX11_who_108 : decode cX11_who 108 = .ok (.ireturn, 1) := dB_585.2.2.2.2.2.2.2.2.1
theorem dX11_who_109 : decode cX11_who 109 = .ok (.aload_n 3, 1) := dB_585.2.2.2.2.2.2.2.2.2.1
theorem dX11_who_110 : decode cX11_who 110 = .ok (.getfield 184, 3) := dB_585.2.2.2.2.2.2.2.2.2.2.1
theorem dX11_who_113 : decode cX11_who 113 = .ok (.iload_n 1, 1) := dB_585.2.2.2.2.2.2.2.2.2.2.2.1
theorem dX11_who_114 : decode cX11_who 114 = .ok (.iaload, 1) := dB_585.2.2.2.2.2.2.2.2.2.2.2.2.1
theorem dX11_who_115 : decode cX11_who 115 = .ok (.ireturn, 1) := dB_585.2.2.2.2.2.2.2.2.2.2.2.2.2.1
theorem dX11_who_116 : decode cX11_who 116 = .ok (.aload_n 3, 1) := dB_585.2.2.2.2.2.2.2.2.2.2.2.2.2.2.1
theorem dX11_who_117 : decode cX11_who 117 = .ok (.getfield 187, 3) := dB_585.2.2.2.2.2.2.2.2.2.2.2.2.2.2.2
theorem fl_RX11_178 : Cond.fieldLink RX11 178 RX4 "ear" "[I" ∈ gW := gW_u tb_1 153 (by rfl) (by decide +kernel)
theorem fl_RX11_181 : Cond.fieldLink RX11 181 RX4 "noiseColumn" "[I" ∈ gW := gW_u tb_1 161 (by rfl) (by decide +kernel)
theorem fl_RX11_184 : Cond.fieldLink RX11 184 RX4 "noiseLoud" "[I" ∈ gW := gW_u tb_1 163 (by rfl) (by decide +kernel)
theorem fl_RX11_187 : Cond.fieldLink RX11 187 RX4 "hushed" "I" ∈ gW := gW_u tb_1 171 (by rfl) (by decide +kernel)
theorem dB_586 : (decode cX11_who 120 = .ok (.iload_n 1, 1)) ∧ (decode cX11_who 121 = .ok (.ishr, 1)) ∧ (decode cX11_who 122 = .ok (.iconst 1, 1)) ∧ (decode cX11_who 123 = .ok (.iand, 1)) ∧ (decode cX11_who 124 = .ok (.ireturn, 1)) ∧ (decode cX11_who 125 = .ok (.iconst (-1), 1)) ∧ (decode cX11_who 126 = .ok (.ireturn, 1)) ∧ (decode cX11_who 50 = .ok (.iconst (-1), 1)) ∧ (decode cX11_who 51 = .ok (.ireturn, 1)) := by decide +kernel
theorem dX11_who_120 : decode cX11_who 120 = .ok (.iload_n 1, 1) := dB_586.1
theorem dX11_who_121 : decode cX11_who 121 = .ok (.ishr, 1) := dB_586.2.1
theorem dX11_who_122 : decode cX11_who 122 = .ok (.iconst 1, 1) := dB_586.2.2.1
theorem dX11_who_123 : decode cX11_who 123 = .ok (.iand, 1) := dB_586.2.2.2.1
theorem dX11_who_124 : decode cX11_who 124 = .ok (.ireturn, 1) := dB_586.2.2.2.2.1
theorem dX11_who_125 : decode cX11_who 125 = .ok (.iconst (-1), 1) := dB_586.2.2.2.2.2.1
theorem dX11_who_126 : decode cX11_who 126 = .ok (.ireturn, 1) := dB_586.2.2.2.2.2.2.1
theorem dX11_who_50 : decode cX11_who 50 = .ok (.iconst (-1), 1) := dB_586.2.2.2.2.2.2.2.1
theorem dX11_who_51 : decode cX11_who 51 = .ok (.ireturn, 1) := dB_586.2.2.2.2.2.2.2.2
def yX11_feed : MethodName := ⟨RX11, "feed", "(IIIII)I"⟩
abbrev cX11_feed : ByteArray := prog_1_method_10_code
theorem dB_587 : (decode cX11_feed 0 = .ok (.aload_n 0, 1)) ∧ (decode cX11_feed 1 = .ok (.getfield 42, 3)) ∧ (decode cX11_feed 4 = .ok (.getfield 196, 3)) ∧ (decode cX11_feed 7 = .ok (.bipush 20, 2)) ∧ (decode cX11_feed 9 = .ok (.iadd, 1)) ∧ (decode cX11_feed 10 = .ok (.sipush 400, 3)) ∧ (decode cX11_feed 13 = .ok (.if_icmp .le 5, 3)) ∧ (decode cX11_feed 18 = .ok (.aload_n 0, 1)) ∧ (decode cX11_feed 19 = .ok (.getfield 42, 3)) ∧ (decode cX11_feed 22 = .ok (.iload_n 1, 1)) ∧ (decode cX11_feed 23 = .ok (.invokevirtual 199, 3)) ∧ (decode cX11_feed 26 = .ok (.aload_n 0, 1)) ∧ (decode cX11_feed 27 = .ok (.getfield 42, 3)) ∧ (decode cX11_feed 30 = .ok (.iload_n 2, 1)) ∧ (decode cX11_feed 31 = .ok (.invokevirtual 199, 3)) ∧ (decode cX11_feed 34 = .ok (.aload_n 0, 1)) := by decide +kernel
theorem dX11_feed_0 : decode cX11_feed 0 = .ok (.aload_n 0, 1) := dB_587.1
theorem dX11_feed_1 : decode cX11_feed 1 = .ok (.getfield 42, 3) := dB_587.2.1
theorem dX11_feed_4 : decode cX11_feed 4 = .ok (.getfield 196, 3) := dB_587.2.2.1
theorem dX11_feed_7 : decode cX11_feed 7 = .ok (.bipush 20, 2) := dB_587.2.2.2.1
theorem dX11_feed_9 : decode cX11_feed 9 = .ok (.iadd, 1) := dB_587.2.2.2.2.1
theorem dX11_feed_10 : decode cX11_feed 10 = .ok (.sipush 400, 3) := dB_587.2.2.2.2.2.1
theorem dX11_feed_13 : decode cX11_feed 13 = .ok (.if_icmp .le 5, 3) := dB_587.2.2.2.2.2.2.1
theorem dX11_feed_18 : decode cX11_feed 18 = .ok (.aload_n 0, 1) := dB_587.2.2.2.2.2.2.2.1
theorem dX11_feed_19 : decode cX11_feed 19 = .ok (.getfield 42, 3) := dB_587.2.2.2.2.2.2.2.2.1
theorem dX11_feed_22 : decode cX11_feed 22 = .ok (.iload_n 1, 1) := dB_587.2.2.2.2.2.2.2.2.2.1
theorem dX11_feed_23 : decode cX11_feed 23 = .ok (.invokevirtual 199, 3) := dB_587.2.2.2.2.2.2.2.2.2.2.1
theorem dX11_feed_26 : decode cX11_feed 26 = .ok (.aload_n 0, 1) := dB_587.2.2.2.2.2.2.2.2.2.2.2.1
theorem dX11_feed_27 : decode cX11_feed 27 = .ok (.getfield 42, 3) := dB_587.2.2.2.2.2.2.2.2.2.2.2.2.1
theorem dX11_feed_30 : decode cX11_feed 30 = .ok (.iload_n 2, 1) := dB_587.2.2.2.2.2.2.2.2.2.2.2.2.2.1
theorem dX11_feed_31 : decode cX11_feed 31 = .ok (.invokevirtual 199, 3) := dB_587.2.2.2.2.2.2.2.2.2.2.2.2.2.2.1
theorem dX11_feed_34 : decode cX11_feed 34 = .ok (.aload_n 0, 1) := dB_587.2.2.2.2.2.2.2.2.2.2.2.2.2.2.2
theorem fl_RX11_42 : Cond.fieldLink RX11 42 RX11 "reader" "LListenWells$Reader;" ∈ gW := gW_u tb_2 211 (by rfl) (by decide +kernel)
theorem fl_RX11_196 : Cond.fieldLink RX11 196 RX5 "length" "I" ∈ gW := gW_u tb_2 109 (by rfl) (by decide +kernel)
theorem lk_RX11_199 : Cond.methodLink RX11 199 yX5_addFour ∈ gW := gW_u tb_3 157 (by rfl) (by decide +kernel)
theorem mI_X5_addFour : Cond.instanceMethod yX5_addFour ∈ gW := gW_u tb_3 158 (by rfl) (by decide +kernel)
theorem mS_X5_addFour : Cond.selects RX5 yX5_addFour yX5_addFour ∈ gW := gW_u tb_3 159 (by rfl) (by decide +kernel)
theorem mN_RX5 : Cond.initialized RX5 ∈ gW := gW_u tb_1 10 (by rfl) (by decide +kernel)
theorem mC_X5_addFour : Cond.code yX5_addFour cX5_addFour 3 none ∈ gW := gW_u tb_3 160 (by rfl) (by decide +kernel)
theorem ok_X5_addFour : okD yX5_addFour 1 := ⟨by decide +kernel, by decide +kernel, by decide +kernel⟩
theorem dB_588 : (decode cX11_feed 35 = .ok (.getfield 42, 3)) ∧ (decode cX11_feed 38 = .ok (.iload_n 3, 1)) ∧ (decode cX11_feed 39 = .ok (.invokevirtual 199, 3)) ∧ (decode cX11_feed 42 = .ok (.aload_n 0, 1)) ∧ (decode cX11_feed 43 = .ok (.getfield 42, 3)) ∧ (decode cX11_feed 46 = .ok (.iload 4, 2)) ∧ (decode cX11_feed 48 = .ok (.invokevirtual 199, 3)) ∧ (decode cX11_feed 51 = .ok (.aload_n 0, 1)) ∧ (decode cX11_feed 52 = .ok (.getfield 42, 3)) ∧ (decode cX11_feed 55 = .ok (.iload 5, 2)) ∧ (decode cX11_feed 57 = .ok (.invokevirtual 199, 3)) ∧ (decode cX11_feed 60 = .ok (.aload_n 0, 1)) ∧ (decode cX11_feed 61 = .ok (.getfield 42, 3)) ∧ (decode cX11_feed 64 = .ok (.getfield 196, 3)) ∧ (decode cX11_feed 67 = .ok (.ireturn, 1)) ∧ (decode cX11_feed 16 = .ok (.iconst (-1), 1)) := by decide +kernel
theorem dX11_feed_35 : decode cX11_feed 35 = .ok (.getfield 42, 3) := dB_588.1
theorem dX11_feed_38 : decode cX11_feed 38 = .ok (.iload_n 3, 1) := dB_588.2.1
theorem dX11_feed_39 : decode cX11_feed 39 = .ok (.invokevirtual 199, 3) := dB_588.2.2.1
theorem dX11_feed_42 : decode cX11_feed 42 = .ok (.aload_n 0, 1) := dB_588.2.2.2.1
theorem dX11_feed_43 : decode cX11_feed 43 = .ok (.getfield 42, 3) := dB_588.2.2.2.2.1
theorem dX11_feed_46 : decode cX11_feed 46 = .ok (.iload 4, 2) := dB_588.2.2.2.2.2.1
theorem dX11_feed_48 : decode cX11_feed 48 = .ok (.invokevirtual 199, 3) := dB_588.2.2.2.2.2.2.1
theorem dX11_feed_51 : decode cX11_feed 51 = .ok (.aload_n 0, 1) := dB_588.2.2.2.2.2.2.2.1
theorem dX11_feed_52 : decode cX11_feed 52 = .ok (.getfield 42, 3) := dB_588.2.2.2.2.2.2.2.2.1
theorem dX11_feed_55 : decode cX11_feed 55 = .ok (.iload 5, 2) := dB_588.2.2.2.2.2.2.2.2.2.1
theorem dX11_feed_57 : decode cX11_feed 57 = .ok (.invokevirtual 199, 3) := dB_588.2.2.2.2.2.2.2.2.2.2.1
theorem dX11_feed_60 : decode cX11_feed 60 = .ok (.aload_n 0, 1) := dB_588.2.2.2.2.2.2.2.2.2.2.2.1
theorem dX11_feed_61 : decode cX11_feed 61 = .ok (.getfield 42, 3) := dB_588.2.2.2.2.2.2.2.2.2.2.2.2.1
theorem dX11_feed_64 : decode cX11_feed 64 = .ok (.getfield 196, 3) := dB_588.2.2.2.2.2.2.2.2.2.2.2.2.2.1
theorem dX11_feed_67 : decode cX11_feed 67 = .ok (.ireturn, 1) := dB_588.2.2.2.2.2.2.2.2.2.2.2.2.2.2.1
theorem dX11_feed_16 : decode cX11_feed 16 = .ok (.iconst (-1), 1) := dB_588.2.2.2.2.2.2.2.2.2.2.2.2.2.2.2
theorem dX11_feed_17 : decode cX11_feed 17 = .ok (.ireturn, 1) := by decide +kernel
def yX11_end : MethodName := ⟨RX11, "end", "(I)I"⟩
abbrev cX11_end : ByteArray := prog_1_method_11_code
theorem dB_589 : (decode cX11_end 0 = .ok (.iload_n 1, 1)) ∧ (decode cX11_end 1 = .ok (.ifCond .lt 14, 3)) ∧ (decode cX11_end 15 = .ok (.iconst (-1), 1)) ∧ (decode cX11_end 16 = .ok (.ireturn, 1)) ∧ (decode cX11_end 4 = .ok (.iload_n 1, 1)) ∧ (decode cX11_end 5 = .ok (.aload_n 0, 1)) ∧ (decode cX11_end 6 = .ok (.getfield 42, 3)) ∧ (decode cX11_end 9 = .ok (.getfield 196, 3)) ∧ (decode cX11_end 12 = .ok (.if_icmp .le 5, 3)) ∧ (decode cX11_end 17 = .ok (.aload_n 0, 1)) ∧ (decode cX11_end 18 = .ok (.getfield 42, 3)) ∧ (decode cX11_end 21 = .ok (.iload_n 1, 1)) ∧ (decode cX11_end 22 = .ok (.putfield 196, 3)) ∧ (decode cX11_end 25 = .ok (.iload_n 1, 1)) ∧ (decode cX11_end 26 = .ok (.ireturn, 1)) := by decide +kernel
theorem dX11_end_0 : decode cX11_end 0 = .ok (.iload_n 1, 1) := dB_589.1
theorem dX11_end_1 : decode cX11_end 1 = .ok (.ifCond .lt 14, 3) := dB_589.2.1
theorem dX11_end_15 : decode cX11_end 15 = .ok (.iconst (-1), 1) := dB_589.2.2.1
theorem dX11_end_16 : decode cX11_end 16 = .ok (.ireturn, 1) := dB_589.2.2.2.1
theorem dX11_end_4 : decode cX11_end 4 = .ok (.iload_n 1, 1) := dB_589.2.2.2.2.1
theorem dX11_end_5 : decode cX11_end 5 = .ok (.aload_n 0, 1) := dB_589.2.2.2.2.2.1
theorem dX11_end_6 : decode cX11_end 6 = .ok (.getfield 42, 3) := dB_589.2.2.2.2.2.2.1
theorem dX11_end_9 : decode cX11_end 9 = .ok (.getfield 196, 3) := dB_589.2.2.2.2.2.2.2.1
theorem dX11_end_12 : decode cX11_end 12 = .ok (.if_icmp .le 5, 3) := dB_589.2.2.2.2.2.2.2.2.1
theorem dX11_end_17 : decode cX11_end 17 = .ok (.aload_n 0, 1) := dB_589.2.2.2.2.2.2.2.2.2.1
theorem dX11_end_18 : decode cX11_end 18 = .ok (.getfield 42, 3) := dB_589.2.2.2.2.2.2.2.2.2.2.1
theorem dX11_end_21 : decode cX11_end 21 = .ok (.iload_n 1, 1) := dB_589.2.2.2.2.2.2.2.2.2.2.2.1
theorem dX11_end_22 : decode cX11_end 22 = .ok (.putfield 196, 3) := dB_589.2.2.2.2.2.2.2.2.2.2.2.2.1
theorem dX11_end_25 : decode cX11_end 25 = .ok (.iload_n 1, 1) := dB_589.2.2.2.2.2.2.2.2.2.2.2.2.2.1
theorem dX11_end_26 : decode cX11_end 26 = .ok (.ireturn, 1) := dB_589.2.2.2.2.2.2.2.2.2.2.2.2.2.2
def yX11_row : MethodName := ⟨RX11, "row", "()I"⟩
abbrev cX11_row : ByteArray := prog_1_method_12_code
theorem dB_590 : (decode cX11_row 0 = .ok (.aload_n 0, 1)) ∧ (decode cX11_row 1 = .ok (.getfield 42, 3)) ∧ (decode cX11_row 4 = .ok (.getfield 196, 3)) ∧ (decode cX11_row 7 = .ok (.ifCond .ne 10, 3)) ∧ (decode cX11_row 17 = .ok (.aload_n 0, 1)) ∧ (decode cX11_row 18 = .ok (.getfield 42, 3)) ∧ (decode cX11_row 21 = .ok (.getfield 196, 3)) ∧ (decode cX11_row 24 = .ok (.iconst 2, 1)) ∧ (decode cX11_row 25 = .ok (.iadd, 1)) ∧ (decode cX11_row 26 = .ok (.iconst 3, 1)) ∧ (decode cX11_row 27 = .ok (.idiv, 1)) ∧ (decode cX11_row 28 = .ok (.istore_n 1, 1)) ∧ (decode cX11_row 29 = .ok (.iconst 0, 1)) ∧ (decode cX11_row 30 = .ok (.istore_n 2, 1)) ∧ (decode cX11_row 31 = .ok (.iconst 0, 1)) ∧ (decode cX11_row 32 = .ok (.istore_n 3, 1)) := by decide +kernel
theorem dX11_row_0 : decode cX11_row 0 = .ok (.aload_n 0, 1) := dB_590.1
theorem dX11_row_1 : decode cX11_row 1 = .ok (.getfield 42, 3) := dB_590.2.1
theorem dX11_row_4 : decode cX11_row 4 = .ok (.getfield 196, 3) := dB_590.2.2.1
theorem dX11_row_7 : decode cX11_row 7 = .ok (.ifCond .ne 10, 3) := dB_590.2.2.2.1
theorem dX11_row_17 : decode cX11_row 17 = .ok (.aload_n 0, 1) := dB_590.2.2.2.2.1
theorem dX11_row_18 : decode cX11_row 18 = .ok (.getfield 42, 3) := dB_590.2.2.2.2.2.1
theorem dX11_row_21 : decode cX11_row 21 = .ok (.getfield 196, 3) := dB_590.2.2.2.2.2.2.1
theorem dX11_row_24 : decode cX11_row 24 = .ok (.iconst 2, 1) := dB_590.2.2.2.2.2.2.2.1
theorem dX11_row_25 : decode cX11_row 25 = .ok (.iadd, 1) := dB_590.2.2.2.2.2.2.2.2.1
theorem dX11_row_26 : decode cX11_row 26 = .ok (.iconst 3, 1) := dB_590.2.2.2.2.2.2.2.2.2.1
theorem dX11_row_27 : decode cX11_row 27 = .ok (.idiv, 1) := dB_590.2.2.2.2.2.2.2.2.2.2.1
theorem dX11_row_28 : decode cX11_row 28 = .ok (.istore_n 1, 1) := dB_590.2.2.2.2.2.2.2.2.2.2.2.1
theorem dX11_row_29 : decode cX11_row 29 = .ok (.iconst 0, 1) := dB_590.2.2.2.2.2.2.2.2.2.2.2.2.1
theorem dX11_row_30 : decode cX11_row 30 = .ok (.istore_n 2, 1) := dB_590.2.2.2.2.2.2.2.2.2.2.2.2.2.1
theorem dX11_row_31 : decode cX11_row 31 = .ok (.iconst 0, 1) := dB_590.2.2.2.2.2.2.2.2.2.2.2.2.2.2.1
theorem dX11_row_32 : decode cX11_row 32 = .ok (.istore_n 3, 1) := dB_590.2.2.2.2.2.2.2.2.2.2.2.2.2.2.2
theorem dB_591 : (decode cX11_row 33 = .ok (.iload_n 3, 1)) ∧ (decode cX11_row 34 = .ok (.iload_n 1, 1)) ∧ (decode cX11_row 35 = .ok (.if_icmp .ge 33, 3)) ∧ (decode cX11_row 38 = .ok (.aload_n 0, 1)) ∧ (decode cX11_row 39 = .ok (.getfield 42, 3)) ∧ (decode cX11_row 42 = .ok (.aload_n 0, 1)) ∧ (decode cX11_row 43 = .ok (.getfield 21, 3)) ∧ (decode cX11_row 46 = .ok (.getfield 78, 3)) ∧ (decode cX11_row 49 = .ok (.getfield 95, 3)) ∧ (decode cX11_row 52 = .ok (.iload_n 3, 1)) ∧ (decode cX11_row 53 = .ok (.invokevirtual 202, 3)) ∧ (decode cX11_row 56 = .ok (.ifCond .eq 6, 3)) ∧ (decode cX11_row 62 = .ok (.iinc 3 1, 3)) ∧ (decode cX11_row 65 = .ok (.goto (-32), 3)) ∧ (decode cX11_row 59 = .ok (.iinc 2 1, 3)) ∧ (decode cX11_row 68 = .ok (.aload_n 0, 1)) := by decide +kernel
theorem dX11_row_33 : decode cX11_row 33 = .ok (.iload_n 3, 1) := dB_591.1
theorem dX11_row_34 : decode cX11_row 34 = .ok (.iload_n 1, 1) := dB_591.2.1
theorem dX11_row_35 : decode cX11_row 35 = .ok (.if_icmp .ge 33, 3) := dB_591.2.2.1
theorem dX11_row_38 : decode cX11_row 38 = .ok (.aload_n 0, 1) := dB_591.2.2.2.1
theorem dX11_row_39 : decode cX11_row 39 = .ok (.getfield 42, 3) := dB_591.2.2.2.2.1
theorem dX11_row_42 : decode cX11_row 42 = .ok (.aload_n 0, 1) := dB_591.2.2.2.2.2.1
theorem dX11_row_43 : decode cX11_row 43 = .ok (.getfield 21, 3) := dB_591.2.2.2.2.2.2.1
theorem dX11_row_46 : decode cX11_row 46 = .ok (.getfield 78, 3) := dB_591.2.2.2.2.2.2.2.1
theorem dX11_row_49 : decode cX11_row 49 = .ok (.getfield 95, 3) := dB_591.2.2.2.2.2.2.2.2.1
theorem dX11_row_52 : decode cX11_row 52 = .ok (.iload_n 3, 1) := dB_591.2.2.2.2.2.2.2.2.2.1
theorem dX11_row_53 : decode cX11_row 53 = .ok (.invokevirtual 202, 3) := dB_591.2.2.2.2.2.2.2.2.2.2.1
theorem dX11_row_56 : decode cX11_row 56 = .ok (.ifCond .eq 6, 3) := dB_591.2.2.2.2.2.2.2.2.2.2.2.1
theorem dX11_row_62 : decode cX11_row 62 = .ok (.iinc 3 1, 3) := dB_591.2.2.2.2.2.2.2.2.2.2.2.2.1
theorem dX11_row_65 : decode cX11_row 65 = .ok (.goto (-32), 3) := dB_591.2.2.2.2.2.2.2.2.2.2.2.2.2.1
theorem dX11_row_59 : decode cX11_row 59 = .ok (.iinc 2 1, 3) := dB_591.2.2.2.2.2.2.2.2.2.2.2.2.2.2.1
theorem dX11_row_68 : decode cX11_row 68 = .ok (.aload_n 0, 1) := dB_591.2.2.2.2.2.2.2.2.2.2.2.2.2.2.2
theorem lk_RX11_202 : Cond.methodLink RX11 202 yX5_tellCell ∈ gW := gW_u tb_3 169 (by rfl) (by decide +kernel)
theorem mI_X5_tellCell : Cond.instanceMethod yX5_tellCell ∈ gW := gW_u tb_3 170 (by rfl) (by decide +kernel)
theorem mS_X5_tellCell : Cond.selects RX5 yX5_tellCell yX5_tellCell ∈ gW := gW_u tb_3 171 (by rfl) (by decide +kernel)
theorem mC_X5_tellCell : Cond.code yX5_tellCell cX5_tellCell 7 (some .boolean) ∈ gW := gW_u tb_3 172 (by rfl) (by decide +kernel)
theorem ok_X5_tellCell : okD yX5_tellCell 2 := ⟨by decide +kernel, by decide +kernel, by decide +kernel⟩
theorem dB_592 : (decode cX11_row 69 = .ok (.iload_n 1, 1)) ∧ (decode cX11_row 70 = .ok (.iload_n 2, 1)) ∧ (decode cX11_row 71 = .ok (.isub, 1)) ∧ (decode cX11_row 72 = .ok (.putfield 206, 3)) ∧ (decode cX11_row 75 = .ok (.aload_n 0, 1)) ∧ (decode cX11_row 76 = .ok (.getfield 42, 3)) ∧ (decode cX11_row 79 = .ok (.iconst 0, 1)) ∧ (decode cX11_row 80 = .ok (.putfield 196, 3)) ∧ (decode cX11_row 83 = .ok (.aload_n 0, 1)) ∧ (decode cX11_row 84 = .ok (.getfield 21, 3)) ∧ (decode cX11_row 87 = .ok (.getfield 107, 3)) ∧ (decode cX11_row 90 = .ok (.invokevirtual 111, 3)) ∧ (decode cX11_row 93 = .ok (.aload_n 0, 1)) ∧ (decode cX11_row 94 = .ok (.iload_n 2, 1)) ∧ (decode cX11_row 95 = .ok (.invokevirtual 91, 3)) ∧ (decode cX11_row 98 = .ok (.ireturn, 1)) := by decide +kernel
theorem dX11_row_69 : decode cX11_row 69 = .ok (.iload_n 1, 1) := dB_592.1
theorem dX11_row_70 : decode cX11_row 70 = .ok (.iload_n 2, 1) := dB_592.2.1
theorem dX11_row_71 : decode cX11_row 71 = .ok (.isub, 1) := dB_592.2.2.1
theorem dX11_row_72 : decode cX11_row 72 = .ok (.putfield 206, 3) := dB_592.2.2.2.1
theorem dX11_row_75 : decode cX11_row 75 = .ok (.aload_n 0, 1) := dB_592.2.2.2.2.1
theorem dX11_row_76 : decode cX11_row 76 = .ok (.getfield 42, 3) := dB_592.2.2.2.2.2.1
theorem dX11_row_79 : decode cX11_row 79 = .ok (.iconst 0, 1) := dB_592.2.2.2.2.2.2.1
theorem dX11_row_80 : decode cX11_row 80 = .ok (.putfield 196, 3) := dB_592.2.2.2.2.2.2.2.1
theorem dX11_row_83 : decode cX11_row 83 = .ok (.aload_n 0, 1) := dB_592.2.2.2.2.2.2.2.2.1
theorem dX11_row_84 : decode cX11_row 84 = .ok (.getfield 21, 3) := dB_592.2.2.2.2.2.2.2.2.2.1
theorem dX11_row_87 : decode cX11_row 87 = .ok (.getfield 107, 3) := dB_592.2.2.2.2.2.2.2.2.2.2.1
theorem dX11_row_90 : decode cX11_row 90 = .ok (.invokevirtual 111, 3) := dB_592.2.2.2.2.2.2.2.2.2.2.2.1
theorem dX11_row_93 : decode cX11_row 93 = .ok (.aload_n 0, 1) := dB_592.2.2.2.2.2.2.2.2.2.2.2.2.1
theorem dX11_row_94 : decode cX11_row 94 = .ok (.iload_n 2, 1) := dB_592.2.2.2.2.2.2.2.2.2.2.2.2.2.1
theorem dX11_row_95 : decode cX11_row 95 = .ok (.invokevirtual 91, 3) := dB_592.2.2.2.2.2.2.2.2.2.2.2.2.2.2.1
theorem dX11_row_98 : decode cX11_row 98 = .ok (.ireturn, 1) := dB_592.2.2.2.2.2.2.2.2.2.2.2.2.2.2.2
theorem fl_RX11_206 : Cond.fieldLink RX11 206 RX11 "latestMud" "I" ∈ gW := gW_u tb_2 216 (by rfl) (by decide +kernel)
theorem dB_593 : (decode cX11_row 10 = .ok (.aload_n 0, 1)) ∧ (decode cX11_row 11 = .ok (.bipush (-6), 2)) ∧ (decode cX11_row 13 = .ok (.invokevirtual 91, 3)) ∧ (decode cX11_row 16 = .ok (.ireturn, 1)) := by decide +kernel
theorem dX11_row_10 : decode cX11_row 10 = .ok (.aload_n 0, 1) := dB_593.1
theorem dX11_row_11 : decode cX11_row 11 = .ok (.bipush (-6), 2) := dB_593.2.1
theorem dX11_row_13 : decode cX11_row 13 = .ok (.invokevirtual 91, 3) := dB_593.2.2.1
theorem dX11_row_16 : decode cX11_row 16 = .ok (.ireturn, 1) := dB_593.2.2.2
def yX11_mud : MethodName := ⟨RX11, "mud", "()I"⟩
abbrev cX11_mud : ByteArray := prog_1_method_13_code
theorem dB_594 : (decode cX11_mud 0 = .ok (.aload_n 0, 1)) ∧ (decode cX11_mud 1 = .ok (.getfield 206, 3)) ∧ (decode cX11_mud 4 = .ok (.ireturn, 1)) := by decide +kernel
theorem dX11_mud_0 : decode cX11_mud 0 = .ok (.aload_n 0, 1) := dB_594.1
theorem dX11_mud_1 : decode cX11_mud 1 = .ok (.getfield 206, 3) := dB_594.2.1
theorem dX11_mud_4 : decode cX11_mud 4 = .ok (.ireturn, 1) := dB_594.2.2
def yX11_fault : MethodName := ⟨RX11, "fault", "()I"⟩
abbrev cX11_fault : ByteArray := prog_1_method_16_code
theorem dB_595 : (decode cX11_fault 0 = .ok (.aload_n 0, 1)) ∧ (decode cX11_fault 1 = .ok (.getfield 42, 3)) ∧ (decode cX11_fault 4 = .ok (.getfield 240, 3)) ∧ (decode cX11_fault 7 = .ok (.ireturn, 1)) := by decide +kernel
theorem dX11_fault_0 : decode cX11_fault 0 = .ok (.aload_n 0, 1) := dB_595.1
theorem dX11_fault_1 : decode cX11_fault 1 = .ok (.getfield 42, 3) := dB_595.2.1
theorem dX11_fault_4 : decode cX11_fault 4 = .ok (.getfield 240, 3) := dB_595.2.2.1
theorem dX11_fault_7 : decode cX11_fault 7 = .ok (.ireturn, 1) := dB_595.2.2.2
theorem fl_RX11_240 : Cond.fieldLink RX11 240 RX5 "faultPlace" "I" ∈ gW := gW_u tb_2 117 (by rfl) (by decide +kernel)
def yX11_stopped : MethodName := ⟨RX11, "stopped", "()I"⟩
abbrev cX11_stopped : ByteArray := prog_1_method_17_code
theorem dB_596 : (decode cX11_stopped 0 = .ok (.aload_n 0, 1)) ∧ (decode cX11_stopped 1 = .ok (.getfield 71, 3)) ∧ (decode cX11_stopped 4 = .ok (.ireturn, 1)) := by decide +kernel
theorem dX11_stopped_0 : decode cX11_stopped 0 = .ok (.aload_n 0, 1) := dB_596.1
theorem dX11_stopped_1 : decode cX11_stopped 1 = .ok (.getfield 71, 3) := dB_596.2.1
theorem dX11_stopped_4 : decode cX11_stopped 4 = .ok (.ireturn, 1) := dB_596.2.2
theorem fl_RX11_71 : Cond.fieldLink RX11 71 RX11 "stoppedAt" "I" ∈ gW := gW_u tb_2 217 (by rfl) (by decide +kernel)
def yX11_force : MethodName := ⟨RX11, "force", "(I)I"⟩
abbrev cX11_force : ByteArray := prog_1_method_18_code
theorem dB_597 : (decode cX11_force 0 = .ok (.aload_n 0, 1)) ∧ (decode cX11_force 1 = .ok (.getfield 21, 3)) ∧ (decode cX11_force 4 = .ok (.getfield 78, 3)) ∧ (decode cX11_force 7 = .ok (.astore_n 2, 1)) ∧ (decode cX11_force 8 = .ok (.aload_n 2, 1)) ∧ (decode cX11_force 9 = .ok (.iload_n 1, 1)) ∧ (decode cX11_force 10 = .ok (.invokevirtual 243, 3)) ∧ (decode cX11_force 13 = .ok (.ifCond .ne 10, 3)) ∧ (decode cX11_force 23 = .ok (.aload_n 2, 1)) ∧ (decode cX11_force 24 = .ok (.getfield 246, 3)) ∧ (decode cX11_force 27 = .ok (.istore_n 3, 1)) ∧ (decode cX11_force 28 = .ok (.aload_n 2, 1)) ∧ (decode cX11_force 29 = .ok (.iload_n 1, 1)) ∧ (decode cX11_force 30 = .ok (.putfield 246, 3)) ∧ (decode cX11_force 33 = .ok (.aload_n 0, 1)) ∧ (decode cX11_force 34 = .ok (.iconst 0, 1)) := by decide +kernel
theorem dX11_force_0 : decode cX11_force 0 = .ok (.aload_n 0, 1) := dB_597.1
theorem dX11_force_1 : decode cX11_force 1 = .ok (.getfield 21, 3) := dB_597.2.1
theorem dX11_force_4 : decode cX11_force 4 = .ok (.getfield 78, 3) := dB_597.2.2.1
theorem dX11_force_7 : decode cX11_force 7 = .ok (.astore_n 2, 1) := dB_597.2.2.2.1
theorem dX11_force_8 : decode cX11_force 8 = .ok (.aload_n 2, 1) := dB_597.2.2.2.2.1
theorem dX11_force_9 : decode cX11_force 9 = .ok (.iload_n 1, 1) := dB_597.2.2.2.2.2.1
theorem dX11_force_10 : decode cX11_force 10 = .ok (.invokevirtual 243, 3) := dB_597.2.2.2.2.2.2.1
theorem dX11_force_13 : decode cX11_force 13 = .ok (.ifCond .ne 10, 3) := dB_597.2.2.2.2.2.2.2.1
theorem dX11_force_23 : decode cX11_force 23 = .ok (.aload_n 2, 1) := dB_597.2.2.2.2.2.2.2.2.1
theorem dX11_force_24 : decode cX11_force 24 = .ok (.getfield 246, 3) := dB_597.2.2.2.2.2.2.2.2.2.1
theorem dX11_force_27 : decode cX11_force 27 = .ok (.istore_n 3, 1) := dB_597.2.2.2.2.2.2.2.2.2.2.1
theorem dX11_force_28 : decode cX11_force 28 = .ok (.aload_n 2, 1) := dB_597.2.2.2.2.2.2.2.2.2.2.2.1
theorem dX11_force_29 : decode cX11_force 29 = .ok (.iload_n 1, 1) := dB_597.2.2.2.2.2.2.2.2.2.2.2.2.1
theorem dX11_force_30 : decode cX11_force 30 = .ok (.putfield 246, 3) := dB_597.2.2.2.2.2.2.2.2.2.2.2.2.2.1
theorem dX11_force_33 : decode cX11_force 33 = .ok (.aload_n 0, 1) := dB_597.2.2.2.2.2.2.2.2.2.2.2.2.2.2.1
theorem dX11_force_34 : decode cX11_force 34 = .ok (.iconst 0, 1) := dB_597.2.2.2.2.2.2.2.2.2.2.2.2.2.2.2
theorem lk_RX11_243 : Cond.methodLink RX11 243 yX10_hasLaw ∈ gW := gW_u tb_4 233 (by rfl) (by decide +kernel)
theorem mI_X10_hasLaw : Cond.instanceMethod yX10_hasLaw ∈ gW := gW_u tb_4 234 (by rfl) (by decide +kernel)
theorem mS_X10_hasLaw : Cond.selects RX10 yX10_hasLaw yX10_hasLaw ∈ gW := gW_u tb_4 235 (by rfl) (by decide +kernel)
theorem mC_X10_hasLaw : Cond.code yX10_hasLaw cX10_hasLaw 2 (some .boolean) ∈ gW := gW_u tb_4 236 (by rfl) (by decide +kernel)
theorem ok_X10_hasLaw : okD yX10_hasLaw 1 := ⟨by decide +kernel, by decide +kernel, by decide +kernel⟩
theorem fl_RX11_246 : Cond.fieldLink RX11 246 RX10 "force" "I" ∈ gW := gW_u tb_1 237 (by rfl) (by decide +kernel)
theorem dB_598 : (decode cX11_force 35 = .ok (.putfield 249, 3)) ∧ (decode cX11_force 38 = .ok (.iload_n 3, 1)) ∧ (decode cX11_force 39 = .ok (.ireturn, 1)) ∧ (decode cX11_force 16 = .ok (.aload_n 0, 1)) ∧ (decode cX11_force 17 = .ok (.bipush (-2), 2)) ∧ (decode cX11_force 19 = .ok (.invokevirtual 91, 3)) ∧ (decode cX11_force 22 = .ok (.ireturn, 1)) := by decide +kernel
theorem dX11_force_35 : decode cX11_force 35 = .ok (.putfield 249, 3) := dB_598.1
theorem dX11_force_38 : decode cX11_force 38 = .ok (.iload_n 3, 1) := dB_598.2.1
theorem dX11_force_39 : decode cX11_force 39 = .ok (.ireturn, 1) := dB_598.2.2.1
theorem dX11_force_16 : decode cX11_force 16 = .ok (.aload_n 0, 1) := dB_598.2.2.2.1
theorem dX11_force_17 : decode cX11_force 17 = .ok (.bipush (-2), 2) := dB_598.2.2.2.2.1
theorem dX11_force_19 : decode cX11_force 19 = .ok (.invokevirtual 91, 3) := dB_598.2.2.2.2.2.1
theorem dX11_force_22 : decode cX11_force 22 = .ok (.ireturn, 1) := dB_598.2.2.2.2.2.2
def yX11_din : MethodName := ⟨RX11, "din", "(I)I"⟩
abbrev cX11_din : ByteArray := prog_1_method_21_code
theorem dB_599 : (decode cX11_din 0 = .ok (.iload_n 1, 1)) ∧ (decode cX11_din 1 = .ok (.bipush 8, 2)) ∧ (decode cX11_din 3 = .ok (.invokestatic 82, 3)) ∧ (decode cX11_din 6 = .ok (.ifCond .eq 21, 3)) ∧ (decode cX11_din 27 = .ok (.iconst (-1), 1)) ∧ (decode cX11_din 28 = .ok (.ireturn, 1)) ∧ (decode cX11_din 9 = .ok (.aload_n 0, 1)) ∧ (decode cX11_din 10 = .ok (.getfield 21, 3)) ∧ (decode cX11_din 13 = .ok (.getfield 78, 3)) ∧ (decode cX11_din 16 = .ok (.getfield 156, 3)) ∧ (decode cX11_din 19 = .ok (.iload_n 1, 1)) ∧ (decode cX11_din 20 = .ok (.iconst 0, 1)) ∧ (decode cX11_din 21 = .ok (.invokevirtual 265, 3)) ∧ (decode cX11_din 24 = .ok (.goto 4, 3)) := by decide +kernel
theorem dX11_din_0 : decode cX11_din 0 = .ok (.iload_n 1, 1) := dB_599.1
theorem dX11_din_1 : decode cX11_din 1 = .ok (.bipush 8, 2) := dB_599.2.1
theorem dX11_din_3 : decode cX11_din 3 = .ok (.invokestatic 82, 3) := dB_599.2.2.1
theorem dX11_din_6 : decode cX11_din 6 = .ok (.ifCond .eq 21, 3) := dB_599.2.2.2.1
theorem dX11_din_27 : decode cX11_din 27 = .ok (.iconst (-1), 1) := dB_599.2.2.2.2.1
theorem dX11_din_28 : decode cX11_din 28 = .ok (.ireturn, 1) := dB_599.2.2.2.2.2.1
theorem dX11_din_9 : decode cX11_din 9 = .ok (.aload_n 0, 1) := dB_599.2.2.2.2.2.2.1
theorem dX11_din_10 : decode cX11_din 10 = .ok (.getfield 21, 3) := dB_599.2.2.2.2.2.2.2.1
theorem dX11_din_13 : decode cX11_din 13 = .ok (.getfield 78, 3) := dB_599.2.2.2.2.2.2.2.2.1
theorem dX11_din_16 : decode cX11_din 16 = .ok (.getfield 156, 3) := dB_599.2.2.2.2.2.2.2.2.2.1
theorem dX11_din_19 : decode cX11_din 19 = .ok (.iload_n 1, 1) := dB_599.2.2.2.2.2.2.2.2.2.2.1
theorem dX11_din_20 : decode cX11_din 20 = .ok (.iconst 0, 1) := dB_599.2.2.2.2.2.2.2.2.2.2.2.1
theorem dX11_din_21 : decode cX11_din 21 = .ok (.invokevirtual 265, 3) := dB_599.2.2.2.2.2.2.2.2.2.2.2.2.1
theorem dX11_din_24 : decode cX11_din 24 = .ok (.goto 4, 3) := dB_599.2.2.2.2.2.2.2.2.2.2.2.2.2
theorem lk_RX11_265 : Cond.methodLink RX11 265 yX4_noiseIn ∈ gW := gW_u tb_5 17 (by rfl) (by decide +kernel)
def yX11_hush : MethodName := ⟨RX11, "hush", "(I)I"⟩
abbrev cX11_hush : ByteArray := prog_1_method_25_code
theorem dB_600 : (decode cX11_hush 0 = .ok (.aload_n 0, 1)) ∧ (decode cX11_hush 1 = .ok (.aload_n 0, 1)) ∧ (decode cX11_hush 2 = .ok (.getfield 21, 3)) ∧ (decode cX11_hush 5 = .ok (.iload_n 1, 1)) ∧ (decode cX11_hush 6 = .ok (.invokevirtual 283, 3)) ∧ (decode cX11_hush 9 = .ok (.invokevirtual 91, 3)) ∧ (decode cX11_hush 12 = .ok (.ireturn, 1)) := by decide +kernel
theorem dX11_hush_0 : decode cX11_hush 0 = .ok (.aload_n 0, 1) := dB_600.1
theorem dX11_hush_1 : decode cX11_hush 1 = .ok (.aload_n 0, 1) := dB_600.2.1
theorem dX11_hush_2 : decode cX11_hush 2 = .ok (.getfield 21, 3) := dB_600.2.2.1
theorem dX11_hush_5 : decode cX11_hush 5 = .ok (.iload_n 1, 1) := dB_600.2.2.2.1
theorem dX11_hush_6 : decode cX11_hush 6 = .ok (.invokevirtual 283, 3) := dB_600.2.2.2.2.1
theorem dX11_hush_9 : decode cX11_hush 9 = .ok (.invokevirtual 91, 3) := dB_600.2.2.2.2.2.1
theorem dX11_hush_12 : decode cX11_hush 12 = .ok (.ireturn, 1) := dB_600.2.2.2.2.2.2
theorem lk_RX11_283 : Cond.methodLink RX11 283 yX7_tryHush ∈ gW := gW_u tb_5 58 (by rfl) (by decide +kernel)
theorem mI_X7_tryHush : Cond.instanceMethod yX7_tryHush ∈ gW := gW_u tb_4 163 (by rfl) (by decide +kernel)
theorem mS_X7_tryHush : Cond.selects RX7 yX7_tryHush yX7_tryHush ∈ gW := gW_u tb_4 164 (by rfl) (by decide +kernel)
theorem mN_RX7 : Cond.initialized RX7 ∈ gW := gW_u tb_1 3 (by rfl) (by decide +kernel)
theorem mC_X7_tryHush : Cond.code yX7_tryHush cX7_tryHush 3 (some .int) ∈ gW := gW_u tb_4 165 (by rfl) (by decide +kernel)
theorem ok_X7_tryHush : okD yX7_tryHush 1 := ⟨by decide +kernel, by decide +kernel, by decide +kernel⟩
end
