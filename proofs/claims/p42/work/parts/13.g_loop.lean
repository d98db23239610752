def lr_X1_countIn_5 (a : Int64) (h0_count : Int32) (h0cf : Nat → Int32) : Nat → (Int32 × Int32) → Int32 × Int32
  | 0, q => q
  | n + 1, (x_5_4, x_5_3) => (if h0_count ≤ x_5_4 then (x_5_4, x_5_3) else (if (lg_cmp ((a >>> ((h0cf x_5_4.toNatClampNeg).toInt64 &&& 63)) &&& 1) 0) = 0 then lr_X1_countIn_5 a h0_count h0cf n ((x_5_4 + 1), x_5_3) else lr_X1_countIn_5 a h0_count h0cf n ((x_5_4 + 1), (x_5_3 + 1))))
def lo_X1_countIn_5 (a : Int64) (h0_count : Int32) (h0cf : Nat → Int32) : Nat → (Int32 × Int32) → Prop
  | 0, _ => False
  | n + 1, (x_5_4, x_5_3) => (if h0_count ≤ x_5_4 then True else (vp_in x_5_4 6 ∧ (if (lg_cmp ((a >>> ((h0cf x_5_4.toNatClampNeg).toInt64 &&& 63)) &&& 1) 0) = 0 then lo_X1_countIn_5 a h0_count h0cf n ((x_5_4 + 1), x_5_3) else lo_X1_countIn_5 a h0_count h0cf n ((x_5_4 + 1), (x_5_3 + 1)))))
set_option maxHeartbeats 1000000 in
set_option maxRecDepth 100000 in
theorem lg_X1_countIn_5 (l : Launch) (G : va_G) (cs : Nat → ClassId) (h0 : Nat) (a : Int64) (h0c : Nat) (h0b : Nat) (h0_count : Int32) (h0cf : Nat → Int32) {p : Program} {e : Env} {s : State} {m : MethodId} {args : Array Value} {below : List Frame} {meth : Method} {c : Code} {Q : State → Prop} (hx : p.tables.exec = Jvm.exec) (hb : c.code = cX1_countIn) (hml : c.maxLocals = 5) (hown : s.vm.findClass RX1 = some m.cls) (htl : ∀ w ∈ gW, w.before args s = true) (hN : NW s) (hK : va_K G vwCl (tyL cs) s) (hP : va_P G vwCl [(h0, .inr (1, [.ref h0c, .ref h0b, .int h0_count])), (h0c, .inl (cs 0, 6, .inl h0cf))] s.heap) (y_5_4 : Int32) (y_5_3 : Int32) (K : ∀ (ls : Array Slot), lv_has ls 5 [(4, .int y_5_4), (3, .int y_5_3), (0, .ref h0), (1, .long a)] → W p l e (headSpec (Cond.code yX1_countIn cX1_countIn 5 (some .int) :: gW) ({ frames := 0, cells := 0, slots := 0, locals := 0 })).room s m args below meth c s.heap [] 0 0 Q (F0 m 39 ls [])) : ∀ (n : Nat) (x_5_4 : Int32) (x_5_3 : Int32), lo_X1_countIn_5 a h0_count h0cf n (x_5_4, x_5_3) → lr_X1_countIn_5 a h0_count h0cf n (x_5_4, x_5_3) = (y_5_4, y_5_3) → ∀ (ls : Array Slot), lv_has ls 5 [(4, .int x_5_4), (3, .int x_5_3), (0, .ref h0), (1, .long a)] → W p l e (headSpec (Cond.code yX1_countIn cX1_countIn 5 (some .int) :: gW) ({ frames := 0, cells := 0, slots := 0, locals := 0 })).room s m args below meth c s.heap [] 0 0 Q (F0 m 5 ls []) := by
  intro n
  induction n with
  | zero =>
    intro x_5_4 x_5_3 hok
    exact hok.elim
  | succ n ih =>
    intro x_5_4 x_5_3 hok hsp ls hl
    unfold lo_X1_countIn_5 at hok
    unfold lr_X1_countIn_5 at hsp
    refine lv_iload hx hb dX1_countIn_5 (lv_at hl 0 rfl) ?_
    refine lv_aload_n hx hb dX1_countIn_7 rfl (lv_at hl 2 rfl) ?_
    refine va_get (ci := 1) (v := .int h0_count) (C := RX1) (T := TX1) (N := 3) hx hb htl inX1 hown hK hP 0 rfl rfl 2 (by decide) (htl _ fl_RX1_18) (fun _ h9 => h9) rfl dX1_countIn_8 ?_
    refine lv_icmp_ge (tgt := 39) hx hb dX1_countIn_11 (by decide) (fun c_11 => ?_) (fun c_11 => ?_)
    · try replace hok := ok_t hok c_11
      try replace hsp := sr_t hsp c_11
      cases hsp
      exact K ls (lv_sub hl [0, 1, 2, 3] rfl)
    · try replace hok := ok_f hok c_11
      try replace hsp := sr_f hsp c_11
      refine lv_lload_n hx hb dX1_countIn_14 rfl (lv_at hl 3 rfl) ?_
      refine lv_aload_n hx hb dX1_countIn_15 rfl (lv_at hl 2 rfl) ?_
      refine va_get (ci := 1) (v := .ref h0c) (C := RX1) (T := TX1) (N := 3) hx hb htl inX1 hown hK hP 0 rfl rfl 0 (by decide) (htl _ fl_RX1_9) (fun _ h9 => h9) rfl dX1_countIn_16 ?_
      refine lv_iload hx hb dX1_countIn_19 (lv_at hl 0 rfl) ?_
      obtain ⟨hq_2001, hok⟩ := hok
      refine va_iald hx hb hK hP 1 0 rfl rfl hq_2001 dX1_countIn_21 ?_
      refine lv_lshr (v := (a >>> ((h0cf x_5_4.toNatClampNeg).toInt64 &&& 63))) hx hb dX1_countIn_22 (by first | rfl | decide) ?_
      refine lv_lconst (v := 1) hx hb dX1_countIn_23 (by decide) ?_
      refine lv_land hx hb dX1_countIn_24 ?_
      refine lv_lconst (v := 0) hx hb dX1_countIn_25 (by decide) ?_
      refine W.lcmp hx hb dX1_countIn_26 ?_
      refine lv_if_eq (tgt := 33) hx hb dX1_countIn_27 (by decide) (fun c_27 => ?_) (fun c_27 => ?_)
      · try replace hok := ok_t hok c_27
        try replace hsp := sr_t hsp c_27
        refine lv_iinc (v := (x_5_4 + 1)) (lv' := [(4, .int (x_5_4 + 1)), (3, .int x_5_3), (0, .ref h0), (1, .long a)]) hx hb dX1_countIn_33 hl (k := 0) rfl (by first | rfl | decide) (by decide) rfl (fun ls hl => ?_)
        refine lv_goto (tgt := 5) hx hb dX1_countIn_36 (by decide) ?_
        exact ih (x_5_4 + 1) x_5_3 hok hsp ls (lv_sub hl [0, 1, 2, 3] rfl)
      · try replace hok := ok_f hok c_27
        try replace hsp := sr_f hsp c_27
        refine lv_iinc (v := (x_5_3 + 1)) (lv' := [(3, .int (x_5_3 + 1)), (4, .int x_5_4), (0, .ref h0), (1, .long a)]) hx hb dX1_countIn_30 hl (k := 1) rfl (by first | rfl | decide) (by decide) rfl (fun ls hl => ?_)
        refine lv_iinc (v := (x_5_4 + 1)) (lv' := [(4, .int (x_5_4 + 1)), (3, .int (x_5_3 + 1)), (0, .ref h0), (1, .long a)]) hx hb dX1_countIn_33 hl (k := 1) rfl (by first | rfl | decide) (by decide) rfl (fun ls hl => ?_)
        refine lv_goto (tgt := 5) hx hb dX1_countIn_36 (by decide) ?_
        exact ih (x_5_4 + 1) (x_5_3 + 1) hok hsp ls (lv_sub hl [0, 1, 2, 3] rfl)

def gs_X1_countIn (a : Int64) (h0_count : Int32) (h0cf : Nat → Int32) : Int32 := ((fun (q_y_5_4 : Int32 × Int32) => q_y_5_4.2) (lr_X1_countIn_5 a h0_count h0cf 8 (0, 0)))
def go_X1_countIn (a : Int64) (h0_count : Int32) (h0cf : Nat → Int32) : Prop := ((lo_X1_countIn_5 a h0_count h0cf 8 (0, 0)) ∧ ((fun (q_y_5_4 : Int32 × Int32) => True) (lr_X1_countIn_5 a h0_count h0cf 8 (0, 0))))
set_option maxHeartbeats 1000000 in
set_option maxRecDepth 100000 in
theorem g_X1_countIn (l : Launch) (G : va_G) (cs : Nat → ClassId) (h0 : Nat) (a : Int64) (h0c : Nat) (h0b : Nat) (h0_count : Int32) (h0cf : Nat → Int32) (hok : go_X1_countIn a h0_count h0cf) : Met l yX1_countIn (Cond.code yX1_countIn cX1_countIn 5 (some .int) :: gW) ({ frames := 0, cells := 0, slots := 0, locals := 0 }) (va_Pc [.ref h0, .long a] (PrS G cs [(h0, .inr (1, [.ref h0c, .ref h0b, .int h0_count])), (h0c, .inl (cs 0, 6, .inl h0cf))])) (vp_Si (fun r => r = gs_X1_countIn a h0_count h0cf)) 0 0 (fun _ => False) := by
  have hsp := Eq.refl (gs_X1_countIn a h0_count h0cf)
  conv at hsp => rhs; unfold gs_X1_countIn
  unfold go_X1_countIn at hok
  refine Met.ofW (cc := cX1_countIn) (maxL := 5) (ret := (some .int)) (by decide) rfl ?_
  intro p e s m args below meth c s₁ B hml hv
  obtain ⟨rfl, hP, hK, hN⟩ := hv
  have hx := B.exec
  have hb := B.bytes
  have hr := B.returns
  have hts := atoms_spec (ws := Cond.code yX1_countIn cX1_countIn 5 (some .int) :: gW) B.pre
  have htl : ∀ w ∈ gW, w.before _ s = true := fun w h => hts w (List.mem_cons_of_mem _ h)
  have hown : s.vm.findClass RX1 = some m.cls := findClass_of_methodNamed B.named
  have hlocks := B.notSynchronized
  have hl := lv_entry ([.ref h0, .long a]) (n := 5) (Nat.le_of_ble_eq_true rfl)
  rw [lg_entry_eq]
  generalize (lg_sl ([.ref h0, .long a]) ++ List.replicate (5 - (lg_sl ([.ref h0, .long a])).length) Slot.unset).toArray = ls at hl ⊢
  have hl : lv_has ls 5 [(0, .ref h0), (1, .long a)] := hl
  refine lv_iconst (v := 0) hx hb dX1_countIn_0 (by decide) ?_
  refine lv_istore_n (lv' := [(3, .int 0), (0, .ref h0), (1, .long a)]) hx hb dX1_countIn_1 rfl hl (by decide) rfl (fun ls hl => ?_)
  refine lv_iconst (v := 0) hx hb dX1_countIn_2 (by decide) ?_
  refine lv_istore (lv' := [(4, .int 0), (3, .int 0), (0, .ref h0), (1, .long a)]) hx hb dX1_countIn_3 hl (by decide) rfl (fun ls hl => ?_)
  obtain ⟨hq_1, hok⟩ := hok
  obtain ⟨y_5_4, y_5_3, hy⟩ : ∃ (y_5_4 : Int32) (y_5_3 : Int32), lr_X1_countIn_5 a h0_count h0cf 8 (0, 0) = (y_5_4, y_5_3) := ⟨_, _, rfl⟩
  replace hok := ok_l hok hy.symm
  replace hsp := sp_l hsp hy.symm
  refine lg_X1_countIn_5 l G cs h0 a h0c h0b h0_count h0cf hx hb hml hown htl hN hK hP y_5_4 y_5_3 (fun ls hl => ?_) 8 0 0 hq_1 hy _ (lv_sub hl [0, 1, 2, 3] rfl)
  refine lv_iload_n hx hb dX1_countIn_39 rfl (lv_at hl 1 rfl) ?_
  exact W.iret (v := y_5_3) hx hb hr (fun t ht hW => ⟨y_5_3, rfl, hsp.symm, ht⟩) (fun q h => by cases h) dX1_countIn_40

def lr_X1_allBuckets_4 (h0_count : Int32) (h0bf : Nat → Int32) : Nat → (Int32 × Int32) → Int32 × Int32
  | 0, q => q
  | n + 1, (x_4_2, x_4_1) => (if h0_count ≤ x_4_2 then (x_4_2, x_4_1) else lr_X1_allBuckets_4 h0_count h0bf n ((x_4_2 + 1), (x_4_1 + (h0bf x_4_2.toNatClampNeg))))
def lo_X1_allBuckets_4 (h0_count : Int32) (h0bf : Nat → Int32) : Nat → (Int32 × Int32) → Prop
  | 0, _ => False
  | n + 1, (x_4_2, x_4_1) => (if h0_count ≤ x_4_2 then True else (vp_in x_4_2 6 ∧ lo_X1_allBuckets_4 h0_count h0bf n ((x_4_2 + 1), (x_4_1 + (h0bf x_4_2.toNatClampNeg)))))
set_option maxHeartbeats 1000000 in
set_option maxRecDepth 100000 in
theorem lg_X1_allBuckets_4 (l : Launch) (G : va_G) (cs : Nat → ClassId) (h0 : Nat) (h0c : Nat) (h0b : Nat) (h0_count : Int32) (h0bf : Nat → Int32) {p : Program} {e : Env} {s : State} {m : MethodId} {args : Array Value} {below : List Frame} {meth : Method} {c : Code} {Q : State → Prop} (hx : p.tables.exec = Jvm.exec) (hb : c.code = cX1_allBuckets) (hml : c.maxLocals = 3) (hown : s.vm.findClass RX1 = some m.cls) (htl : ∀ w ∈ gW, w.before args s = true) (hN : NW s) (hK : va_K G vwCl (tyL cs) s) (hP : va_P G vwCl [(h0, .inr (1, [.ref h0c, .ref h0b, .int h0_count])), (h0b, .inl (cs 0, 6, .inl h0bf))] s.heap) (y_4_2 : Int32) (y_4_1 : Int32) (K : ∀ (ls : Array Slot), lv_has ls 3 [(2, .int y_4_2), (1, .int y_4_1), (0, .ref h0)] → W p l e (headSpec (Cond.code yX1_allBuckets cX1_allBuckets 3 (some .int) :: gW) ({ frames := 0, cells := 0, slots := 0, locals := 0 })).room s m args below meth c s.heap [] 0 0 Q (F0 m 27 ls [])) : ∀ (n : Nat) (x_4_2 : Int32) (x_4_1 : Int32), lo_X1_allBuckets_4 h0_count h0bf n (x_4_2, x_4_1) → lr_X1_allBuckets_4 h0_count h0bf n (x_4_2, x_4_1) = (y_4_2, y_4_1) → ∀ (ls : Array Slot), lv_has ls 3 [(2, .int x_4_2), (1, .int x_4_1), (0, .ref h0)] → W p l e (headSpec (Cond.code yX1_allBuckets cX1_allBuckets 3 (some .int) :: gW) ({ frames := 0, cells := 0, slots := 0, locals := 0 })).room s m args below meth c s.heap [] 0 0 Q (F0 m 4 ls []) := by
  intro n
  induction n with
  | zero =>
    intro x_4_2 x_4_1 hok
    exact hok.elim
  | succ n ih =>
    intro x_4_2 x_4_1 hok hsp ls hl
    unfold lo_X1_allBuckets_4 at hok
    unfold lr_X1_allBuckets_4 at hsp
    refine lv_iload_n hx hb dX1_allBuckets_4 rfl (lv_at hl 0 rfl) ?_
    refine lv_aload_n hx hb dX1_allBuckets_5 rfl (lv_at hl 2 rfl) ?_
    refine va_get (ci := 1) (v := .int h0_count) (C := RX1) (T := TX1) (N := 3) hx hb htl inX1 hown hK hP 0 rfl rfl 2 (by decide) (htl _ fl_RX1_18) (fun _ h9 => h9) rfl dX1_allBuckets_6 ?_
    refine lv_icmp_ge (tgt := 27) hx hb dX1_allBuckets_9 (by decide) (fun c_9 => ?_) (fun c_9 => ?_)
    · try replace hok := ok_t hok c_9
      try replace hsp := sr_t hsp c_9
      cases hsp
      exact K ls (lv_sub hl [0, 1, 2] rfl)
    · try replace hok := ok_f hok c_9
      try replace hsp := sr_f hsp c_9
      refine lv_iload_n hx hb dX1_allBuckets_12 rfl (lv_at hl 1 rfl) ?_
      refine lv_aload_n hx hb dX1_allBuckets_13 rfl (lv_at hl 2 rfl) ?_
      refine va_get (ci := 1) (v := .ref h0b) (C := RX1) (T := TX1) (N := 3) hx hb htl inX1 hown hK hP 0 rfl rfl 1 (by decide) (htl _ fl_RX1_15) (fun _ h9 => h9) rfl dX1_allBuckets_14 ?_
      refine lv_iload_n hx hb dX1_allBuckets_17 rfl (lv_at hl 0 rfl) ?_
      obtain ⟨hq_2001, hok⟩ := hok
      refine va_iald hx hb hK hP 1 0 rfl rfl hq_2001 dX1_allBuckets_18 ?_
      refine lv_iadd hx hb dX1_allBuckets_19 ?_
      refine lv_istore_n (lv' := [(1, .int (x_4_1 + (h0bf x_4_2.toNatClampNeg))), (2, .int x_4_2), (0, .ref h0)]) hx hb dX1_allBuckets_20 rfl hl (by decide) rfl (fun ls hl => ?_)
      refine lv_iinc (v := (x_4_2 + 1)) (lv' := [(2, .int (x_4_2 + 1)), (1, .int (x_4_1 + (h0bf x_4_2.toNatClampNeg))), (0, .ref h0)]) hx hb dX1_allBuckets_21 hl (k := 1) rfl (by first | rfl | decide) (by decide) rfl (fun ls hl => ?_)
      refine lv_goto (tgt := 4) hx hb dX1_allBuckets_24 (by decide) ?_
      exact ih (x_4_2 + 1) (x_4_1 + (h0bf x_4_2.toNatClampNeg)) hok hsp ls (lv_sub hl [0, 1, 2] rfl)

def gs_X1_allBuckets (h0_count : Int32) (h0bf : Nat → Int32) : Int32 := ((fun (q_y_4_2 : Int32 × Int32) => q_y_4_2.2) (lr_X1_allBuckets_4 h0_count h0bf 8 (0, 0)))
def go_X1_allBuckets (h0_count : Int32) (h0bf : Nat → Int32) : Prop := ((lo_X1_allBuckets_4 h0_count h0bf 8 (0, 0)) ∧ ((fun (q_y_4_2 : Int32 × Int32) => True) (lr_X1_allBuckets_4 h0_count h0bf 8 (0, 0))))
set_option maxHeartbeats 1000000 in
set_option maxRecDepth 100000 in
theorem g_X1_allBuckets (l : Launch) (G : va_G) (cs : Nat → ClassId) (h0 : Nat) (h0c : Nat) (h0b : Nat) (h0_count : Int32) (h0bf : Nat → Int32) (hok : go_X1_allBuckets h0_count h0bf) : Met l yX1_allBuckets (Cond.code yX1_allBuckets cX1_allBuckets 3 (some .int) :: gW) ({ frames := 0, cells := 0, slots := 0, locals := 0 }) (va_Pc [.ref h0] (PrS G cs [(h0, .inr (1, [.ref h0c, .ref h0b, .int h0_count])), (h0b, .inl (cs 0, 6, .inl h0bf))])) (vp_Si (fun r => r = gs_X1_allBuckets h0_count h0bf)) 0 0 (fun _ => False) := by
  have hsp := Eq.refl (gs_X1_allBuckets h0_count h0bf)
  conv at hsp => rhs; unfold gs_X1_allBuckets
  unfold go_X1_allBuckets at hok
  refine Met.ofW (cc := cX1_allBuckets) (maxL := 3) (ret := (some .int)) (by decide) rfl ?_
  intro p e s m args below meth c s₁ B hml hv
  obtain ⟨rfl, hP, hK, hN⟩ := hv
  have hx := B.exec
  have hb := B.bytes
  have hr := B.returns
  have hts := atoms_spec (ws := Cond.code yX1_allBuckets cX1_allBuckets 3 (some .int) :: gW) B.pre
  have htl : ∀ w ∈ gW, w.before _ s = true := fun w h => hts w (List.mem_cons_of_mem _ h)
  have hown : s.vm.findClass RX1 = some m.cls := findClass_of_methodNamed B.named
  have hlocks := B.notSynchronized
  have hl := lv_entry ([.ref h0]) (n := 3) (Nat.le_of_ble_eq_true rfl)
  rw [lg_entry_eq]
  generalize (lg_sl ([.ref h0]) ++ List.replicate (3 - (lg_sl ([.ref h0])).length) Slot.unset).toArray = ls at hl ⊢
  have hl : lv_has ls 3 [(0, .ref h0)] := hl
  refine lv_iconst (v := 0) hx hb dX1_allBuckets_0 (by decide) ?_
  refine lv_istore_n (lv' := [(1, .int 0), (0, .ref h0)]) hx hb dX1_allBuckets_1 rfl hl (by decide) rfl (fun ls hl => ?_)
  refine lv_iconst (v := 0) hx hb dX1_allBuckets_2 (by decide) ?_
  refine lv_istore_n (lv' := [(2, .int 0), (1, .int 0), (0, .ref h0)]) hx hb dX1_allBuckets_3 rfl hl (by decide) rfl (fun ls hl => ?_)
  obtain ⟨hq_1, hok⟩ := hok
  obtain ⟨y_4_2, y_4_1, hy⟩ : ∃ (y_4_2 : Int32) (y_4_1 : Int32), lr_X1_allBuckets_4 h0_count h0bf 8 (0, 0) = (y_4_2, y_4_1) := ⟨_, _, rfl⟩
  replace hok := ok_l hok hy.symm
  replace hsp := sp_l hsp hy.symm
  refine lg_X1_allBuckets_4 l G cs h0 h0c h0b h0_count h0bf hx hb hml hown htl hN hK hP y_4_2 y_4_1 (fun ls hl => ?_) 8 0 0 hq_1 hy _ (lv_sub hl [0, 1, 2] rfl)
  refine lv_iload_n hx hb dX1_allBuckets_27 rfl (lv_at hl 1 rfl) ?_
  exact W.iret (v := y_4_1) hx hb hr (fun t ht hW => ⟨y_4_1, rfl, hsp.symm, ht⟩) (fun q h => by cases h) dX1_allBuckets_28

def lr_X4_noiseIn_13 (a : Int32) (b : Int32) (h0_noises : Int32) (h0_hushed : Int32) (h0noisnf : Nat → Int32) (h0noisdf : Nat → Int32) : Nat → (Int32 × Int32) → Int32 × Int32
  | 0, q => q
  | n + 1, (x_13_5, x_13_4) => (if h0_noises ≤ x_13_5 then (x_13_5, x_13_4) else (if (((h0_hushed ||| b) >>> (x_13_5 &&& 31)) &&& 1) = 0 then lr_X4_noiseIn_13 a b h0_noises h0_hushed h0noisnf h0noisdf n ((x_13_5 + 1), (x_13_4 + (if 0 < ((h0noisdf x_13_5.toNatClampNeg) - (if 0 ≤ ((h0noisnf x_13_5.toNatClampNeg) - a) then ((h0noisnf x_13_5.toNatClampNeg) - a) else 0 - ((h0noisnf x_13_5.toNatClampNeg) - a))) then ((h0noisdf x_13_5.toNatClampNeg) - (if 0 ≤ ((h0noisnf x_13_5.toNatClampNeg) - a) then ((h0noisnf x_13_5.toNatClampNeg) - a) else 0 - ((h0noisnf x_13_5.toNatClampNeg) - a))) else 0))) else lr_X4_noiseIn_13 a b h0_noises h0_hushed h0noisnf h0noisdf n ((x_13_5 + 1), x_13_4)))
def lo_X4_noiseIn_13 (a : Int32) (b : Int32) (h0_noises : Int32) (h0_hushed : Int32) (h0noisnf : Nat → Int32) (h0noisdf : Nat → Int32) : Nat → (Int32 × Int32) → Prop
  | 0, _ => False
  | n + 1, (x_13_5, x_13_4) => (if h0_noises ≤ x_13_5 then True else (if (((h0_hushed ||| b) >>> (x_13_5 &&& 31)) &&& 1) = 0 then (vp_in x_13_5 6 ∧ (vp_in x_13_5 6 ∧ lo_X4_noiseIn_13 a b h0_noises h0_hushed h0noisnf h0noisdf n ((x_13_5 + 1), (x_13_4 + (if 0 < ((h0noisdf x_13_5.toNatClampNeg) - (if 0 ≤ ((h0noisnf x_13_5.toNatClampNeg) - a) then ((h0noisnf x_13_5.toNatClampNeg) - a) else 0 - ((h0noisnf x_13_5.toNatClampNeg) - a))) then ((h0noisdf x_13_5.toNatClampNeg) - (if 0 ≤ ((h0noisnf x_13_5.toNatClampNeg) - a) then ((h0noisnf x_13_5.toNatClampNeg) - a) else 0 - ((h0noisnf x_13_5.toNatClampNeg) - a))) else 0))))) else lo_X4_noiseIn_13 a b h0_noises h0_hushed h0noisnf h0noisdf n ((x_13_5 + 1), x_13_4)))
set_option maxHeartbeats 1000000 in
set_option maxRecDepth 100000 in
theorem lg_X4_noiseIn_13 (l : Launch) (G : va_G) (cs : Nat → ClassId) (h0 : Nat) (a : Int32) (b : Int32) (h0_column : Value) (h0_ear : Value) (h0_listeners : Int32) (h0noisn : Nat) (h0noisd : Nat) (h0_noises : Int32) (h0_hushed : Int32) (h0_hearsayColumn : Value) (h0_hearsayLoud : Value) (h0_hearsay : Int32) (h0_sounds : Value) (h0_wet : Value) (h0_wells : Int32) (h0noisnf : Nat → Int32) (h0noisdf : Nat → Int32) {p : Program} {e : Env} {s : State} {m : MethodId} {args : Array Value} {below : List Frame} {meth : Method} {c : Code} {Q : State → Prop} (hx : p.tables.exec = Jvm.exec) (hb : c.code = cX4_noiseIn) (hml : c.maxLocals = 6) (hown : s.vm.findClass RX4 = some m.cls) (htl : ∀ w ∈ gW, w.before args s = true) (hN : NW s) (hK : va_K G vwCl (tyL cs) s) (hP : va_P G vwCl [(h0, .inr (4, [h0_column, h0_ear, .int h0_listeners, .ref h0noisn, .ref h0noisd, .int h0_noises, .int h0_hushed, h0_hearsayColumn, h0_hearsayLoud, .int h0_hearsay, h0_sounds, h0_wet, .int h0_wells])), (h0noisn, .inl (cs 0, 6, .inl h0noisnf)), (h0noisd, .inl (cs 0, 6, .inl h0noisdf))] s.heap) (y_13_5 : Int32) (y_13_4 : Int32) (K : ∀ (ls : Array Slot), lv_has ls 6 [(5, .int y_13_5), (4, .int y_13_4), (3, .int (h0_hushed ||| b)), (0, .ref h0), (1, .int a), (2, .int b)] → W p l e (headSpec (Cond.code yX4_noiseIn cX4_noiseIn 6 (some .int) :: gW) ({ frames := 1, cells := 0, slots := 0, locals := 24 })).room s m args below meth c s.heap [] 0 0 Q (F0 m 66 ls [])) : ∀ (n : Nat) (x_13_5 : Int32) (x_13_4 : Int32), lo_X4_noiseIn_13 a b h0_noises h0_hushed h0noisnf h0noisdf n (x_13_5, x_13_4) → lr_X4_noiseIn_13 a b h0_noises h0_hushed h0noisnf h0noisdf n (x_13_5, x_13_4) = (y_13_5, y_13_4) → ∀ (ls : Array Slot), lv_has ls 6 [(5, .int x_13_5), (4, .int x_13_4), (3, .int (h0_hushed ||| b)), (0, .ref h0), (1, .int a), (2, .int b)] → W p l e (headSpec (Cond.code yX4_noiseIn cX4_noiseIn 6 (some .int) :: gW) ({ frames := 1, cells := 0, slots := 0, locals := 24 })).room s m args below meth c s.heap [] 0 0 Q (F0 m 13 ls []) := by
  intro n
  induction n with
  | zero =>
    intro x_13_5 x_13_4 hok
    exact hok.elim
  | succ n ih =>
    intro x_13_5 x_13_4 hok hsp ls hl
    unfold lo_X4_noiseIn_13 at hok
    unfold lr_X4_noiseIn_13 at hsp
    refine lv_iload hx hb dX4_noiseIn_13 (lv_at hl 0 rfl) ?_
    refine lv_aload_n hx hb dX4_noiseIn_15 rfl (lv_at hl 3 rfl) ?_
    refine va_get (ci := 4) (v := .int h0_noises) (C := RX4) (T := TX4) (N := 13) hx hb htl inX4 hown hK hP 0 rfl rfl 5 (by decide) (htl _ fl_RX4_40) (fun _ h9 => h9) rfl dX4_noiseIn_16 ?_
    refine lv_icmp_ge (tgt := 66) hx hb dX4_noiseIn_19 (by decide) (fun c_19 => ?_) (fun c_19 => ?_)
    · try replace hok := ok_t hok c_19
      try replace hsp := sr_t hsp c_19
      cases hsp
      exact K ls (lv_sub hl [0, 1, 2, 3, 4, 5] rfl)
    · try replace hok := ok_f hok c_19
      try replace hsp := sr_f hsp c_19
      refine lv_iload_n hx hb dX4_noiseIn_22 rfl (lv_at hl 2 rfl) ?_
      refine lv_iload hx hb dX4_noiseIn_23 (lv_at hl 0 rfl) ?_
      refine lv_ishr hx hb dX4_noiseIn_25 ?_
      refine lv_iconst (v := 1) hx hb dX4_noiseIn_26 (by decide) ?_
      refine lv_iand hx hb dX4_noiseIn_27 ?_
      refine lv_if_ne (tgt := 60) hx hb dX4_noiseIn_28 (by decide) (fun c_28 => ?_) (fun c_28 => ?_)
      · try replace hok := ok_f hok c_28
        try replace hsp := sr_f hsp c_28
        refine lv_iinc (v := (x_13_5 + 1)) (lv' := [(5, .int (x_13_5 + 1)), (4, .int x_13_4), (3, .int (h0_hushed ||| b)), (0, .ref h0), (1, .int a), (2, .int b)]) hx hb dX4_noiseIn_60 hl (k := 0) rfl (by first | rfl | decide) (by decide) rfl (fun ls hl => ?_)
        refine lv_goto (tgt := 13) hx hb dX4_noiseIn_63 (by decide) ?_
        exact ih (x_13_5 + 1) x_13_4 hok hsp ls (lv_sub hl [0, 1, 2, 3, 4, 5] rfl)
      · try replace hok := ok_t hok c_28
        try replace hsp := sr_t hsp c_28
        refine lv_iload hx hb dX4_noiseIn_31 (lv_at hl 1 rfl) ?_
        refine lv_iconst (v := 0) hx hb dX4_noiseIn_33 (by decide) ?_
        refine lv_aload_n hx hb dX4_noiseIn_34 rfl (lv_at hl 3 rfl) ?_
        refine va_get (ci := 4) (v := .ref h0noisd) (C := RX4) (T := TX4) (N := 13) hx hb htl inX4 hown hK hP 0 rfl rfl 4 (by decide) (htl _ fl_RX4_21) (fun _ h9 => h9) rfl dX4_noiseIn_35 ?_
        refine lv_iload hx hb dX4_noiseIn_38 (lv_at hl 0 rfl) ?_
        obtain ⟨hq_2001, hok⟩ := hok
        refine va_iald hx hb hK hP 2 0 rfl rfl hq_2001 dX4_noiseIn_40 ?_
        refine lv_aload_n hx hb dX4_noiseIn_41 rfl (lv_at hl 3 rfl) ?_
        refine va_get (ci := 4) (v := .ref h0noisn) (C := RX4) (T := TX4) (N := 13) hx hb htl inX4 hown hK hP 0 rfl rfl 3 (by decide) (htl _ fl_RX4_18) (fun _ h9 => h9) rfl dX4_noiseIn_42 ?_
        refine lv_iload hx hb dX4_noiseIn_45 (lv_at hl 0 rfl) ?_
        obtain ⟨hq_2002, hok⟩ := hok
        refine va_iald hx hb hK hP 1 0 rfl rfl hq_2002 dX4_noiseIn_47 ?_
        refine lv_iload_n hx hb dX4_noiseIn_48 rfl (lv_at hl 4 rfl) ?_
        refine lv_isub hx hb dX4_noiseIn_49 ?_
        refine va_mabs hx hb (hml.trans hl.1.symm) hown (htl _ lk_RX4_46) (htl _ lb_s_iabs) (htl _ lb_i) (htl _ lb_c_iabs) (Nat.le_of_ble_eq_true rfl) (Nat.le_of_ble_eq_true rfl) (Nat.le_of_ble_eq_true rfl) (Nat.le_of_ble_eq_true rfl) dX4_noiseIn_50 ?_
        refine lv_isub hx hb dX4_noiseIn_53 ?_
        refine va_mmax hx hb (hml.trans hl.1.symm) hown (htl _ lk_RX4_52) (htl _ lb_s_imax) (htl _ lb_i) (htl _ lb_c_imax) (Nat.le_of_ble_eq_true rfl) (Nat.le_of_ble_eq_true rfl) (Nat.le_of_ble_eq_true rfl) (Nat.le_of_ble_eq_true rfl) dX4_noiseIn_54 ?_
        refine lv_iadd hx hb dX4_noiseIn_57 ?_
        refine lv_istore (lv' := [(4, .int (x_13_4 + (if 0 < ((h0noisdf x_13_5.toNatClampNeg) - (if 0 ≤ ((h0noisnf x_13_5.toNatClampNeg) - a) then ((h0noisnf x_13_5.toNatClampNeg) - a) else 0 - ((h0noisnf x_13_5.toNatClampNeg) - a))) then ((h0noisdf x_13_5.toNatClampNeg) - (if 0 ≤ ((h0noisnf x_13_5.toNatClampNeg) - a) then ((h0noisnf x_13_5.toNatClampNeg) - a) else 0 - ((h0noisnf x_13_5.toNatClampNeg) - a))) else 0))), (5, .int x_13_5), (3, .int (h0_hushed ||| b)), (0, .ref h0), (1, .int a), (2, .int b)]) hx hb dX4_noiseIn_58 hl (by decide) rfl (fun ls hl => ?_)
        refine lv_iinc (v := (x_13_5 + 1)) (lv' := [(5, .int (x_13_5 + 1)), (4, .int (x_13_4 + (if 0 < ((h0noisdf x_13_5.toNatClampNeg) - (if 0 ≤ ((h0noisnf x_13_5.toNatClampNeg) - a) then ((h0noisnf x_13_5.toNatClampNeg) - a) else 0 - ((h0noisnf x_13_5.toNatClampNeg) - a))) then ((h0noisdf x_13_5.toNatClampNeg) - (if 0 ≤ ((h0noisnf x_13_5.toNatClampNeg) - a) then ((h0noisnf x_13_5.toNatClampNeg) - a) else 0 - ((h0noisnf x_13_5.toNatClampNeg) - a))) else 0))), (3, .int (h0_hushed ||| b)), (0, .ref h0), (1, .int a), (2, .int b)]) hx hb dX4_noiseIn_60 hl (k := 1) rfl (by first | rfl | decide) (by decide) rfl (fun ls hl => ?_)
        refine lv_goto (tgt := 13) hx hb dX4_noiseIn_63 (by decide) ?_
        exact ih (x_13_5 + 1) (x_13_4 + (if 0 < ((h0noisdf x_13_5.toNatClampNeg) - (if 0 ≤ ((h0noisnf x_13_5.toNatClampNeg) - a) then ((h0noisnf x_13_5.toNatClampNeg) - a) else 0 - ((h0noisnf x_13_5.toNatClampNeg) - a))) then ((h0noisdf x_13_5.toNatClampNeg) - (if 0 ≤ ((h0noisnf x_13_5.toNatClampNeg) - a) then ((h0noisnf x_13_5.toNatClampNeg) - a) else 0 - ((h0noisnf x_13_5.toNatClampNeg) - a))) else 0)) hok hsp ls (lv_sub hl [0, 1, 2, 3, 4, 5] rfl)

def gs_X4_noiseIn (a : Int32) (b : Int32) (h0_noises : Int32) (h0_hushed : Int32) (h0noisnf : Nat → Int32) (h0noisdf : Nat → Int32) : Int32 := ((fun (q_y_13_5 : Int32 × Int32) => q_y_13_5.2) (lr_X4_noiseIn_13 a b h0_noises h0_hushed h0noisnf h0noisdf 8 (0, 0)))
def go_X4_noiseIn (a : Int32) (b : Int32) (h0_noises : Int32) (h0_hushed : Int32) (h0noisnf : Nat → Int32) (h0noisdf : Nat → Int32) : Prop := ((lo_X4_noiseIn_13 a b h0_noises h0_hushed h0noisnf h0noisdf 8 (0, 0)) ∧ ((fun (q_y_13_5 : Int32 × Int32) => True) (lr_X4_noiseIn_13 a b h0_noises h0_hushed h0noisnf h0noisdf 8 (0, 0))))
set_option maxHeartbeats 1000000 in
set_option maxRecDepth 100000 in
theorem g_X4_noiseIn (l : Launch) (G : va_G) (cs : Nat → ClassId) (h0 : Nat) (a : Int32) (b : Int32) (h0_column : Value) (h0_ear : Value) (h0_listeners : Int32) (h0noisn : Nat) (h0noisd : Nat) (h0_noises : Int32) (h0_hushed : Int32) (h0_hearsayColumn : Value) (h0_hearsayLoud : Value) (h0_hearsay : Int32) (h0_sounds : Value) (h0_wet : Value) (h0_wells : Int32) (h0noisnf : Nat → Int32) (h0noisdf : Nat → Int32) (hok : go_X4_noiseIn a b h0_noises h0_hushed h0noisnf h0noisdf) : Met l yX4_noiseIn (Cond.code yX4_noiseIn cX4_noiseIn 6 (some .int) :: gW) ({ frames := 1, cells := 0, slots := 0, locals := 24 }) (va_Pc [.ref h0, .int a, .int b] (PrS G cs [(h0, .inr (4, [h0_column, h0_ear, .int h0_listeners, .ref h0noisn, .ref h0noisd, .int h0_noises, .int h0_hushed, h0_hearsayColumn, h0_hearsayLoud, .int h0_hearsay, h0_sounds, h0_wet, .int h0_wells])), (h0noisn, .inl (cs 0, 6, .inl h0noisnf)), (h0noisd, .inl (cs 0, 6, .inl h0noisdf))])) (vp_Si (fun r => r = gs_X4_noiseIn a b h0_noises h0_hushed h0noisnf h0noisdf)) 0 0 (fun _ => False) := by
  have hsp := Eq.refl (gs_X4_noiseIn a b h0_noises h0_hushed h0noisnf h0noisdf)
  conv at hsp => rhs; unfold gs_X4_noiseIn
  unfold go_X4_noiseIn at hok
  refine Met.ofW (cc := cX4_noiseIn) (maxL := 6) (ret := (some .int)) (by decide) rfl ?_
  intro p e s m args below meth c s₁ B hml hv
  obtain ⟨rfl, hP, hK, hN⟩ := hv
  have hx := B.exec
  have hb := B.bytes
  have hr := B.returns
  have hts := atoms_spec (ws := Cond.code yX4_noiseIn cX4_noiseIn 6 (some .int) :: gW) B.pre
  have htl : ∀ w ∈ gW, w.before _ s = true := fun w h => hts w (List.mem_cons_of_mem _ h)
  have hown : s.vm.findClass RX4 = some m.cls := findClass_of_methodNamed B.named
  have hlocks := B.notSynchronized
  have hl := lv_entry ([.ref h0, .int a, .int b]) (n := 6) (Nat.le_of_ble_eq_true rfl)
  rw [lg_entry_eq]
  generalize (lg_sl ([.ref h0, .int a, .int b]) ++ List.replicate (6 - (lg_sl ([.ref h0, .int a, .int b])).length) Slot.unset).toArray = ls at hl ⊢
  have hl : lv_has ls 6 [(0, .ref h0), (1, .int a), (2, .int b)] := hl
  refine lv_aload_n hx hb dX4_noiseIn_0 rfl (lv_at hl 0 rfl) ?_
  refine va_get (ci := 4) (v := .int h0_hushed) (C := RX4) (T := TX4) (N := 13) hx hb htl inX4 hown hK hP 0 rfl rfl 6 (by decide) (htl _ fl_RX4_43) (fun _ h9 => h9) rfl dX4_noiseIn_1 ?_
  refine lv_iload_n hx hb dX4_noiseIn_4 rfl (lv_at hl 2 rfl) ?_
  refine lv_ior hx hb dX4_noiseIn_5 ?_
  refine lv_istore_n (lv' := [(3, .int (h0_hushed ||| b)), (0, .ref h0), (1, .int a), (2, .int b)]) hx hb dX4_noiseIn_6 rfl hl (by decide) rfl (fun ls hl => ?_)
  refine lv_iconst (v := 0) hx hb dX4_noiseIn_7 (by decide) ?_
  refine lv_istore (lv' := [(4, .int 0), (3, .int (h0_hushed ||| b)), (0, .ref h0), (1, .int a), (2, .int b)]) hx hb dX4_noiseIn_8 hl (by decide) rfl (fun ls hl => ?_)
  refine lv_iconst (v := 0) hx hb dX4_noiseIn_10 (by decide) ?_
  refine lv_istore (lv' := [(5, .int 0), (4, .int 0), (3, .int (h0_hushed ||| b)), (0, .ref h0), (1, .int a), (2, .int b)]) hx hb dX4_noiseIn_11 hl (by decide) rfl (fun ls hl => ?_)
  obtain ⟨hq_1, hok⟩ := hok
  obtain ⟨y_13_5, y_13_4, hy⟩ : ∃ (y_13_5 : Int32) (y_13_4 : Int32), lr_X4_noiseIn_13 a b h0_noises h0_hushed h0noisnf h0noisdf 8 (0, 0) = (y_13_5, y_13_4) := ⟨_, _, rfl⟩
  replace hok := ok_l hok hy.symm
  replace hsp := sp_l hsp hy.symm
  refine lg_X4_noiseIn_13 l G cs h0 a b h0_column h0_ear h0_listeners h0noisn h0noisd h0_noises h0_hushed h0_hearsayColumn h0_hearsayLoud h0_hearsay h0_sounds h0_wet h0_wells h0noisnf h0noisdf hx hb hml hown htl hN hK hP y_13_5 y_13_4 (fun ls hl => ?_) 8 0 0 hq_1 hy _ (lv_sub hl [0, 1, 2, 3, 4, 5] rfl)
  refine lv_iload hx hb dX4_noiseIn_66 (lv_at hl 1 rfl) ?_
  exact W.iret (v := y_13_4) hx hb hr (fun t ht hW => ⟨y_13_4, rfl, hsp.symm, ht⟩) (fun q h => by cases h) dX4_noiseIn_68

def lr_X6_waterIn_5 (a : Int64) (h0wf : Nat → Int32) : Nat → (Int32 × Int32) → Int32 × Int32
  | 0, q => q
  | n + 1, (x_5_4, x_5_3) => (if 40 ≤ x_5_4 then (x_5_4, x_5_3) else (if (lg_cmp ((a >>> (x_5_4.toInt64 &&& 63)) &&& 1) 0) = 0 then lr_X6_waterIn_5 a h0wf n ((x_5_4 + 1), x_5_3) else lr_X6_waterIn_5 a h0wf n ((x_5_4 + 1), (x_5_3 + (h0wf x_5_4.toNatClampNeg)))))
def lo_X6_waterIn_5 (a : Int64) (h0wf : Nat → Int32) : Nat → (Int32 × Int32) → Prop
  | 0, _ => False
  | n + 1, (x_5_4, x_5_3) => (if 40 ≤ x_5_4 then True else (if (lg_cmp ((a >>> (x_5_4.toInt64 &&& 63)) &&& 1) 0) = 0 then lo_X6_waterIn_5 a h0wf n ((x_5_4 + 1), x_5_3) else (vp_in x_5_4 40 ∧ lo_X6_waterIn_5 a h0wf n ((x_5_4 + 1), (x_5_3 + (h0wf x_5_4.toNatClampNeg))))))
set_option maxHeartbeats 1000000 in
set_option maxRecDepth 100000 in
theorem lg_X6_waterIn_5 (l : Launch) (G : va_G) (cs : Nat → ClassId) (h0 : Nat) (a : Int64) (h0k : Nat) (h0h : Nat) (h0w : Nat) (h0_dug : Int64) (h0wf : Nat → Int32) {p : Program} {e : Env} {s : State} {m : MethodId} {args : Array Value} {below : List Frame} {meth : Method} {c : Code} {Q : State → Prop} (hx : p.tables.exec = Jvm.exec) (hb : c.code = cX6_waterIn) (hml : c.maxLocals = 5) (hown : s.vm.findClass RX6 = some m.cls) (htl : ∀ w ∈ gW, w.before args s = true) (hN : NW s) (hK : va_K G vwCl (tyL cs) s) (hP : va_P G vwCl [(h0, .inr (6, [.ref h0k, .ref h0h, .ref h0w, .long h0_dug])), (h0w, .inl (cs 0, 40, .inl h0wf))] s.heap) (y_5_4 : Int32) (y_5_3 : Int32) (K : ∀ (ls : Array Slot), lv_has ls 5 [(4, .int y_5_4), (3, .int y_5_3), (0, .ref h0), (1, .long a)] → W p l e (headSpec (Cond.code yX6_waterIn cX6_waterIn 5 (some .int) :: gW) ({ frames := 0, cells := 0, slots := 0, locals := 0 })).room s m args below meth c s.heap [] 0 0 Q (F0 m 39 ls [])) : ∀ (n : Nat) (x_5_4 : Int32) (x_5_3 : Int32), lo_X6_waterIn_5 a h0wf n (x_5_4, x_5_3) → lr_X6_waterIn_5 a h0wf n (x_5_4, x_5_3) = (y_5_4, y_5_3) → ∀ (ls : Array Slot), lv_has ls 5 [(4, .int x_5_4), (3, .int x_5_3), (0, .ref h0), (1, .long a)] → W p l e (headSpec (Cond.code yX6_waterIn cX6_waterIn 5 (some .int) :: gW) ({ frames := 0, cells := 0, slots := 0, locals := 0 })).room s m args below meth c s.heap [] 0 0 Q (F0 m 5 ls []) := by
  intro n
  induction n with
  | zero =>
    intro x_5_4 x_5_3 hok
    exact hok.elim
  | succ n ih =>
    intro x_5_4 x_5_3 hok hsp ls hl
    unfold lo_X6_waterIn_5 at hok
    unfold lr_X6_waterIn_5 at hsp
    refine lv_iload hx hb dX6_waterIn_5 (lv_at hl 0 rfl) ?_
    refine lv_bipush (v := 40) hx hb dX6_waterIn_7 (by decide) ?_
    refine lv_icmp_ge (tgt := 39) hx hb dX6_waterIn_9 (by decide) (fun c_9 => ?_) (fun c_9 => ?_)
    · try replace hok := ok_t hok c_9
      try replace hsp := sr_t hsp c_9
      cases hsp
      exact K ls (lv_sub hl [0, 1, 2, 3] rfl)
    · try replace hok := ok_f hok c_9
      try replace hsp := sr_f hsp c_9
      refine lv_lload_n hx hb dX6_waterIn_12 rfl (lv_at hl 3 rfl) ?_
      refine lv_iload hx hb dX6_waterIn_13 (lv_at hl 0 rfl) ?_
      refine lv_lshr (v := (a >>> (x_5_4.toInt64 &&& 63))) hx hb dX6_waterIn_15 (by first | rfl | decide) ?_
      refine lv_lconst (v := 1) hx hb dX6_waterIn_16 (by decide) ?_
      refine lv_land hx hb dX6_waterIn_17 ?_
      refine lv_lconst (v := 0) hx hb dX6_waterIn_18 (by decide) ?_
      refine W.lcmp hx hb dX6_waterIn_19 ?_
      refine lv_if_eq (tgt := 33) hx hb dX6_waterIn_20 (by decide) (fun c_20 => ?_) (fun c_20 => ?_)
      · try replace hok := ok_t hok c_20
        try replace hsp := sr_t hsp c_20
        refine lv_iinc (v := (x_5_4 + 1)) (lv' := [(4, .int (x_5_4 + 1)), (3, .int x_5_3), (0, .ref h0), (1, .long a)]) hx hb dX6_waterIn_33 hl (k := 0) rfl (by first | rfl | decide) (by decide) rfl (fun ls hl => ?_)
        refine lv_goto (tgt := 5) hx hb dX6_waterIn_36 (by decide) ?_
        exact ih (x_5_4 + 1) x_5_3 hok hsp ls (lv_sub hl [0, 1, 2, 3] rfl)
      · try replace hok := ok_f hok c_20
        try replace hsp := sr_f hsp c_20
        refine lv_iload_n hx hb dX6_waterIn_23 rfl (lv_at hl 1 rfl) ?_
        refine lv_aload_n hx hb dX6_waterIn_24 rfl (lv_at hl 2 rfl) ?_
        refine va_get (ci := 6) (v := .ref h0w) (C := RX6) (T := TX6) (N := 4) hx hb htl inX6 hown hK hP 0 rfl rfl 2 (by decide) (htl _ fl_RX6_18) (fun _ h9 => h9) rfl dX6_waterIn_25 ?_
        refine lv_iload hx hb dX6_waterIn_28 (lv_at hl 0 rfl) ?_
        obtain ⟨hq_2001, hok⟩ := hok
        refine va_iald hx hb hK hP 1 0 rfl rfl hq_2001 dX6_waterIn_30 ?_
        refine lv_iadd hx hb dX6_waterIn_31 ?_
        refine lv_istore_n (lv' := [(3, .int (x_5_3 + (h0wf x_5_4.toNatClampNeg))), (4, .int x_5_4), (0, .ref h0), (1, .long a)]) hx hb dX6_waterIn_32 rfl hl (by decide) rfl (fun ls hl => ?_)
        refine lv_iinc (v := (x_5_4 + 1)) (lv' := [(4, .int (x_5_4 + 1)), (3, .int (x_5_3 + (h0wf x_5_4.toNatClampNeg))), (0, .ref h0), (1, .long a)]) hx hb dX6_waterIn_33 hl (k := 1) rfl (by first | rfl | decide) (by decide) rfl (fun ls hl => ?_)
        refine lv_goto (tgt := 5) hx hb dX6_waterIn_36 (by decide) ?_
        exact ih (x_5_4 + 1) (x_5_3 + (h0wf x_5_4.toNatClampNeg)) hok hsp ls (lv_sub hl [0, 1, 2, 3] rfl)

def gs_X6_waterIn (a : Int64) (h0wf : Nat → Int32) : Int32 := ((fun (q_y_5_4 : Int32 × Int32) => q_y_5_4.2) (lr_X6_waterIn_5 a h0wf 48 (0, 0)))
def go_X6_waterIn (a : Int64) (h0wf : Nat → Int32) : Prop := ((lo_X6_waterIn_5 a h0wf 48 (0, 0)) ∧ ((fun (q_y_5_4 : Int32 × Int32) => True) (lr_X6_waterIn_5 a h0wf 48 (0, 0))))
set_option maxHeartbeats 1000000 in
set_option maxRecDepth 100000 in
theorem g_X6_waterIn (l : Launch) (G : va_G) (cs : Nat → ClassId) (h0 : Nat) (a : Int64) (h0k : Nat) (h0h : Nat) (h0w : Nat) (h0_dug : Int64) (h0wf : Nat → Int32) (hok : go_X6_waterIn a h0wf) : Met l yX6_waterIn (Cond.code yX6_waterIn cX6_waterIn 5 (some .int) :: gW) ({ frames := 0, cells := 0, slots := 0, locals := 0 }) (va_Pc [.ref h0, .long a] (PrS G cs [(h0, .inr (6, [.ref h0k, .ref h0h, .ref h0w, .long h0_dug])), (h0w, .inl (cs 0, 40, .inl h0wf))])) (vp_Si (fun r => r = gs_X6_waterIn a h0wf)) 0 0 (fun _ => False) := by
  have hsp := Eq.refl (gs_X6_waterIn a h0wf)
  conv at hsp => rhs; unfold gs_X6_waterIn
  unfold go_X6_waterIn at hok
  refine Met.ofW (cc := cX6_waterIn) (maxL := 5) (ret := (some .int)) (by decide) rfl ?_
  intro p e s m args below meth c s₁ B hml hv
  obtain ⟨rfl, hP, hK, hN⟩ := hv
  have hx := B.exec
  have hb := B.bytes
  have hr := B.returns
  have hts := atoms_spec (ws := Cond.code yX6_waterIn cX6_waterIn 5 (some .int) :: gW) B.pre
  have htl : ∀ w ∈ gW, w.before _ s = true := fun w h => hts w (List.mem_cons_of_mem _ h)
  have hown : s.vm.findClass RX6 = some m.cls := findClass_of_methodNamed B.named
  have hlocks := B.notSynchronized
  have hl := lv_entry ([.ref h0, .long a]) (n := 5) (Nat.le_of_ble_eq_true rfl)
  rw [lg_entry_eq]
  generalize (lg_sl ([.ref h0, .long a]) ++ List.replicate (5 - (lg_sl ([.ref h0, .long a])).length) Slot.unset).toArray = ls at hl ⊢
  have hl : lv_has ls 5 [(0, .ref h0), (1, .long a)] := hl
  refine lv_iconst (v := 0) hx hb dX6_waterIn_0 (by decide) ?_
  refine lv_istore_n (lv' := [(3, .int 0), (0, .ref h0), (1, .long a)]) hx hb dX6_waterIn_1 rfl hl (by decide) rfl (fun ls hl => ?_)
  refine lv_iconst (v := 0) hx hb dX6_waterIn_2 (by decide) ?_
  refine lv_istore (lv' := [(4, .int 0), (3, .int 0), (0, .ref h0), (1, .long a)]) hx hb dX6_waterIn_3 hl (by decide) rfl (fun ls hl => ?_)
  obtain ⟨hq_1, hok⟩ := hok
  obtain ⟨y_5_4, y_5_3, hy⟩ : ∃ (y_5_4 : Int32) (y_5_3 : Int32), lr_X6_waterIn_5 a h0wf 48 (0, 0) = (y_5_4, y_5_3) := ⟨_, _, rfl⟩
  replace hok := ok_l hok hy.symm
  replace hsp := sp_l hsp hy.symm
  refine lg_X6_waterIn_5 l G cs h0 a h0k h0h h0w h0_dug h0wf hx hb hml hown htl hN hK hP y_5_4 y_5_3 (fun ls hl => ?_) 48 0 0 hq_1 hy _ (lv_sub hl [0, 1, 2, 3] rfl)
  refine lv_iload_n hx hb dX6_waterIn_39 rfl (lv_at hl 1 rfl) ?_
  exact W.iret (v := y_5_3) hx hb hr (fun t ht hW => ⟨y_5_3, rfl, hsp.symm, ht⟩) (fun q h => by cases h) dX6_waterIn_40

def lr_X5_addFour_3 (a : Int32) : Nat → (Int32 × Int32 × (Nat → Int32)) → Int32 × Int32 × (Nat → Int32)
  | 0, q => q
  | n + 1, (x_3_2, x_3_h0_1, x_3_hb_) => (if x_3_2 < 0 then (x_3_2, x_3_h0_1, x_3_hb_) else (if 400 ≤ x_3_h0_1 then lr_X5_addFour_3 a n ((x_3_2 + (-8)), x_3_h0_1, x_3_hb_) else lr_X5_addFour_3 a n ((x_3_2 + (-8)), (x_3_h0_1 + 1), (upd x_3_hb_ x_3_h0_1.toNatClampNeg ((a >>> (x_3_2 &&& 31)) &&& 255)))))
def lo_X5_addFour_3 (a : Int32) : Nat → (Int32 × Int32 × (Nat → Int32)) → Prop
  | 0, _ => False
  | n + 1, (x_3_2, x_3_h0_1, x_3_hb_) => (if x_3_2 < 0 then True else (if 400 ≤ x_3_h0_1 then lo_X5_addFour_3 a n ((x_3_2 + (-8)), x_3_h0_1, x_3_hb_) else (vp_in x_3_h0_1 400 ∧ lo_X5_addFour_3 a n ((x_3_2 + (-8)), (x_3_h0_1 + 1), (upd x_3_hb_ x_3_h0_1.toNatClampNeg ((a >>> (x_3_2 &&& 31)) &&& 255))))))
set_option maxHeartbeats 1000000 in
set_option maxRecDepth 100000 in
theorem lg_X5_addFour_3 (l : Launch) (G : va_G) (cs : Nat → ClassId) (h0 : Nat) (a : Int32) (hb_ : Nat) (h0_length : Int32) (h0_tokens : Value) (h0_places : Value) (h0_tokenCount : Int32) (h0_now : Int32) (h0_parts : Int32) (h0_asOrders : Int32) (h0_faultPlace : Int32) (h0_draft : Value) (bf : Nat → Int32) {p : Program} {e : Env} {s : State} {m : MethodId} {args : Array Value} {below : List Frame} {meth : Method} {c : Code} {Q : State → Prop} {A : Nat → Prop} {H0 : Heap} (hx : p.tables.exec = Jvm.exec) (hb : c.code = cX5_addFour) (hml : c.maxLocals = 3) (hown : s.vm.findClass RX5 = some m.cls) (htl : ∀ w ∈ gW, w.before args s = true) (hN : NW s) (hK : va_K G vwCl (tyL cs) s) (hA : ∀ q, H0.size ≤ q → A q) (y_3_2 : Int32) (y_3_h0_1 : Int32) (y_3_hb_ : Nat → Int32) (K : ∀ (H : Heap) (locs : List Loc) (ls : Array Slot), va_P G vwCl [(h0, .inr (5, [.ref hb_, .int y_3_h0_1, h0_tokens, h0_places, .int h0_tokenCount, .int h0_now, .int h0_parts, .int h0_asOrders, .int h0_faultPlace, h0_draft])), (hb_, .inl (cs 0, 400, .inl y_3_hb_))] H → va_D A [(h0, .inr (5, [.ref hb_, .int y_3_h0_1, h0_tokens, h0_places, .int h0_tokenCount, .int h0_now, .int h0_parts, .int h0_asOrders, .int h0_faultPlace, h0_draft])), (hb_, .inl (cs 0, 400, .inl y_3_hb_))] → va_S A H0 H locs → lv_has ls 3 [(2, .int y_3_2), (0, .ref h0), (1, .int a)] → W p l e (headSpec (Cond.code yX5_addFour cX5_addFour 3 none :: gW) ({ frames := 0, cells := 0, slots := 0, locals := 0 })).room s m args below meth c H locs 0 0 Q (F0 m 49 ls [])) : ∀ (n : Nat) (x_3_2 : Int32) (x_3_h0_1 : Int32) (x_3_hb_ : Nat → Int32), lo_X5_addFour_3 a n (x_3_2, x_3_h0_1, x_3_hb_) → lr_X5_addFour_3 a n (x_3_2, x_3_h0_1, x_3_hb_) = (y_3_2, y_3_h0_1, y_3_hb_) → ∀ (H : Heap) (locs : List Loc) (ls : Array Slot), va_P G vwCl [(h0, .inr (5, [.ref hb_, .int x_3_h0_1, h0_tokens, h0_places, .int h0_tokenCount, .int h0_now, .int h0_parts, .int h0_asOrders, .int h0_faultPlace, h0_draft])), (hb_, .inl (cs 0, 400, .inl x_3_hb_))] H → va_D A [(h0, .inr (5, [.ref hb_, .int x_3_h0_1, h0_tokens, h0_places, .int h0_tokenCount, .int h0_now, .int h0_parts, .int h0_asOrders, .int h0_faultPlace, h0_draft])), (hb_, .inl (cs 0, 400, .inl x_3_hb_))] → va_S A H0 H locs → lv_has ls 3 [(2, .int x_3_2), (0, .ref h0), (1, .int a)] → W p l e (headSpec (Cond.code yX5_addFour cX5_addFour 3 none :: gW) ({ frames := 0, cells := 0, slots := 0, locals := 0 })).room s m args below meth c H locs 0 0 Q (F0 m 3 ls []) := by
  intro n
  induction n with
  | zero =>
    intro x_3_2 x_3_h0_1 x_3_hb_ hok
    exact hok.elim
  | succ n ih =>
    intro x_3_2 x_3_h0_1 x_3_hb_ hok hsp H locs ls hP hD hS hl
    unfold lo_X5_addFour_3 at hok
    unfold lr_X5_addFour_3 at hsp
    refine lv_iload_n hx hb dX5_addFour_3 rfl (lv_at hl 0 rfl) ?_
    refine lv_if_lt (tgt := 49) hx hb dX5_addFour_4 (by decide) (fun c_4 => ?_) (fun c_4 => ?_)
    · try replace hok := ok_t hok c_4
      try replace hsp := sr_t hsp c_4
      cases hsp
      exact K H locs ls (hP.pick (is := [0, 1]) rfl) (hD.sub [0, 1] rfl rfl) hS (lv_sub hl [0, 1, 2] rfl)
    · try replace hok := ok_f hok c_4
      try replace hsp := sr_f hsp c_4
      refine lv_aload_n hx hb dX5_addFour_7 rfl (lv_at hl 1 rfl) ?_
      refine va_get (ci := 5) (v := .int x_3_h0_1) (C := RX5) (T := TX5) (N := 10) hx hb htl inX5 hown hK hP 0 rfl rfl 1 (by decide) (htl _ fl_RX5_34) (fun _ h9 => h9) rfl dX5_addFour_8 ?_
      refine lv_sipush (v := 400) hx hb dX5_addFour_11 (by decide) ?_
      refine lv_icmp_ge (tgt := 43) hx hb dX5_addFour_14 (by decide) (fun c_14 => ?_) (fun c_14 => ?_)
      · try replace hok := ok_t hok c_14
        try replace hsp := sr_t hsp c_14
        refine lv_iinc (v := (x_3_2 + (-8))) (lv' := [(2, .int (x_3_2 + (-8))), (0, .ref h0), (1, .int a)]) hx hb dX5_addFour_43 hl (k := 0) rfl (by first | rfl | decide) (by decide) rfl (fun ls hl => ?_)
        refine lv_goto (tgt := 3) hx hb dX5_addFour_46 (by decide) ?_
        exact ih (x_3_2 + (-8)) x_3_h0_1 x_3_hb_ hok hsp H locs ls (hP.pick (is := [0, 1]) rfl) (hD.sub [0, 1] rfl rfl) hS (lv_sub hl [0, 1, 2] rfl)
      · try replace hok := ok_f hok c_14
        try replace hsp := sr_f hsp c_14
        refine lv_aload_n hx hb dX5_addFour_17 rfl (lv_at hl 1 rfl) ?_
        refine va_get (ci := 5) (v := .ref hb_) (C := RX5) (T := TX5) (N := 10) hx hb htl inX5 hown hK hP 0 rfl rfl 0 (by decide) (htl _ fl_RX5_9) (fun _ h9 => h9) rfl dX5_addFour_18 ?_
        refine lv_aload_n hx hb dX5_addFour_21 rfl (lv_at hl 1 rfl) ?_
        refine va_get (ci := 5) (v := .int x_3_h0_1) (C := RX5) (T := TX5) (N := 10) hx hb htl inX5 hown hK hP 0 rfl rfl 1 (by decide) (htl _ fl_RX5_34) (fun _ h9 => h9) rfl dX5_addFour_22 ?_
        refine lv_iload_n hx hb dX5_addFour_25 rfl (lv_at hl 2 rfl) ?_
        refine lv_iload_n hx hb dX5_addFour_26 rfl (lv_at hl 0 rfl) ?_
        refine lv_ishr hx hb dX5_addFour_27 ?_
        refine lv_sipush (v := 255) hx hb dX5_addFour_28 (by decide) ?_
        refine lv_iand hx hb dX5_addFour_31 ?_
        obtain ⟨hq_2001, hok⟩ := hok
        refine va_iast hx hb hK hP hD hS 1 0 rfl rfl hq_2001 dX5_addFour_32 (fun H locs hP hD hS => ?_)
        have hP : va_P G vwCl [(h0, .inr (5, [.ref hb_, .int x_3_h0_1, h0_tokens, h0_places, .int h0_tokenCount, .int h0_now, .int h0_parts, .int h0_asOrders, .int h0_faultPlace, h0_draft])), (hb_, .inl (cs 0, 400, .inl (upd x_3_hb_ x_3_h0_1.toNatClampNeg ((a >>> (x_3_2 &&& 31)) &&& 255))))] H := hP
        have hD : va_D A [(h0, .inr (5, [.ref hb_, .int x_3_h0_1, h0_tokens, h0_places, .int h0_tokenCount, .int h0_now, .int h0_parts, .int h0_asOrders, .int h0_faultPlace, h0_draft])), (hb_, .inl (cs 0, 400, .inl (upd x_3_hb_ x_3_h0_1.toNatClampNeg ((a >>> (x_3_2 &&& 31)) &&& 255))))] := hD
        refine lv_aload_n hx hb dX5_addFour_33 rfl (lv_at hl 1 rfl) ?_
        refine lv_dup hx hb dX5_addFour_34 rfl ?_
        refine va_get (ci := 5) (v := .int x_3_h0_1) (C := RX5) (T := TX5) (N := 10) hx hb htl inX5 hown hK hP 0 rfl rfl 1 (by decide) (htl _ fl_RX5_34) (fun _ h9 => h9) rfl dX5_addFour_35 ?_
        refine lv_iconst (v := 1) hx hb dX5_addFour_38 (by decide) ?_
        refine lv_iadd hx hb dX5_addFour_39 ?_
        refine va_put (ci := 5) (v := .int (x_3_h0_1 + 1)) (ty := .int) (C := RX5) (T := TX5) (N := 10) hx hb htl inX5 tyX5 tyX5_ok nmX5 hown hK hP hD hS 0 rfl rfl 1 (by decide) (htl _ fl_RX5_34) (fun _ h9 => h9) rfl (by decide +kernel) (by first | rfl | decide) (by first | rfl | decide) (Nat.le_of_ble_eq_true rfl) dX5_addFour_40 (fun H locs hP hD hS => ?_)
        have hP : va_P G vwCl [(h0, .inr (5, [.ref hb_, .int (x_3_h0_1 + 1), h0_tokens, h0_places, .int h0_tokenCount, .int h0_now, .int h0_parts, .int h0_asOrders, .int h0_faultPlace, h0_draft])), (hb_, .inl (cs 0, 400, .inl (upd x_3_hb_ x_3_h0_1.toNatClampNeg ((a >>> (x_3_2 &&& 31)) &&& 255))))] H := hP
        have hD : va_D A [(h0, .inr (5, [.ref hb_, .int (x_3_h0_1 + 1), h0_tokens, h0_places, .int h0_tokenCount, .int h0_now, .int h0_parts, .int h0_asOrders, .int h0_faultPlace, h0_draft])), (hb_, .inl (cs 0, 400, .inl (upd x_3_hb_ x_3_h0_1.toNatClampNeg ((a >>> (x_3_2 &&& 31)) &&& 255))))] := hD
        refine lv_iinc (v := (x_3_2 + (-8))) (lv' := [(2, .int (x_3_2 + (-8))), (0, .ref h0), (1, .int a)]) hx hb dX5_addFour_43 hl (k := 0) rfl (by first | rfl | decide) (by decide) rfl (fun ls hl => ?_)
        refine lv_goto (tgt := 3) hx hb dX5_addFour_46 (by decide) ?_
        exact ih (x_3_2 + (-8)) (x_3_h0_1 + 1) (upd x_3_hb_ x_3_h0_1.toNatClampNeg ((a >>> (x_3_2 &&& 31)) &&& 255)) hok hsp H locs ls (hP.pick (is := [0, 1]) rfl) (hD.sub [0, 1] rfl rfl) hS (lv_sub hl [0, 1, 2] rfl)

def gs_X5_addFour (a : Int32) (h0_length : Int32) (bf : Nat → Int32) : Int32 × (Nat → Int32) := ((fun (q_y_3_2 : Int32 × Int32 × (Nat → Int32)) => (q_y_3_2.2.1, q_y_3_2.2.2)) (lr_X5_addFour_3 a 5 (24, h0_length, bf)))
def go_X5_addFour (a : Int32) (h0_length : Int32) (bf : Nat → Int32) : Prop := ((lo_X5_addFour_3 a 5 (24, h0_length, bf)) ∧ ((fun (q_y_3_2 : Int32 × Int32 × (Nat → Int32)) => True) (lr_X5_addFour_3 a 5 (24, h0_length, bf))))
set_option maxHeartbeats 1000000 in
set_option maxRecDepth 100000 in
theorem g_X5_addFour (l : Launch) (G : va_G) (cs : Nat → ClassId) (h0 : Nat) (a : Int32) (hb_ : Nat) (h0_length : Int32) (h0_tokens : Value) (h0_places : Value) (h0_tokenCount : Int32) (h0_now : Int32) (h0_parts : Int32) (h0_asOrders : Int32) (h0_faultPlace : Int32) (h0_draft : Value) (bf : Nat → Int32) (sz : Nat) (hok : go_X5_addFour a h0_length bf) : Met l yX5_addFour (Cond.code yX5_addFour cX5_addFour 3 none :: gW) ({ frames := 0, cells := 0, slots := 0, locals := 0 }) (va_Pc [.ref h0, .int a] (Pre G cs [(h0, .inr (5, [.ref hb_, .int h0_length, h0_tokens, h0_places, .int h0_tokenCount, .int h0_now, .int h0_parts, .int h0_asOrders, .int h0_faultPlace, h0_draft])), (hb_, .inl (cs 0, 400, .inl bf))] sz)) (va_Qv (fun (u : Int32 × (Nat → Int32)) => u = gs_X5_addFour a h0_length bf) (fun (u : Int32 × (Nat → Int32)) t => Aft G cs (va_A [(h0, .inr (5, [.ref hb_, .int h0_length, h0_tokens, h0_places, .int h0_tokenCount, .int h0_now, .int h0_parts, .int h0_asOrders, .int h0_faultPlace, h0_draft])), (hb_, .inl (cs 0, 400, .inl bf))] sz) [(h0, .inr (5, [.ref hb_, .int u.1, h0_tokens, h0_places, .int h0_tokenCount, .int h0_now, .int h0_parts, .int h0_asOrders, .int h0_faultPlace, h0_draft])), (hb_, .inl (cs 0, 400, .inl u.2))] t) (va_A [(h0, .inr (5, [.ref hb_, .int h0_length, h0_tokens, h0_places, .int h0_tokenCount, .int h0_now, .int h0_parts, .int h0_asOrders, .int h0_faultPlace, h0_draft])), (hb_, .inl (cs 0, 400, .inl bf))] sz)) 0 0 (va_A [(h0, .inr (5, [.ref hb_, .int h0_length, h0_tokens, h0_places, .int h0_tokenCount, .int h0_now, .int h0_parts, .int h0_asOrders, .int h0_faultPlace, h0_draft])), (hb_, .inl (cs 0, 400, .inl bf))] sz) := by
  have hsp := Eq.refl (gs_X5_addFour a h0_length bf)
  conv at hsp => rhs; unfold gs_X5_addFour
  unfold go_X5_addFour at hok
  refine Met.ofW (cc := cX5_addFour) (maxL := 3) (ret := none) (by decide) rfl ?_
  intro p e s m args below meth c s₁ B hml hv
  obtain ⟨rfl, hsz, hP, hK, hD0, hN⟩ := hv
  have hx := B.exec
  have hb := B.bytes
  have hr := B.returns
  have hts := atoms_spec (ws := Cond.code yX5_addFour cX5_addFour 3 none :: gW) B.pre
  have htl : ∀ w ∈ gW, w.before _ s = true := fun w h => hts w (List.mem_cons_of_mem _ h)
  have hown : s.vm.findClass RX5 = some m.cls := findClass_of_methodNamed B.named
  have hlocks := B.notSynchronized
  subst hsz
  have hD := hD0.self (sz := s.heap.size)
  generalize hAe : va_A [(h0, .inr (5, [.ref hb_, .int h0_length, h0_tokens, h0_places, .int h0_tokenCount, .int h0_now, .int h0_parts, .int h0_asOrders, .int h0_faultPlace, h0_draft])), (hb_, .inl (cs 0, 400, .inl bf))] s.heap.size = A at hD ⊢
  have hA : ∀ q : Nat, s.heap.size ≤ q → A q := fun q h => by rw [← hAe]; exact Or.inr h
  have hS : va_S A s.heap s.heap [] := va_S.rf
  have hl := lv_entry ([.ref h0, .int a]) (n := 3) (Nat.le_of_ble_eq_true rfl)
  rw [lg_entry_eq]
  generalize (lg_sl ([.ref h0, .int a]) ++ List.replicate (3 - (lg_sl ([.ref h0, .int a])).length) Slot.unset).toArray = ls at hl ⊢
  have hl : lv_has ls 3 [(0, .ref h0), (1, .int a)] := hl
  refine lv_bipush (v := 24) hx hb dX5_addFour_0 (by decide) ?_
  refine lv_istore_n (lv' := [(2, .int 24), (0, .ref h0), (1, .int a)]) hx hb dX5_addFour_2 rfl hl (by decide) rfl (fun ls hl => ?_)
  obtain ⟨hq_1, hok⟩ := hok
  obtain ⟨y_3_2, y_3_h0_1, y_3_hb_, hy⟩ : ∃ (y_3_2 : Int32) (y_3_h0_1 : Int32) (y_3_hb_ : Nat → Int32), lr_X5_addFour_3 a 5 (24, h0_length, bf) = (y_3_2, y_3_h0_1, y_3_hb_) := ⟨_, _, _, rfl⟩
  replace hok := ok_l hok hy.symm
  replace hsp := sp_l hsp hy.symm
  refine lg_X5_addFour_3 l G cs h0 a hb_ h0_length h0_tokens h0_places h0_tokenCount h0_now h0_parts h0_asOrders h0_faultPlace h0_draft bf hx hb hml hown htl hN hK hA y_3_2 y_3_h0_1 y_3_hb_ (fun H locs ls hP hD hS hl => ?_) 5 24 h0_length bf hq_1 hy _ _ _ (hP.pick (is := [0, 1]) rfl) (hD.sub [0, 1] rfl rfl) hS (lv_sub hl [0, 1, 2] rfl)
  have hP9 := hP.pick (wc := [(h0, .inr (5, [.ref hb_, .int y_3_h0_1, h0_tokens, h0_places, .int h0_tokenCount, .int h0_now, .int h0_parts, .int h0_asOrders, .int h0_faultPlace, h0_draft])), (hb_, .inl (cs 0, 400, .inl y_3_hb_))]) (is := [0, 1]) rfl
  have hD9 := hD.sub (ws' := [(h0, .inr (5, [.ref hb_, .int y_3_h0_1, h0_tokens, h0_places, .int h0_tokenCount, .int h0_now, .int h0_parts, .int h0_asOrders, .int h0_faultPlace, h0_draft])), (hb_, .inl (cs 0, 400, .inl y_3_hb_))]) [0, 1] rfl rfl
  exact W.vret hx hb hr (fun t ht hW => ⟨⟨(y_3_h0_1, y_3_hb_), rfl, hsp.symm, ⟨by rw [ht]; exact hP9, va_K.moved hW.alike hK, hD9⟩⟩, hS.F ht⟩) hS.2.2 dX5_addFour_49
