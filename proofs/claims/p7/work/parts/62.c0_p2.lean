theorem c_X0_init (l : Launch) (G : va_G) (cs : Nat → ClassId) (h0 : Nat) (sz : Nat) : Met l yX0_init (Cond.code yX0_init cX0_init 1 none :: gW) ({ frames := 1, cells := 1, slots := 64, locals := 24 }) (va_Pc [Value.ref h0] (Pre G cs [(h0, Sum.inr (0, [Value.null, Value.null, Value.null, Value.int 0, Value.int 0, Value.int 0, Value.int 0, Value.int 0, Value.int 0]))] sz)) (va_Qv (fun (u : Nat → Nat) => True) (fun (u : Nat → Nat) t => Aft G cs (va_A [(h0, Sum.inr (0, [Value.null, Value.null, Value.null, Value.int 0, Value.int 0, Value.int 0, Value.int 0, Value.int 0, Value.int 0]))] sz) [(h0, Sum.inr (0, [Value.ref (u 0), Value.null, Value.null, Value.int 0, Value.int 0, Value.int 0, Value.int 0, Value.int 0, Value.int 0])), ((u 0), Sum.inl (cs 1, 64, Sum.inr (Sum.inl (fun _ => 0))))] t) (va_A [(h0, Sum.inr (0, [Value.null, Value.null, Value.null, Value.int 0, Value.int 0, Value.int 0, Value.int 0, Value.int 0, Value.int 0]))] sz)) 1 64 (va_A [(h0, Sum.inr (0, [Value.null, Value.null, Value.null, Value.int 0, Value.int 0, Value.int 0, Value.int 0, Value.int 0, Value.int 0]))] sz) := by
  refine Met.ofW (cc := cX0_init) (maxL := 1) (ret := none) (by decide) rfl ?_
  intro p e s m args below meth c s₁ B hml hv
  obtain ⟨rfl, hsz, hP, hK, hD0, hN⟩ := hv
  have hx := B.exec
  have hb := B.bytes
  have hr := B.returns
  have hts := atoms_spec (ws := Cond.code yX0_init cX0_init 1 none :: gW) B.pre
  have htl : ∀ w ∈ gW, w.before _ s = true := fun w h => hts w (List.mem_cons_of_mem _ h)
  have hown : s.vm.findClass RX0 = some m.cls := findClass_of_methodNamed B.named
  have hlocks := B.notSynchronized
  have hin : meth.name = "<init>" := (name_of_methodNamed B.named B.method).1
  subst hsz
  have hD := hD0.self (sz := s.heap.size)
  generalize hAe : va_A [(h0, Sum.inr (0, [Value.null, Value.null, Value.null, Value.int 0, Value.int 0, Value.int 0, Value.int 0, Value.int 0, Value.int 0]))] s.heap.size = A at hD ⊢
  have hA : ∀ q : Nat, s.heap.size ≤ q → A q := fun q h => by rw [← hAe]; exact Or.inr h
  have hS : va_S A s.heap s.heap [] := va_S.rf
  have hl := lv_entry ([Value.ref h0]) (n := 1) (Nat.le_of_ble_eq_true rfl)
  rw [lg_entry_eq]
  generalize (lg_sl ([Value.ref h0]) ++ List.replicate (1 - (lg_sl ([Value.ref h0])).length) Slot.unset).toArray = ls at hl ⊢
  have hl : lv_has ls 1 [(0, Value.ref h0)] := hl
  refine lv_aload_n hx hb dX0_init_0 rfl (lv_at hl 0 rfl) ?_
  refine W.objInit hx hb hown (htl _ lk_RX0_5) (htl _ ob_i) (htl _ ob_c) rfl (by rw [hml]; exact hl.1) rfl dX0_init_1 (Nat.le_of_ble_eq_true rfl) (Nat.le_of_ble_eq_true rfl) ?_
  refine W.eq (g2 := F0 m 4 ls []) rfl ?_
  refine lv_aload_n hx hb dX0_init_4 rfl (lv_at hl 0 rfl) ?_
  refine lv_bipush (v := 64) hx hb dX0_init_5 (by decide) ?_
  refine n_newl (N₉ := 64) hx hb htl hK hP hD hS hA (by decide) (by decide) (Nat.le_of_ble_eq_true rfl) (Nat.le_of_ble_eq_true rfl) (Nat.le_of_ble_eq_true rfl) dX0_init_7 (fun q_1 H hP hD hS => ?_)
  obtain ⟨hP, hD⟩ := PD_as hP [(h0, Sum.inr (0, [Value.null, Value.null, Value.null, Value.int 0, Value.int 0, Value.int 0, Value.int 0, Value.int 0, Value.int 0])), (q_1, Sum.inl (cs 1, 64, Sum.inr (Sum.inl (fun _ => 0))))] rfl hD
  refine W.widen (k := 1) (n := 64) (by omega) (by omega) ?_
  refine va_putF (ci := 0) (v := Value.ref q_1) (ty := (.array .long)) (C := RX0) (T := TX0) (N := 9) hx hb htl inX0 tyX0 tyX0_ok nmX0 hown hK hP hD hS 0 rfl rfl 0 (by decide) (htl _ fl_RX0_11) (fun _ h9 => h9) rfl hin rfl (by decide +kernel) (by first | rfl | decide) (by first | rfl | decide) (Nat.le_of_ble_eq_true rfl) dX0_init_9 (fun H locs hP hD hS => ?_)
  obtain ⟨hP, hD⟩ := PD_as hP [(h0, Sum.inr (0, [Value.ref q_1, Value.null, Value.null, Value.int 0, Value.int 0, Value.int 0, Value.int 0, Value.int 0, Value.int 0])), (q_1, Sum.inl (cs 1, 64, Sum.inr (Sum.inl (fun _ => 0))))] rfl hD
  refine W.widen (k := 1) (n := 64) (by omega) (by omega) ?_
  obtain ⟨hP9, hD9⟩ := PD_pk hP hD [(h0, Sum.inr (0, [Value.ref q_1, Value.null, Value.null, Value.int 0, Value.int 0, Value.int 0, Value.int 0, Value.int 0, Value.int 0])), (q_1, Sum.inl (cs 1, 64, Sum.inr (Sum.inl (fun _ => 0))))] [0, 1] rfl rfl
  exact W.vret hx hb hr (fun t ht hW => ⟨⟨(fun k => match k with | 0 => q_1 | _ => 0), rfl, trivial, ⟨by rw [ht]; exact hP9, va_K.moved hW.alike hK, hD9⟩⟩, hS.F ht⟩) hS.2.2 dX0_init_12

def fl (f : Nat → Int32) (n : Nat) (v : Int32) : Nat → Int32 := fun k => if k < n then v else f k

theorem fl_0 (f : Nat → Int32) (v : Int32) : fl f 0 v = f := by
  funext k
  unfold fl
  rw [if_neg (Nat.not_lt_zero k)]

theorem fl_up {f : Nat → Int32} {i : Nat} {v : Int32} (h : i < 2 ^ 31) : upd (fl f i v) (nI i).toNatClampNeg v = fl f (i + 1) v := by
  rw [nI_clamp h]
  funext k
  unfold upd fl
  by_cases h1 : k = i
  · rw [if_pos h1, if_pos (by omega)]
  · rw [if_neg h1]
    by_cases h2 : k < i
    · rw [if_pos h2, if_pos (by omega)]
    · rw [if_neg h2, if_neg (by omega)]

theorem lp_fill40 (l : Launch) (G : va_G) (cs : Nat → ClassId) (h0 : Nat) (v : Int32) (f : Nat → Int32) {p : Program} {e : Env} {s : State} {m : MethodId} {args : Array Value} {below : List Frame} {meth : Method} {c : Code} {Q : State → Prop} {A : Nat → Prop} {H0 : Heap} (hx : p.tables.exec = Jvm.exec) (hb : c.code = cJ7_fill_53178) (hml : c.maxLocals = 4) (hown : s.vm.findClass RJ7 = some m.cls) (htl : ∀ w ∈ gW, w.before args s = true) (hN : NW s) (hK : va_K G vwCl (tyL cs) s) (hA : ∀ q, H0.size ≤ q → A q) (K : ∀ (H : Heap) (locs : List Loc) (ls : Array Slot), va_P G vwCl [(h0, Sum.inl (cs 0, 40, Sum.inl (fl f 40 v)))] H → va_D A [(h0, Sum.inl (cs 0, 40, Sum.inl (fl f 40 v)))] → va_S A H0 H locs → lv_has ls 4 [(0, Value.ref h0), (1, Value.int v), (2, Value.int (nI 40)), (3, Value.int 40)] → W p l e (headSpec (Cond.code yJ7_fill_53178 cJ7_fill_53178 4 none :: gW) ({ frames := 0, cells := 0, slots := 0, locals := 0 })).room s m args below meth c H locs 0 0 Q (F0 m 20 ls [])) : ∀ (n i : Nat), i + n = 40 → ∀ (H : Heap) (locs : List Loc) (ls : Array Slot), va_P G vwCl [(h0, Sum.inl (cs 0, 40, Sum.inl (fl f i v)))] H → va_D A [(h0, Sum.inl (cs 0, 40, Sum.inl (fl f i v)))] → va_S A H0 H locs → lv_has ls 4 [(0, Value.ref h0), (1, Value.int v), (2, Value.int (nI i)), (3, Value.int 40)] → W p l e (headSpec (Cond.code yJ7_fill_53178 cJ7_fill_53178 4 none :: gW) ({ frames := 0, cells := 0, slots := 0, locals := 0 })).room s m args below meth c H locs 0 0 Q (F0 m 5 ls []) := by
  intro n
  induction n with
  | zero =>
    intro i hi H locs ls hP hD hS hl
    obtain rfl : i = 40 := by omega
    refine lv_iload_n hx hb dJ7_fill_53178_5 rfl (lv_at hl 2 rfl) ?_
    refine lv_iload_n hx hb dJ7_fill_53178_6 rfl (lv_at hl 3 rfl) ?_
    refine lv_icmp_ge (tgt := 20) hx hb dJ7_fill_53178_7 (by decide) (fun _ => ?_) (fun h => absurd (by decide) h)
    exact K H locs ls (hP.pick (is := [0]) rfl) (hD.sub [0] rfl rfl) hS (lv_sub hl [0, 1, 2, 3] rfl)
  | succ n ih =>
    intro i hi H locs ls hP hD hS hl
    refine lv_iload_n hx hb dJ7_fill_53178_5 rfl (lv_at hl 2 rfl) ?_
    refine lv_iload_n hx hb dJ7_fill_53178_6 rfl (lv_at hl 3 rfl) ?_
    refine lv_icmp_ge (tgt := 20) hx hb dJ7_fill_53178_7 (by decide) (fun h => absurd h (nI_ge (a := i) (b := 40) (by omega) (by decide))) (fun _ => ?_)
    refine lv_aload_n hx hb dJ7_fill_53178_10 rfl (lv_at hl 0 rfl) ?_
    refine lv_iload_n hx hb dJ7_fill_53178_11 rfl (lv_at hl 2 rfl) ?_
    refine lv_iload_n hx hb dJ7_fill_53178_12 rfl (lv_at hl 1 rfl) ?_
    refine va_iast hx hb hK hP hD hS 0 0 rfl rfl (vp_in_nI (by omega) (by decide)) dJ7_fill_53178_13 (fun H locs hP hD hS => ?_)
    obtain ⟨hP, hD⟩ := PD_as hP [(h0, Sum.inl (cs 0, 40, Sum.inl (upd (fl f i v) (nI i).toNatClampNeg v)))] rfl hD
    refine lv_iinc (v := ((nI i) + 1)) hx hb dJ7_fill_53178_14 hl (k := 2) rfl (by first | rfl | decide) (by decide) (rfl : _ = ([(2, Value.int ((nI i) + 1)), (0, Value.ref h0), (1, Value.int v), (3, Value.int 40)] : List (Nat × Value))) (fun ls hl => ?_)
    refine lv_goto (tgt := 5) hx hb dJ7_fill_53178_17 (by decide) ?_
    rw [fl_up (i := i) (by omega)] at hP hD
    rw [nI_1] at hl
    exact ih (i + 1) (by omega) H locs ls (hP.pick (is := [0]) rfl) (hD.sub [0] rfl rfl) hS (lv_sub hl [1, 2, 0, 3] rfl)

theorem c_J_fill40 (l : Launch) (G : va_G) (cs : Nat → ClassId) (h0 : Nat) (v : Int32) (f : Nat → Int32) (sz : Nat) : Met l yJ7_fill_53178 (Cond.code yJ7_fill_53178 cJ7_fill_53178 4 none :: gW) ({ frames := 0, cells := 0, slots := 0, locals := 0 }) (va_Pc [Value.ref h0, Value.int v] (Pre G cs [(h0, Sum.inl (cs 0, 40, Sum.inl f))] sz)) (va_Qv (fun (u : Unit) => True) (fun (u : Unit) t => Aft G cs (va_A [(h0, Sum.inl (cs 0, 40, Sum.inl f))] sz) [(h0, Sum.inl (cs 0, 40, Sum.inl (fl f 40 v)))] t) (va_A [(h0, Sum.inl (cs 0, 40, Sum.inl f))] sz)) 0 0 (va_A [(h0, Sum.inl (cs 0, 40, Sum.inl f))] sz) := by
  refine Met.ofW (cc := cJ7_fill_53178) (maxL := 4) (ret := none) (by decide) rfl ?_
  intro p e s m args below meth c s₁ B hml hv
  obtain ⟨rfl, hsz, hP, hK, hD0, hN⟩ := hv
  have hx := B.exec
  have hb := B.bytes
  have hr := B.returns
  have hts := atoms_spec (ws := Cond.code yJ7_fill_53178 cJ7_fill_53178 4 none :: gW) B.pre
  have htl : ∀ w ∈ gW, w.before _ s = true := fun w h => hts w (List.mem_cons_of_mem _ h)
  have hown : s.vm.findClass RJ7 = some m.cls := findClass_of_methodNamed B.named
  have hlocks := B.notSynchronized
  subst hsz
  have hD := hD0.self (sz := s.heap.size)
  generalize hAe : va_A [(h0, Sum.inl (cs 0, 40, Sum.inl f))] s.heap.size = A at hD ⊢
  have hA : ∀ q : Nat, s.heap.size ≤ q → A q := fun q h => by rw [← hAe]; exact Or.inr h
  have hS : va_S A s.heap s.heap [] := va_S.rf
  have hl := lv_entry ([Value.ref h0, Value.int v]) (n := 4) (Nat.le_of_ble_eq_true rfl)
  rw [lg_entry_eq]
  generalize (lg_sl ([Value.ref h0, Value.int v]) ++ List.replicate (4 - (lg_sl ([Value.ref h0, Value.int v])).length) Slot.unset).toArray = ls at hl ⊢
  have hl : lv_has ls 4 [(0, Value.ref h0), (1, Value.int v)] := hl
  refine lv_iconst (v := 0) hx hb dJ7_fill_53178_0 (by decide) ?_
  refine lv_istore_n hx hb dJ7_fill_53178_1 rfl hl (by decide) (rfl : _ = ([(2, Value.int 0), (0, Value.ref h0), (1, Value.int v)] : List (Nat × Value))) (fun ls hl => ?_)
  refine lv_aload_n hx hb dJ7_fill_53178_2 rfl (lv_at hl 1 rfl) ?_
  refine va_alen (v := 40) hx hb hK hP 0 0 rfl rfl rfl dJ7_fill_53178_3 ?_
  refine lv_istore_n hx hb dJ7_fill_53178_4 rfl hl (by decide) (rfl : _ = ([(3, Value.int 40), (2, Value.int 0), (0, Value.ref h0), (1, Value.int v)] : List (Nat × Value))) (fun ls hl => ?_)
  have hP : va_P G vwCl [(h0, Sum.inl (cs 0, 40, Sum.inl (fl f 0 v)))] s.heap := by simp only [fl_0]; exact hP
  have hD : va_D A [(h0, Sum.inl (cs 0, 40, Sum.inl (fl f 0 v)))] := by simp only [fl_0]; exact hD
  refine lp_fill40 l G cs h0 v f hx hb hml hown htl hN hK hA (fun H locs ls hP hD hS hl => ?_) 40 0 rfl _ _ _ (hP.pick (is := [0]) rfl) (hD.sub [0] rfl rfl) hS (lv_sub hl [2, 3, 1, 0] rfl)
  obtain ⟨hP9, hD9⟩ := PD_pk hP hD [(h0, Sum.inl (cs 0, 40, Sum.inl (fl f 40 v)))] [0] rfl rfl
  exact W.vret hx hb hr (fun t ht hW => ⟨⟨(), rfl, trivial, ⟨by rw [ht]; exact hP9, va_K.moved hW.alike hK, hD9⟩⟩, hS.F ht⟩) hS.2.2 dJ7_fill_53178_20

theorem c_X6_init (l : Launch) (G : va_G) (cs : Nat → ClassId) (h0 : Nat) (sz : Nat) : Met l yX6_init (Cond.code yX6_init cX6_init 1 none :: gW) ({ frames := 1, cells := 3, slots := 120, locals := 24 }) (va_Pc [Value.ref h0] (Pre G cs [(h0, Sum.inr (6, [Value.null, Value.null, Value.null, Value.long 0]))] sz)) (va_Qv (fun (u : Nat → Nat) => True) (fun (u : Nat → Nat) t => Aft G cs (va_A [(h0, Sum.inr (6, [Value.null, Value.null, Value.null, Value.long 0]))] sz) [(h0, Sum.inr (6, [Value.ref (u 0), Value.ref (u 2), Value.ref (u 1), Value.long 0])), ((u 0), Sum.inl (cs 0, 40, Sum.inl (fun _ => 0))), ((u 1), Sum.inl (cs 0, 40, Sum.inl (fun _ => 0))), ((u 2), Sum.inl (cs 0, 40, Sum.inl (fl (fun _ => 0) 40 3)))] t) (va_A [(h0, Sum.inr (6, [Value.null, Value.null, Value.null, Value.long 0]))] sz)) 3 120 (va_A [(h0, Sum.inr (6, [Value.null, Value.null, Value.null, Value.long 0]))] sz) := by
  refine Met.ofW (cc := cX6_init) (maxL := 1) (ret := none) (by decide) rfl ?_
  intro p e s m args below meth c s₁ B hml hv
  obtain ⟨rfl, hsz, hP, hK, hD0, hN⟩ := hv
  have hx := B.exec
  have hb := B.bytes
  have hr := B.returns
  have hts := atoms_spec (ws := Cond.code yX6_init cX6_init 1 none :: gW) B.pre
  have htl : ∀ w ∈ gW, w.before _ s = true := fun w h => hts w (List.mem_cons_of_mem _ h)
  have hown : s.vm.findClass RX6 = some m.cls := findClass_of_methodNamed B.named
  have hlocks := B.notSynchronized
  have hin : meth.name = "<init>" := (name_of_methodNamed B.named B.method).1
  subst hsz
  have hD := hD0.self (sz := s.heap.size)
  generalize hAe : va_A [(h0, Sum.inr (6, [Value.null, Value.null, Value.null, Value.long 0]))] s.heap.size = A at hD ⊢
  have hA : ∀ q : Nat, s.heap.size ≤ q → A q := fun q h => by rw [← hAe]; exact Or.inr h
  have hS : va_S A s.heap s.heap [] := va_S.rf
  have hl := lv_entry ([Value.ref h0]) (n := 1) (Nat.le_of_ble_eq_true rfl)
  rw [lg_entry_eq]
  generalize (lg_sl ([Value.ref h0]) ++ List.replicate (1 - (lg_sl ([Value.ref h0])).length) Slot.unset).toArray = ls at hl ⊢
  have hl : lv_has ls 1 [(0, Value.ref h0)] := hl
  refine lv_aload_n hx hb dX6_init_0 rfl (lv_at hl 0 rfl) ?_
  refine W.objInit hx hb hown (htl _ lk_RX6_3) (htl _ ob_i) (htl _ ob_c) rfl (by rw [hml]; exact hl.1) rfl dX6_init_1 (Nat.le_of_ble_eq_true rfl) (Nat.le_of_ble_eq_true rfl) ?_
  refine W.eq (g2 := F0 m 4 ls []) rfl ?_
  refine lv_aload_n hx hb dX6_init_4 rfl (lv_at hl 0 rfl) ?_
  refine lv_bipush (v := 40) hx hb dX6_init_5 (by decide) ?_
  refine n_newi (N₉ := 40) hx hb htl hK hP hD hS hA (by decide) (by decide) (Nat.le_of_ble_eq_true rfl) (Nat.le_of_ble_eq_true rfl) (Nat.le_of_ble_eq_true rfl) dX6_init_7 (fun q_1 H hP hD hS => ?_)
  obtain ⟨hP, hD⟩ := PD_as hP [(h0, Sum.inr (6, [Value.null, Value.null, Value.null, Value.long 0])), (q_1, Sum.inl (cs 0, 40, Sum.inl (fun _ => 0)))] rfl hD
  refine W.widen (k := 1) (n := 40) (by omega) (by omega) ?_
  refine va_putF (ci := 6) (v := Value.ref q_1) (ty := (.array .int)) (C := RX6) (T := TX6) (N := 4) hx hb htl inX6 tyX6 tyX6_ok nmX6 hown hK hP hD hS 0 rfl rfl 0 (by decide) (htl _ fl_RX6_9) (fun _ h9 => h9) rfl hin rfl (by decide +kernel) (by first | rfl | decide) (by first | rfl | decide) (Nat.le_of_ble_eq_true rfl) dX6_init_9 (fun H locs hP hD hS => ?_)
  obtain ⟨hP, hD⟩ := PD_as hP [(h0, Sum.inr (6, [Value.ref q_1, Value.null, Value.null, Value.long 0])), (q_1, Sum.inl (cs 0, 40, Sum.inl (fun _ => 0)))] rfl hD
  refine lv_aload_n hx hb dX6_init_12 rfl (lv_at hl 0 rfl) ?_
  refine lv_bipush (v := 40) hx hb dX6_init_13 (by decide) ?_
  refine n_newi (N₉ := 40) hx hb htl hK hP hD hS hA (by decide) (by decide) (Nat.le_of_ble_eq_true rfl) (Nat.le_of_ble_eq_true rfl) (Nat.le_of_ble_eq_true rfl) dX6_init_15 (fun q_2 H hP hD hS => ?_)
  obtain ⟨hP, hD⟩ := PD_as hP [(h0, Sum.inr (6, [Value.ref q_1, Value.null, Value.null, Value.long 0])), (q_1, Sum.inl (cs 0, 40, Sum.inl (fun _ => 0))), (q_2, Sum.inl (cs 0, 40, Sum.inl (fun _ => 0)))] rfl hD
  refine W.widen (k := 2) (n := 80) (by omega) (by omega) ?_
  refine va_putF (ci := 6) (v := Value.ref q_2) (ty := (.array .int)) (C := RX6) (T := TX6) (N := 4) hx hb htl inX6 tyX6 tyX6_ok nmX6 hown hK hP hD hS 0 rfl rfl 1 (by decide) (htl _ fl_RX6_15) (fun _ h9 => h9) rfl hin rfl (by decide +kernel) (by first | rfl | decide) (by first | rfl | decide) (Nat.le_of_ble_eq_true rfl) dX6_init_17 (fun H locs hP hD hS => ?_)
  obtain ⟨hP, hD⟩ := PD_as hP [(h0, Sum.inr (6, [Value.ref q_1, Value.ref q_2, Value.null, Value.long 0])), (q_1, Sum.inl (cs 0, 40, Sum.inl (fun _ => 0))), (q_2, Sum.inl (cs 0, 40, Sum.inl (fun _ => 0)))] rfl hD
  refine lv_aload_n hx hb dX6_init_20 rfl (lv_at hl 0 rfl) ?_
  refine lv_bipush (v := 40) hx hb dX6_init_21 (by decide) ?_
  refine n_newi (N₉ := 40) hx hb htl hK hP hD hS hA (by decide) (by decide) (Nat.le_of_ble_eq_true rfl) (Nat.le_of_ble_eq_true rfl) (Nat.le_of_ble_eq_true rfl) dX6_init_23 (fun q_3 H hP hD hS => ?_)
  obtain ⟨hP, hD⟩ := PD_as hP [(h0, Sum.inr (6, [Value.ref q_1, Value.ref q_2, Value.null, Value.long 0])), (q_1, Sum.inl (cs 0, 40, Sum.inl (fun _ => 0))), (q_2, Sum.inl (cs 0, 40, Sum.inl (fun _ => 0))), (q_3, Sum.inl (cs 0, 40, Sum.inl (fun _ => 0)))] rfl hD
  refine W.widen (k := 3) (n := 120) (by omega) (by omega) ?_
  refine va_putF (ci := 6) (v := Value.ref q_3) (ty := (.array .int)) (C := RX6) (T := TX6) (N := 4) hx hb htl inX6 tyX6 tyX6_ok nmX6 hown hK hP hD hS 0 rfl rfl 2 (by decide) (htl _ fl_RX6_18) (fun _ h9 => h9) rfl hin rfl (by decide +kernel) (by first | rfl | decide) (by first | rfl | decide) (Nat.le_of_ble_eq_true rfl) dX6_init_25 (fun H locs hP hD hS => ?_)
  obtain ⟨hP, hD⟩ := PD_as hP [(h0, Sum.inr (6, [Value.ref q_1, Value.ref q_2, Value.ref q_3, Value.long 0])), (q_1, Sum.inl (cs 0, 40, Sum.inl (fun _ => 0))), (q_2, Sum.inl (cs 0, 40, Sum.inl (fun _ => 0))), (q_3, Sum.inl (cs 0, 40, Sum.inl (fun _ => 0)))] rfl hD
  refine lv_aload_n hx hb dX6_init_28 rfl (lv_at hl 0 rfl) ?_
  refine va_get (ci := 6) (v := Value.ref q_2) (C := RX6) (T := TX6) (N := 4) hx hb htl inX6 hown hK hP 0 rfl rfl 1 (by decide) (htl _ fl_RX6_15) (fun _ h9 => h9) rfl dX6_init_29 ?_
  refine lv_iconst (v := 3) hx hb dX6_init_32 (by decide) ?_
  refine mv (wr := [(h0, Sum.inr (6, [Value.ref q_1, Value.ref q_2, Value.ref q_3, Value.long 0])), (q_1, Sum.inl (cs 0, 40, Sum.inl (fun _ => 0))), (q_3, Sum.inl (cs 0, 40, Sum.inl (fun _ => 0)))]) (mkS (rest := []) ⟨hx, hb, hml, hown, htl⟩ hN hK hP hD (c_J_fill40 l G cs q_2 3 ((fun _ => 0)) _) [2] rfl rfl (cS 2 htl lk_RX6_21 mT_J7_fill_53178 mN_RJ7 mC_J7_fill_53178 ok_J7_fill_53178 rfl rfl ⟨(Nat.le_of_ble_eq_true rfl), (Nat.le_of_ble_eq_true rfl)⟩) rfl hl.1 rfl (Nat.le_of_ble_eq_true rfl) dX6_init_33 ⟨(Nat.le_of_ble_eq_true rfl), (Nat.le_of_ble_eq_true rfl)⟩) hP hD hS hA [2] [0, 1, 3] rfl rfl rfl (by decide) (fun u_33 H locs hw hP hD hS => ?_)
  obtain ⟨hP, hD⟩ := PD_as hP [(h0, Sum.inr (6, [Value.ref q_1, Value.ref q_2, Value.ref q_3, Value.long 0])), (q_1, Sum.inl (cs 0, 40, Sum.inl (fun _ => 0))), (q_3, Sum.inl (cs 0, 40, Sum.inl (fun _ => 0))), (q_2, Sum.inl (cs 0, 40, Sum.inl (fl (fun _ => 0) 40 3)))] rfl hD
  refine W.widen (k := 3) (n := 120) (by omega) (by omega) ?_
  obtain ⟨hP9, hD9⟩ := PD_pk hP hD [(h0, Sum.inr (6, [Value.ref q_1, Value.ref q_2, Value.ref q_3, Value.long 0])), (q_1, Sum.inl (cs 0, 40, Sum.inl (fun _ => 0))), (q_3, Sum.inl (cs 0, 40, Sum.inl (fun _ => 0))), (q_2, Sum.inl (cs 0, 40, Sum.inl (fl (fun _ => 0) 40 3)))] [0, 1, 2, 3] rfl rfl
  exact W.vret hx hb hr (fun t ht hW => ⟨⟨(fun k => match k with | 0 => q_1 | 1 => q_3 | 2 => q_2 | _ => 0), rfl, trivial, ⟨by rw [ht]; exact hP9, va_K.moved hW.alike hK, hD9⟩⟩, hS.F ht⟩) hS.2.2 dX6_init_36

theorem c_X1_init (l : Launch) (G : va_G) (cs : Nat → ClassId) (h0 : Nat) (sz : Nat) : Met l yX1_init (Cond.code yX1_init cX1_init 1 none :: gW) ({ frames := 1, cells := 2, slots := 12, locals := 24 }) (va_Pc [Value.ref h0] (Pre G cs [(h0, Sum.inr (1, [Value.null, Value.null, Value.int 0]))] sz)) (va_Qv (fun (u : Nat → Nat) => True) (fun (u : Nat → Nat) t => Aft G cs (va_A [(h0, Sum.inr (1, [Value.null, Value.null, Value.int 0]))] sz) [(h0, Sum.inr (1, [Value.ref (u 0), Value.ref (u 1), Value.int 0])), ((u 0), Sum.inl (cs 0, 6, Sum.inl (fun _ => 0))), ((u 1), Sum.inl (cs 0, 6, Sum.inl (fun _ => 0)))] t) (va_A [(h0, Sum.inr (1, [Value.null, Value.null, Value.int 0]))] sz)) 2 12 (va_A [(h0, Sum.inr (1, [Value.null, Value.null, Value.int 0]))] sz) := by
  refine Met.ofW (cc := cX1_init) (maxL := 1) (ret := none) (by decide) rfl ?_
  intro p e s m args below meth c s₁ B hml hv
  obtain ⟨rfl, hsz, hP, hK, hD0, hN⟩ := hv
  have hx := B.exec
  have hb := B.bytes
  have hr := B.returns
  have hts := atoms_spec (ws := Cond.code yX1_init cX1_init 1 none :: gW) B.pre
  have htl : ∀ w ∈ gW, w.before _ s = true := fun w h => hts w (List.mem_cons_of_mem _ h)
  have hown : s.vm.findClass RX1 = some m.cls := findClass_of_methodNamed B.named
  have hlocks := B.notSynchronized
  have hin : meth.name = "<init>" := (name_of_methodNamed B.named B.method).1
  subst hsz
  have hD := hD0.self (sz := s.heap.size)
  generalize hAe : va_A [(h0, Sum.inr (1, [Value.null, Value.null, Value.int 0]))] s.heap.size = A at hD ⊢
  have hA : ∀ q : Nat, s.heap.size ≤ q → A q := fun q h => by rw [← hAe]; exact Or.inr h
  have hS : va_S A s.heap s.heap [] := va_S.rf
  have hl := lv_entry ([Value.ref h0]) (n := 1) (Nat.le_of_ble_eq_true rfl)
  rw [lg_entry_eq]
  generalize (lg_sl ([Value.ref h0]) ++ List.replicate (1 - (lg_sl ([Value.ref h0])).length) Slot.unset).toArray = ls at hl ⊢
  have hl : lv_has ls 1 [(0, Value.ref h0)] := hl
  refine lv_aload_n hx hb dX1_init_0 rfl (lv_at hl 0 rfl) ?_
  refine W.objInit hx hb hown (htl _ lk_RX1_3) (htl _ ob_i) (htl _ ob_c) rfl (by rw [hml]; exact hl.1) rfl dX1_init_1 (Nat.le_of_ble_eq_true rfl) (Nat.le_of_ble_eq_true rfl) ?_
  refine W.eq (g2 := F0 m 4 ls []) rfl ?_
  refine lv_aload_n hx hb dX1_init_4 rfl (lv_at hl 0 rfl) ?_
  refine lv_bipush (v := 6) hx hb dX1_init_5 (by decide) ?_
  refine n_newi (N₉ := 6) hx hb htl hK hP hD hS hA (by decide) (by decide) (Nat.le_of_ble_eq_true rfl) (Nat.le_of_ble_eq_true rfl) (Nat.le_of_ble_eq_true rfl) dX1_init_7 (fun q_1 H hP hD hS => ?_)
  obtain ⟨hP, hD⟩ := PD_as hP [(h0, Sum.inr (1, [Value.null, Value.null, Value.int 0])), (q_1, Sum.inl (cs 0, 6, Sum.inl (fun _ => 0)))] rfl hD
  refine W.widen (k := 1) (n := 6) (by omega) (by omega) ?_
  refine va_putF (ci := 1) (v := Value.ref q_1) (ty := (.array .int)) (C := RX1) (T := TX1) (N := 3) hx hb htl inX1 tyX1 tyX1_ok nmX1 hown hK hP hD hS 0 rfl rfl 0 (by decide) (htl _ fl_RX1_9) (fun _ h9 => h9) rfl hin rfl (by decide +kernel) (by first | rfl | decide) (by first | rfl | decide) (Nat.le_of_ble_eq_true rfl) dX1_init_9 (fun H locs hP hD hS => ?_)
  obtain ⟨hP, hD⟩ := PD_as hP [(h0, Sum.inr (1, [Value.ref q_1, Value.null, Value.int 0])), (q_1, Sum.inl (cs 0, 6, Sum.inl (fun _ => 0)))] rfl hD
  refine lv_aload_n hx hb dX1_init_12 rfl (lv_at hl 0 rfl) ?_
  refine lv_bipush (v := 6) hx hb dX1_init_13 (by decide) ?_
  refine n_newi (N₉ := 6) hx hb htl hK hP hD hS hA (by decide) (by decide) (Nat.le_of_ble_eq_true rfl) (Nat.le_of_ble_eq_true rfl) (Nat.le_of_ble_eq_true rfl) dX1_init_15 (fun q_2 H hP hD hS => ?_)
  obtain ⟨hP, hD⟩ := PD_as hP [(h0, Sum.inr (1, [Value.ref q_1, Value.null, Value.int 0])), (q_1, Sum.inl (cs 0, 6, Sum.inl (fun _ => 0))), (q_2, Sum.inl (cs 0, 6, Sum.inl (fun _ => 0)))] rfl hD
  refine W.widen (k := 2) (n := 12) (by omega) (by omega) ?_
  refine va_putF (ci := 1) (v := Value.ref q_2) (ty := (.array .int)) (C := RX1) (T := TX1) (N := 3) hx hb htl inX1 tyX1 tyX1_ok nmX1 hown hK hP hD hS 0 rfl rfl 1 (by decide) (htl _ fl_RX1_15) (fun _ h9 => h9) rfl hin rfl (by decide +kernel) (by first | rfl | decide) (by first | rfl | decide) (Nat.le_of_ble_eq_true rfl) dX1_init_17 (fun H locs hP hD hS => ?_)
  obtain ⟨hP, hD⟩ := PD_as hP [(h0, Sum.inr (1, [Value.ref q_1, Value.ref q_2, Value.int 0])), (q_1, Sum.inl (cs 0, 6, Sum.inl (fun _ => 0))), (q_2, Sum.inl (cs 0, 6, Sum.inl (fun _ => 0)))] rfl hD
  refine W.widen (k := 2) (n := 12) (by omega) (by omega) ?_
  obtain ⟨hP9, hD9⟩ := PD_pk hP hD [(h0, Sum.inr (1, [Value.ref q_1, Value.ref q_2, Value.int 0])), (q_1, Sum.inl (cs 0, 6, Sum.inl (fun _ => 0))), (q_2, Sum.inl (cs 0, 6, Sum.inl (fun _ => 0)))] [0, 1, 2] rfl rfl
  exact W.vret hx hb hr (fun t ht hW => ⟨⟨(fun k => match k with | 0 => q_1 | 1 => q_2 | _ => 0), rfl, trivial, ⟨by rw [ht]; exact hP9, va_K.moved hW.alike hK, hD9⟩⟩, hS.F ht⟩) hS.2.2 dX1_init_20

theorem c_X4_init (l : Launch) (G : va_G) (cs : Nat → ClassId) (h0 : Nat) (sz : Nat) : Met l yX4_init (Cond.code yX4_init cX4_init 1 none :: gW) ({ frames := 1, cells := 8, slots := 58, locals := 24 }) (va_Pc [Value.ref h0] (Pre G cs [(h0, Sum.inr (4, [Value.null, Value.null, Value.int 0, Value.null, Value.null, Value.int 0, Value.int 0, Value.null, Value.null, Value.int 0, Value.null, Value.null, Value.int 0]))] sz)) (va_Qv (fun (u : Nat → Nat) => True) (fun (u : Nat → Nat) t => Aft G cs (va_A [(h0, Sum.inr (4, [Value.null, Value.null, Value.int 0, Value.null, Value.null, Value.int 0, Value.int 0, Value.null, Value.null, Value.int 0, Value.null, Value.null, Value.int 0]))] sz) [(h0, Sum.inr (4, [Value.ref (u 0), Value.ref (u 1), Value.int 0, Value.ref (u 2), Value.ref (u 3), Value.int 0, Value.int 0, Value.ref (u 4), Value.ref (u 5), Value.int 0, Value.ref (u 6), Value.ref (u 7), Value.int 0])), ((u 0), Sum.inl (cs 0, 5, Sum.inl (fun _ => 0))), ((u 1), Sum.inl (cs 0, 5, Sum.inl (fun _ => 0))), ((u 2), Sum.inl (cs 0, 6, Sum.inl (fun _ => 0))), ((u 3), Sum.inl (cs 0, 6, Sum.inl (fun _ => 0))), ((u 4), Sum.inl (cs 0, 8, Sum.inl (fun _ => 0))), ((u 5), Sum.inl (cs 0, 8, Sum.inl (fun _ => 0))), ((u 6), Sum.inl (cs 0, 10, Sum.inl (fun _ => 0))), ((u 7), Sum.inl (cs 0, 10, Sum.inl (fun _ => 0)))] t) (va_A [(h0, Sum.inr (4, [Value.null, Value.null, Value.int 0, Value.null, Value.null, Value.int 0, Value.int 0, Value.null, Value.null, Value.int 0, Value.null, Value.null, Value.int 0]))] sz)) 8 58 (va_A [(h0, Sum.inr (4, [Value.null, Value.null, Value.int 0, Value.null, Value.null, Value.int 0, Value.int 0, Value.null, Value.null, Value.int 0, Value.null, Value.null, Value.int 0]))] sz) := by
  refine Met.ofW (cc := cX4_init) (maxL := 1) (ret := none) (by decide) rfl ?_
  intro p e s m args below meth c s₁ B hml hv
  obtain ⟨rfl, hsz, hP, hK, hD0, hN⟩ := hv
  have hx := B.exec
  have hb := B.bytes
  have hr := B.returns
  have hts := atoms_spec (ws := Cond.code yX4_init cX4_init 1 none :: gW) B.pre
  have htl : ∀ w ∈ gW, w.before _ s = true := fun w h => hts w (List.mem_cons_of_mem _ h)
  have hown : s.vm.findClass RX4 = some m.cls := findClass_of_methodNamed B.named
  have hlocks := B.notSynchronized
  have hin : meth.name = "<init>" := (name_of_methodNamed B.named B.method).1
  subst hsz
  have hD := hD0.self (sz := s.heap.size)
  generalize hAe : va_A [(h0, Sum.inr (4, [Value.null, Value.null, Value.int 0, Value.null, Value.null, Value.int 0, Value.int 0, Value.null, Value.null, Value.int 0, Value.null, Value.null, Value.int 0]))] s.heap.size = A at hD ⊢
  have hA : ∀ q : Nat, s.heap.size ≤ q → A q := fun q h => by rw [← hAe]; exact Or.inr h
  have hS : va_S A s.heap s.heap [] := va_S.rf
  have hl := lv_entry ([Value.ref h0]) (n := 1) (Nat.le_of_ble_eq_true rfl)
  rw [lg_entry_eq]
  generalize (lg_sl ([Value.ref h0]) ++ List.replicate (1 - (lg_sl ([Value.ref h0])).length) Slot.unset).toArray = ls at hl ⊢
  have hl : lv_has ls 1 [(0, Value.ref h0)] := hl
  refine lv_aload_n hx hb dX4_init_0 rfl (lv_at hl 0 rfl) ?_
  refine W.objInit hx hb hown (htl _ lk_RX4_3) (htl _ ob_i) (htl _ ob_c) rfl (by rw [hml]; exact hl.1) rfl dX4_init_1 (Nat.le_of_ble_eq_true rfl) (Nat.le_of_ble_eq_true rfl) ?_
  refine W.eq (g2 := F0 m 4 ls []) rfl ?_
  refine lv_aload_n hx hb dX4_init_4 rfl (lv_at hl 0 rfl) ?_
  refine lv_iconst (v := 5) hx hb dX4_init_5 (by decide) ?_
  refine n_newi (N₉ := 5) hx hb htl hK hP hD hS hA (by decide) (by decide) (Nat.le_of_ble_eq_true rfl) (Nat.le_of_ble_eq_true rfl) (Nat.le_of_ble_eq_true rfl) dX4_init_6 (fun q_1 H hP hD hS => ?_)
  obtain ⟨hP, hD⟩ := PD_as hP [(h0, Sum.inr (4, [Value.null, Value.null, Value.int 0, Value.null, Value.null, Value.int 0, Value.int 0, Value.null, Value.null, Value.int 0, Value.null, Value.null, Value.int 0])), (q_1, Sum.inl (cs 0, 5, Sum.inl (fun _ => 0)))] rfl hD
  refine W.widen (k := 1) (n := 5) (by omega) (by omega) ?_
  refine va_putF (ci := 4) (v := Value.ref q_1) (ty := (.array .int)) (C := RX4) (T := TX4) (N := 13) hx hb htl inX4 tyX4 tyX4_ok nmX4 hown hK hP hD hS 0 rfl rfl 0 (by decide) (htl _ fl_RX4_9) (fun _ h9 => h9) rfl hin rfl (by decide +kernel) (by first | rfl | decide) (by first | rfl | decide) (Nat.le_of_ble_eq_true rfl) dX4_init_8 (fun H locs hP hD hS => ?_)
  obtain ⟨hP, hD⟩ := PD_as hP [(h0, Sum.inr (4, [Value.ref q_1, Value.null, Value.int 0, Value.null, Value.null, Value.int 0, Value.int 0, Value.null, Value.null, Value.int 0, Value.null, Value.null, Value.int 0])), (q_1, Sum.inl (cs 0, 5, Sum.inl (fun _ => 0)))] rfl hD
  refine lv_aload_n hx hb dX4_init_11 rfl (lv_at hl 0 rfl) ?_
  refine lv_iconst (v := 5) hx hb dX4_init_12 (by decide) ?_
  refine n_newi (N₉ := 5) hx hb htl hK hP hD hS hA (by decide) (by decide) (Nat.le_of_ble_eq_true rfl) (Nat.le_of_ble_eq_true rfl) (Nat.le_of_ble_eq_true rfl) dX4_init_13 (fun q_2 H hP hD hS => ?_)
  obtain ⟨hP, hD⟩ := PD_as hP [(h0, Sum.inr (4, [Value.ref q_1, Value.null, Value.int 0, Value.null, Value.null, Value.int 0, Value.int 0, Value.null, Value.null, Value.int 0, Value.null, Value.null, Value.int 0])), (q_1, Sum.inl (cs 0, 5, Sum.inl (fun _ => 0))), (q_2, Sum.inl (cs 0, 5, Sum.inl (fun _ => 0)))] rfl hD
  refine W.widen (k := 2) (n := 10) (by omega) (by omega) ?_
  refine va_putF (ci := 4) (v := Value.ref q_2) (ty := (.array .int)) (C := RX4) (T := TX4) (N := 13) hx hb htl inX4 tyX4 tyX4_ok nmX4 hown hK hP hD hS 0 rfl rfl 1 (by decide) (htl _ fl_RX4_15) (fun _ h9 => h9) rfl hin rfl (by decide +kernel) (by first | rfl | decide) (by first | rfl | decide) (Nat.le_of_ble_eq_true rfl) dX4_init_15 (fun H locs hP hD hS => ?_)
  obtain ⟨hP, hD⟩ := PD_as hP [(h0, Sum.inr (4, [Value.ref q_1, Value.ref q_2, Value.int 0, Value.null, Value.null, Value.int 0, Value.int 0, Value.null, Value.null, Value.int 0, Value.null, Value.null, Value.int 0])), (q_1, Sum.inl (cs 0, 5, Sum.inl (fun _ => 0))), (q_2, Sum.inl (cs 0, 5, Sum.inl (fun _ => 0)))] rfl hD
  refine lv_aload_n hx hb dX4_init_18 rfl (lv_at hl 0 rfl) ?_
  refine lv_bipush (v := 6) hx hb dX4_init_19 (by decide) ?_
  refine n_newi (N₉ := 6) hx hb htl hK hP hD hS hA (by decide) (by decide) (Nat.le_of_ble_eq_true rfl) (Nat.le_of_ble_eq_true rfl) (Nat.le_of_ble_eq_true rfl) dX4_init_21 (fun q_3 H hP hD hS => ?_)
  obtain ⟨hP, hD⟩ := PD_as hP [(h0, Sum.inr (4, [Value.ref q_1, Value.ref q_2, Value.int 0, Value.null, Value.null, Value.int 0, Value.int 0, Value.null, Value.null, Value.int 0, Value.null, Value.null, Value.int 0])), (q_1, Sum.inl (cs 0, 5, Sum.inl (fun _ => 0))), (q_2, Sum.inl (cs 0, 5, Sum.inl (fun _ => 0))), (q_3, Sum.inl (cs 0, 6, Sum.inl (fun _ => 0)))] rfl hD
  refine W.widen (k := 3) (n := 16) (by omega) (by omega) ?_
  refine va_putF (ci := 4) (v := Value.ref q_3) (ty := (.array .int)) (C := RX4) (T := TX4) (N := 13) hx hb htl inX4 tyX4 tyX4_ok nmX4 hown hK hP hD hS 0 rfl rfl 3 (by decide) (htl _ fl_RX4_18) (fun _ h9 => h9) rfl hin rfl (by decide +kernel) (by first | rfl | decide) (by first | rfl | decide) (Nat.le_of_ble_eq_true rfl) dX4_init_23 (fun H locs hP hD hS => ?_)
  obtain ⟨hP, hD⟩ := PD_as hP [(h0, Sum.inr (4, [Value.ref q_1, Value.ref q_2, Value.int 0, Value.ref q_3, Value.null, Value.int 0, Value.int 0, Value.null, Value.null, Value.int 0, Value.null, Value.null, Value.int 0])), (q_1, Sum.inl (cs 0, 5, Sum.inl (fun _ => 0))), (q_2, Sum.inl (cs 0, 5, Sum.inl (fun _ => 0))), (q_3, Sum.inl (cs 0, 6, Sum.inl (fun _ => 0)))] rfl hD
  refine lv_aload_n hx hb dX4_init_26 rfl (lv_at hl 0 rfl) ?_
  refine lv_bipush (v := 6) hx hb dX4_init_27 (by decide) ?_
  refine n_newi (N₉ := 6) hx hb htl hK hP hD hS hA (by decide) (by decide) (Nat.le_of_ble_eq_true rfl) (Nat.le_of_ble_eq_true rfl) (Nat.le_of_ble_eq_true rfl) dX4_init_29 (fun q_4 H hP hD hS => ?_)
  obtain ⟨hP, hD⟩ := PD_as hP [(h0, Sum.inr (4, [Value.ref q_1, Value.ref q_2, Value.int 0, Value.ref q_3, Value.null, Value.int 0, Value.int 0, Value.null, Value.null, Value.int 0, Value.null, Value.null, Value.int 0])), (q_1, Sum.inl (cs 0, 5, Sum.inl (fun _ => 0))), (q_2, Sum.inl (cs 0, 5, Sum.inl (fun _ => 0))), (q_3, Sum.inl (cs 0, 6, Sum.inl (fun _ => 0))), (q_4, Sum.inl (cs 0, 6, Sum.inl (fun _ => 0)))] rfl hD
  refine W.widen (k := 4) (n := 22) (by omega) (by omega) ?_
  refine va_putF (ci := 4) (v := Value.ref q_4) (ty := (.array .int)) (C := RX4) (T := TX4) (N := 13) hx hb htl inX4 tyX4 tyX4_ok nmX4 hown hK hP hD hS 0 rfl rfl 4 (by decide) (htl _ fl_RX4_21) (fun _ h9 => h9) rfl hin rfl (by decide +kernel) (by first | rfl | decide) (by first | rfl | decide) (Nat.le_of_ble_eq_true rfl) dX4_init_31 (fun H locs hP hD hS => ?_)
  obtain ⟨hP, hD⟩ := PD_as hP [(h0, Sum.inr (4, [Value.ref q_1, Value.ref q_2, Value.int 0, Value.ref q_3, Value.ref q_4, Value.int 0, Value.int 0, Value.null, Value.null, Value.int 0, Value.null, Value.null, Value.int 0])), (q_1, Sum.inl (cs 0, 5, Sum.inl (fun _ => 0))), (q_2, Sum.inl (cs 0, 5, Sum.inl (fun _ => 0))), (q_3, Sum.inl (cs 0, 6, Sum.inl (fun _ => 0))), (q_4, Sum.inl (cs 0, 6, Sum.inl (fun _ => 0)))] rfl hD
  refine lv_aload_n hx hb dX4_init_34 rfl (lv_at hl 0 rfl) ?_
  refine lv_bipush (v := 8) hx hb dX4_init_35 (by decide) ?_
  refine n_newi (N₉ := 8) hx hb htl hK hP hD hS hA (by decide) (by decide) (Nat.le_of_ble_eq_true rfl) (Nat.le_of_ble_eq_true rfl) (Nat.le_of_ble_eq_true rfl) dX4_init_37 (fun q_5 H hP hD hS => ?_)
  obtain ⟨hP, hD⟩ := PD_as hP [(h0, Sum.inr (4, [Value.ref q_1, Value.ref q_2, Value.int 0, Value.ref q_3, Value.ref q_4, Value.int 0, Value.int 0, Value.null, Value.null, Value.int 0, Value.null, Value.null, Value.int 0])), (q_1, Sum.inl (cs 0, 5, Sum.inl (fun _ => 0))), (q_2, Sum.inl (cs 0, 5, Sum.inl (fun _ => 0))), (q_3, Sum.inl (cs 0, 6, Sum.inl (fun _ => 0))), (q_4, Sum.inl (cs 0, 6, Sum.inl (fun _ => 0))), (q_5, Sum.inl (cs 0, 8, Sum.inl (fun _ => 0)))] rfl hD
  refine W.widen (k := 5) (n := 30) (by omega) (by omega) ?_
  refine va_putF (ci := 4) (v := Value.ref q_5) (ty := (.array .int)) (C := RX4) (T := TX4) (N := 13) hx hb htl inX4 tyX4 tyX4_ok nmX4 hown hK hP hD hS 0 rfl rfl 7 (by decide) (htl _ fl_RX4_24) (fun _ h9 => h9) rfl hin rfl (by decide +kernel) (by first | rfl | decide) (by first | rfl | decide) (Nat.le_of_ble_eq_true rfl) dX4_init_39 (fun H locs hP hD hS => ?_)
  obtain ⟨hP, hD⟩ := PD_as hP [(h0, Sum.inr (4, [Value.ref q_1, Value.ref q_2, Value.int 0, Value.ref q_3, Value.ref q_4, Value.int 0, Value.int 0, Value.ref q_5, Value.null, Value.int 0, Value.null, Value.null, Value.int 0])), (q_1, Sum.inl (cs 0, 5, Sum.inl (fun _ => 0))), (q_2, Sum.inl (cs 0, 5, Sum.inl (fun _ => 0))), (q_3, Sum.inl (cs 0, 6, Sum.inl (fun _ => 0))), (q_4, Sum.inl (cs 0, 6, Sum.inl (fun _ => 0))), (q_5, Sum.inl (cs 0, 8, Sum.inl (fun _ => 0)))] rfl hD
  refine lv_aload_n hx hb dX4_init_42 rfl (lv_at hl 0 rfl) ?_
  refine lv_bipush (v := 8) hx hb dX4_init_43 (by decide) ?_
  refine n_newi (N₉ := 8) hx hb htl hK hP hD hS hA (by decide) (by decide) (Nat.le_of_ble_eq_true rfl) (Nat.le_of_ble_eq_true rfl) (Nat.le_of_ble_eq_true rfl) dX4_init_45 (fun q_6 H hP hD hS => ?_)
  obtain ⟨hP, hD⟩ := PD_as hP [(h0, Sum.inr (4, [Value.ref q_1, Value.ref q_2, Value.int 0, Value.ref q_3, Value.ref q_4, Value.int 0, Value.int 0, Value.ref q_5, Value.null, Value.int 0, Value.null, Value.null, Value.int 0])), (q_1, Sum.inl (cs 0, 5, Sum.inl (fun _ => 0))), (q_2, Sum.inl (cs 0, 5, Sum.inl (fun _ => 0))), (q_3, Sum.inl (cs 0, 6, Sum.inl (fun _ => 0))), (q_4, Sum.inl (cs 0, 6, Sum.inl (fun _ => 0))), (q_5, Sum.inl (cs 0, 8, Sum.inl (fun _ => 0))), (q_6, Sum.inl (cs 0, 8, Sum.inl (fun _ => 0)))] rfl hD
  refine W.widen (k := 6) (n := 38) (by omega) (by omega) ?_
  refine va_putF (ci := 4) (v := Value.ref q_6) (ty := (.array .int)) (C := RX4) (T := TX4) (N := 13) hx hb htl inX4 tyX4 tyX4_ok nmX4 hown hK hP hD hS 0 rfl rfl 8 (by decide) (htl _ fl_RX4_27) (fun _ h9 => h9) rfl hin rfl (by decide +kernel) (by first | rfl | decide) (by first | rfl | decide) (Nat.le_of_ble_eq_true rfl) dX4_init_47 (fun H locs hP hD hS => ?_)
  obtain ⟨hP, hD⟩ := PD_as hP [(h0, Sum.inr (4, [Value.ref q_1, Value.ref q_2, Value.int 0, Value.ref q_3, Value.ref q_4, Value.int 0, Value.int 0, Value.ref q_5, Value.ref q_6, Value.int 0, Value.null, Value.null, Value.int 0])), (q_1, Sum.inl (cs 0, 5, Sum.inl (fun _ => 0))), (q_2, Sum.inl (cs 0, 5, Sum.inl (fun _ => 0))), (q_3, Sum.inl (cs 0, 6, Sum.inl (fun _ => 0))), (q_4, Sum.inl (cs 0, 6, Sum.inl (fun _ => 0))), (q_5, Sum.inl (cs 0, 8, Sum.inl (fun _ => 0))), (q_6, Sum.inl (cs 0, 8, Sum.inl (fun _ => 0)))] rfl hD
  refine lv_aload_n hx hb dX4_init_50 rfl (lv_at hl 0 rfl) ?_
  refine lv_bipush (v := 10) hx hb dX4_init_51 (by decide) ?_
  refine n_newi (N₉ := 10) hx hb htl hK hP hD hS hA (by decide) (by decide) (Nat.le_of_ble_eq_true rfl) (Nat.le_of_ble_eq_true rfl) (Nat.le_of_ble_eq_true rfl) dX4_init_53 (fun q_7 H hP hD hS => ?_)
  obtain ⟨hP, hD⟩ := PD_as hP [(h0, Sum.inr (4, [Value.ref q_1, Value.ref q_2, Value.int 0, Value.ref q_3, Value.ref q_4, Value.int 0, Value.int 0, Value.ref q_5, Value.ref q_6, Value.int 0, Value.null, Value.null, Value.int 0])), (q_1, Sum.inl (cs 0, 5, Sum.inl (fun _ => 0))), (q_2, Sum.inl (cs 0, 5, Sum.inl (fun _ => 0))), (q_3, Sum.inl (cs 0, 6, Sum.inl (fun _ => 0))), (q_4, Sum.inl (cs 0, 6, Sum.inl (fun _ => 0))), (q_5, Sum.inl (cs 0, 8, Sum.inl (fun _ => 0))), (q_6, Sum.inl (cs 0, 8, Sum.inl (fun _ => 0))), (q_7, Sum.inl (cs 0, 10, Sum.inl (fun _ => 0)))] rfl hD
  refine W.widen (k := 7) (n := 48) (by omega) (by omega) ?_
  refine va_putF (ci := 4) (v := Value.ref q_7) (ty := (.array .int)) (C := RX4) (T := TX4) (N := 13) hx hb htl inX4 tyX4 tyX4_ok nmX4 hown hK hP hD hS 0 rfl rfl 10 (by decide) (htl _ fl_RX4_30) (fun _ h9 => h9) rfl hin rfl (by decide +kernel) (by first | rfl | decide) (by first | rfl | decide) (Nat.le_of_ble_eq_true rfl) dX4_init_55 (fun H locs hP hD hS => ?_)
  obtain ⟨hP, hD⟩ := PD_as hP [(h0, Sum.inr (4, [Value.ref q_1, Value.ref q_2, Value.int 0, Value.ref q_3, Value.ref q_4, Value.int 0, Value.int 0, Value.ref q_5, Value.ref q_6, Value.int 0, Value.ref q_7, Value.null, Value.int 0])), (q_1, Sum.inl (cs 0, 5, Sum.inl (fun _ => 0))), (q_2, Sum.inl (cs 0, 5, Sum.inl (fun _ => 0))), (q_3, Sum.inl (cs 0, 6, Sum.inl (fun _ => 0))), (q_4, Sum.inl (cs 0, 6, Sum.inl (fun _ => 0))), (q_5, Sum.inl (cs 0, 8, Sum.inl (fun _ => 0))), (q_6, Sum.inl (cs 0, 8, Sum.inl (fun _ => 0))), (q_7, Sum.inl (cs 0, 10, Sum.inl (fun _ => 0)))] rfl hD
  refine lv_aload_n hx hb dX4_init_58 rfl (lv_at hl 0 rfl) ?_
  refine lv_bipush (v := 10) hx hb dX4_init_59 (by decide) ?_
  refine n_newi (N₉ := 10) hx hb htl hK hP hD hS hA (by decide) (by decide) (Nat.le_of_ble_eq_true rfl) (Nat.le_of_ble_eq_true rfl) (Nat.le_of_ble_eq_true rfl) dX4_init_61 (fun q_8 H hP hD hS => ?_)
  obtain ⟨hP, hD⟩ := PD_as hP [(h0, Sum.inr (4, [Value.ref q_1, Value.ref q_2, Value.int 0, Value.ref q_3, Value.ref q_4, Value.int 0, Value.int 0, Value.ref q_5, Value.ref q_6, Value.int 0, Value.ref q_7, Value.null, Value.int 0])), (q_1, Sum.inl (cs 0, 5, Sum.inl (fun _ => 0))), (q_2, Sum.inl (cs 0, 5, Sum.inl (fun _ => 0))), (q_3, Sum.inl (cs 0, 6, Sum.inl (fun _ => 0))), (q_4, Sum.inl (cs 0, 6, Sum.inl (fun _ => 0))), (q_5, Sum.inl (cs 0, 8, Sum.inl (fun _ => 0))), (q_6, Sum.inl (cs 0, 8, Sum.inl (fun _ => 0))), (q_7, Sum.inl (cs 0, 10, Sum.inl (fun _ => 0))), (q_8, Sum.inl (cs 0, 10, Sum.inl (fun _ => 0)))] rfl hD
  refine W.widen (k := 8) (n := 58) (by omega) (by omega) ?_
  refine va_putF (ci := 4) (v := Value.ref q_8) (ty := (.array .int)) (C := RX4) (T := TX4) (N := 13) hx hb htl inX4 tyX4 tyX4_ok nmX4 hown hK hP hD hS 0 rfl rfl 11 (by decide) (htl _ fl_RX4_33) (fun _ h9 => h9) rfl hin rfl (by decide +kernel) (by first | rfl | decide) (by first | rfl | decide) (Nat.le_of_ble_eq_true rfl) dX4_init_63 (fun H locs hP hD hS => ?_)
  obtain ⟨hP, hD⟩ := PD_as hP [(h0, Sum.inr (4, [Value.ref q_1, Value.ref q_2, Value.int 0, Value.ref q_3, Value.ref q_4, Value.int 0, Value.int 0, Value.ref q_5, Value.ref q_6, Value.int 0, Value.ref q_7, Value.ref q_8, Value.int 0])), (q_1, Sum.inl (cs 0, 5, Sum.inl (fun _ => 0))), (q_2, Sum.inl (cs 0, 5, Sum.inl (fun _ => 0))), (q_3, Sum.inl (cs 0, 6, Sum.inl (fun _ => 0))), (q_4, Sum.inl (cs 0, 6, Sum.inl (fun _ => 0))), (q_5, Sum.inl (cs 0, 8, Sum.inl (fun _ => 0))), (q_6, Sum.inl (cs 0, 8, Sum.inl (fun _ => 0))), (q_7, Sum.inl (cs 0, 10, Sum.inl (fun _ => 0))), (q_8, Sum.inl (cs 0, 10, Sum.inl (fun _ => 0)))] rfl hD
  refine W.widen (k := 8) (n := 58) (by omega) (by omega) ?_
  obtain ⟨hP9, hD9⟩ := PD_pk hP hD [(h0, Sum.inr (4, [Value.ref q_1, Value.ref q_2, Value.int 0, Value.ref q_3, Value.ref q_4, Value.int 0, Value.int 0, Value.ref q_5, Value.ref q_6, Value.int 0, Value.ref q_7, Value.ref q_8, Value.int 0])), (q_1, Sum.inl (cs 0, 5, Sum.inl (fun _ => 0))), (q_2, Sum.inl (cs 0, 5, Sum.inl (fun _ => 0))), (q_3, Sum.inl (cs 0, 6, Sum.inl (fun _ => 0))), (q_4, Sum.inl (cs 0, 6, Sum.inl (fun _ => 0))), (q_5, Sum.inl (cs 0, 8, Sum.inl (fun _ => 0))), (q_6, Sum.inl (cs 0, 8, Sum.inl (fun _ => 0))), (q_7, Sum.inl (cs 0, 10, Sum.inl (fun _ => 0))), (q_8, Sum.inl (cs 0, 10, Sum.inl (fun _ => 0)))] [0, 1, 2, 3, 4, 5, 6, 7, 8] rfl rfl
  exact W.vret hx hb hr (fun t ht hW => ⟨⟨(fun k => match k with | 0 => q_1 | 1 => q_2 | 2 => q_3 | 3 => q_4 | 4 => q_5 | 5 => q_6 | 6 => q_7 | 7 => q_8 | _ => 0), rfl, trivial, ⟨by rw [ht]; exact hP9, va_K.moved hW.alike hK, hD9⟩⟩, hS.F ht⟩) hS.2.2 dX4_init_66

section NEW_n_newT
variable {p : Program} {l : Launch} {e : Env} {R : Room} {s : State} {m : MethodId} {args : Array Value} {below : List Frame} {meth : Method} {c : Code} {H H0 : Heap} {locs : List Loc} {cells slots : Nat} {Q : State → Prop} {cc : ByteArray} {pc : Nat} {ls : Array Slot} {rest : List Value} {G : va_G} {cs : Nat → ClassId} {A : Nat → Prop} {ws : va_W}
theorem n_newT {own : String} {index : Nat} (hx : p.tables.exec = Jvm.exec) (hb : c.code = cc) (hown : s.vm.findClass own = some m.cls) (hcl : (Cond.classLink own index "ListenWells$Text").before args s = true) (hN0 : NW s) (hK : va_K G vwCl (tyL cs) s) (hP : va_P G vwCl ws H) (hD : va_D A ws) (hS : va_S A H0 H locs) (hA : ∀ q, H0.size ≤ q → A q) {n : Int32} {N₉ : Nat} (hn : ¬ n < 0) (hN : n.toNatClampNeg = N₉) (hbytes : N₉ * 4 ≤ 536870912) (hcells : cells + 1 ≤ R.cells) (hslots : slots + N₉ ≤ R.slots) (hdg : decode cc pc = .ok (.anewarray index, 3))
    (kk : ∀ (q : Nat) (H1 : Heap), va_P G vwCl (ws ++ [(q, Sum.inl (cs 3, N₉, Sum.inr (Sum.inr (Sum.inr (Sum.inr (fun _ => none))))))]) H1 → va_D A (ws ++ [(q, Sum.inl (cs 3, N₉, Sum.inr (Sum.inr (Sum.inr (Sum.inr (fun _ => none))))))]) → va_S A H0 H1 locs → W p l e R s m args below meth c H1 locs (cells + 1) (slots + N₉) Q (F0 m (pc + 3) ls (Value.ref q :: rest))) : W p l e R s m args below meth c H locs cells slots Q (F0 m pc ls (Value.int n :: rest)) := by
  refine va_newq hx hb hown hcl hN0.2.1 hK hP hD hS hA hn hN hbytes hcells hslots hdg (fun q cA H1 hK1 hP1 hD1 hS1 => ?_)
  obtain rfl := cA_u (k := 3) hK1 rfl
  exact kk q H1 hP1 hD1 hS1
end NEW_n_newT

theorem c_X10_init (l : Launch) (G : va_G) (cs : Nat → ClassId) (h0 : Nat) (sz : Nat) : Met l yX10_init (Cond.code yX10_init cX10_init 1 none :: gW) ({ frames := 2, cells := 18, slots := 219, locals := 44 }) (va_Pc [Value.ref h0] (Pre G cs [(h0, Sum.inr (10, [Value.null, Value.null, Value.null, Value.null, Value.null, Value.int 0, Value.int 0]))] sz)) (va_Qv (fun (u : Nat → Nat) => True) (fun (u : Nat → Nat) t => Aft G cs (va_A [(h0, Sum.inr (10, [Value.null, Value.null, Value.null, Value.null, Value.null, Value.int 0, Value.int 0]))] sz) [(h0, Sum.inr (10, [Value.ref (u 0), Value.ref (u 4), Value.ref (u 7), Value.ref (u 16), Value.ref (u 17), Value.int 0, Value.int (-1)])), ((u 0), Sum.inr (6, [Value.ref (u 1), Value.ref (u 3), Value.ref (u 2), Value.long 0])), ((u 1), Sum.inl (cs 0, 40, Sum.inl (fun _ => 0))), ((u 2), Sum.inl (cs 0, 40, Sum.inl (fun _ => 0))), ((u 3), Sum.inl (cs 0, 40, Sum.inl (fl (fun _ => 0) 40 3))), ((u 4), Sum.inr (1, [Value.ref (u 5), Value.ref (u 6), Value.int 0])), ((u 5), Sum.inl (cs 0, 6, Sum.inl (fun _ => 0))), ((u 6), Sum.inl (cs 0, 6, Sum.inl (fun _ => 0))), ((u 7), Sum.inr (4, [Value.ref (u 8), Value.ref (u 9), Value.int 0, Value.ref (u 10), Value.ref (u 11), Value.int 0, Value.int 0, Value.ref (u 12), Value.ref (u 13), Value.int 0, Value.ref (u 14), Value.ref (u 15), Value.int 0])), ((u 8), Sum.inl (cs 0, 5, Sum.inl (fun _ => 0))), ((u 9), Sum.inl (cs 0, 5, Sum.inl (fun _ => 0))), ((u 10), Sum.inl (cs 0, 6, Sum.inl (fun _ => 0))), ((u 11), Sum.inl (cs 0, 6, Sum.inl (fun _ => 0))), ((u 12), Sum.inl (cs 0, 8, Sum.inl (fun _ => 0))), ((u 13), Sum.inl (cs 0, 8, Sum.inl (fun _ => 0))), ((u 14), Sum.inl (cs 0, 10, Sum.inl (fun _ => 0))), ((u 15), Sum.inl (cs 0, 10, Sum.inl (fun _ => 0))), ((u 16), Sum.inl (cs 0, 3, Sum.inl (upd (upd (upd (fun _ => 0) 0 0) 1 2) 2 0))), ((u 17), Sum.inl (cs 3, 6, Sum.inr (Sum.inr (Sum.inr (Sum.inr (fun _ => none))))))] t) (va_A [(h0, Sum.inr (10, [Value.null, Value.null, Value.null, Value.null, Value.null, Value.int 0, Value.int 0]))] sz)) 18 219 (va_A [(h0, Sum.inr (10, [Value.null, Value.null, Value.null, Value.null, Value.null, Value.int 0, Value.int 0]))] sz) := by
  refine Met.ofW (cc := cX10_init) (maxL := 1) (ret := none) (by decide) rfl ?_
  intro p e s m args below meth c s₁ B hml hv
  obtain ⟨rfl, hsz, hP, hK, hD0, hN⟩ := hv
  have hx := B.exec
  have hb := B.bytes
  have hr := B.returns
  have hts := atoms_spec (ws := Cond.code yX10_init cX10_init 1 none :: gW) B.pre
  have htl : ∀ w ∈ gW, w.before _ s = true := fun w h => hts w (List.mem_cons_of_mem _ h)
  have hown : s.vm.findClass RX10 = some m.cls := findClass_of_methodNamed B.named
  have hlocks := B.notSynchronized
  have hin : meth.name = "<init>" := (name_of_methodNamed B.named B.method).1
  subst hsz
  have hD := hD0.self (sz := s.heap.size)
  generalize hAe : va_A [(h0, Sum.inr (10, [Value.null, Value.null, Value.null, Value.null, Value.null, Value.int 0, Value.int 0]))] s.heap.size = A at hD ⊢
  have hA : ∀ q : Nat, s.heap.size ≤ q → A q := fun q h => by rw [← hAe]; exact Or.inr h
  have hS : va_S A s.heap s.heap [] := va_S.rf
  have hl := lv_entry ([Value.ref h0]) (n := 1) (Nat.le_of_ble_eq_true rfl)
  rw [lg_entry_eq]
  generalize (lg_sl ([Value.ref h0]) ++ List.replicate (1 - (lg_sl ([Value.ref h0])).length) Slot.unset).toArray = ls at hl ⊢
  have hl : lv_has ls 1 [(0, Value.ref h0)] := hl
  refine lv_aload_n hx hb dX10_init_0 rfl (lv_at hl 0 rfl) ?_
  refine W.objInit hx hb hown (htl _ lk_RX10_3) (htl _ ob_i) (htl _ ob_c) rfl (by rw [hml]; exact hl.1) rfl dX10_init_1 (Nat.le_of_ble_eq_true rfl) (Nat.le_of_ble_eq_true rfl) ?_
  refine W.eq (g2 := F0 m 4 ls []) rfl ?_
  refine lv_aload_n hx hb dX10_init_4 rfl (lv_at hl 0 rfl) ?_
  refine va_new (ci := 6) (fs := [Value.null, Value.null, Value.null, Value.long 0]) (C := RX6) (T := TX6) (N := 4) hx hb htl inX6 tyX6 tyX6_ok hown (htl _ cl_RX10_9) (htl _ it_RX6) (htl _ mN_RX6) hK hP hD hS hA rfl (by decide +kernel) (Nat.le_of_ble_eq_true rfl) (Nat.le_of_ble_eq_true rfl) dX10_init_5 (fun q_1 H hP hD hS => ?_)
  obtain ⟨hP, hD⟩ := PD_as hP [(h0, Sum.inr (10, [Value.null, Value.null, Value.null, Value.null, Value.null, Value.int 0, Value.int 0])), (q_1, Sum.inr (6, [Value.null, Value.null, Value.null, Value.long 0]))] rfl hD
  refine W.widen (k := 1) (n := 4) (by omega) (by omega) ?_
  refine lv_dup hx hb dX10_init_8 rfl ?_
  refine mv (wr := [(h0, Sum.inr (10, [Value.null, Value.null, Value.null, Value.null, Value.null, Value.int 0, Value.int 0]))]) (mkI (rest := [Value.ref q_1, Value.ref h0]) ⟨hx, hb, hml, hown, htl⟩ hN hK hP hD (c_X6_init l G cs q_1 _) [1] rfl rfl (cI 0 htl lk_RX10_11 mI_X6_init mN_RX6 mC_X6_init rfl ok_X6_init rfl rfl ⟨(Nat.le_of_ble_eq_true rfl), (Nat.le_of_ble_eq_true rfl)⟩) rfl hl.1 rfl (Nat.le_of_ble_eq_true rfl) dX10_init_9 ⟨(Nat.le_of_ble_eq_true rfl), (Nat.le_of_ble_eq_true rfl)⟩) hP hD hS hA [1] [0] rfl rfl rfl (by decide) (fun u_9 H locs hw hP hD hS => ?_)
  obtain ⟨hP, hD⟩ := PD_as hP [(h0, Sum.inr (10, [Value.null, Value.null, Value.null, Value.null, Value.null, Value.int 0, Value.int 0])), (q_1, Sum.inr (6, [Value.ref (u_9 0), Value.ref (u_9 2), Value.ref (u_9 1), Value.long 0])), ((u_9 0), Sum.inl (cs 0, 40, Sum.inl (fun _ => 0))), ((u_9 1), Sum.inl (cs 0, 40, Sum.inl (fun _ => 0))), ((u_9 2), Sum.inl (cs 0, 40, Sum.inl (fl (fun _ => 0) 40 3)))] rfl hD
  refine W.widen (k := 4) (n := 124) (by omega) (by omega) ?_
  refine va_putF (ci := 10) (v := Value.ref q_1) (ty := (.object "ListenWells$Rock")) (C := RX10) (T := TX10) (N := 7) hx hb htl inX10 tyX10 tyX10_ok nmX10 hown hK hP hD hS 0 rfl rfl 0 (by decide) (htl _ fl_RX10_12) (fun _ h9 => h9) rfl hin rfl (by decide +kernel) (by first | rfl | decide) (by first | rfl | decide) (Nat.le_of_ble_eq_true rfl) dX10_init_12 (fun H locs hP hD hS => ?_)
  obtain ⟨hP, hD⟩ := PD_as hP [(h0, Sum.inr (10, [Value.ref q_1, Value.null, Value.null, Value.null, Value.null, Value.int 0, Value.int 0])), (q_1, Sum.inr (6, [Value.ref (u_9 0), Value.ref (u_9 2), Value.ref (u_9 1), Value.long 0])), ((u_9 0), Sum.inl (cs 0, 40, Sum.inl (fun _ => 0))), ((u_9 1), Sum.inl (cs 0, 40, Sum.inl (fun _ => 0))), ((u_9 2), Sum.inl (cs 0, 40, Sum.inl (fl (fun _ => 0) 40 3)))] rfl hD
  refine lv_aload_n hx hb dX10_init_15 rfl (lv_at hl 0 rfl) ?_
  refine va_new (ci := 1) (fs := [Value.null, Value.null, Value.int 0]) (C := RX1) (T := TX1) (N := 3) hx hb htl inX1 tyX1 tyX1_ok hown (htl _ cl_RX10_18) (htl _ it_RX1) (htl _ mN_RX1) hK hP hD hS hA rfl (by decide +kernel) (Nat.le_of_ble_eq_true rfl) (Nat.le_of_ble_eq_true rfl) dX10_init_16 (fun q_2 H hP hD hS => ?_)
  obtain ⟨hP, hD⟩ := PD_as hP [(h0, Sum.inr (10, [Value.ref q_1, Value.null, Value.null, Value.null, Value.null, Value.int 0, Value.int 0])), (q_1, Sum.inr (6, [Value.ref (u_9 0), Value.ref (u_9 2), Value.ref (u_9 1), Value.long 0])), ((u_9 0), Sum.inl (cs 0, 40, Sum.inl (fun _ => 0))), ((u_9 1), Sum.inl (cs 0, 40, Sum.inl (fun _ => 0))), ((u_9 2), Sum.inl (cs 0, 40, Sum.inl (fl (fun _ => 0) 40 3))), (q_2, Sum.inr (1, [Value.null, Value.null, Value.int 0]))] rfl hD
  refine W.widen (k := 5) (n := 127) (by omega) (by omega) ?_
  refine lv_dup hx hb dX10_init_19 rfl ?_
  refine mv (wr := [(h0, Sum.inr (10, [Value.ref q_1, Value.null, Value.null, Value.null, Value.null, Value.int 0, Value.int 0])), (q_1, Sum.inr (6, [Value.ref (u_9 0), Value.ref (u_9 2), Value.ref (u_9 1), Value.long 0])), ((u_9 0), Sum.inl (cs 0, 40, Sum.inl (fun _ => 0))), ((u_9 1), Sum.inl (cs 0, 40, Sum.inl (fun _ => 0))), ((u_9 2), Sum.inl (cs 0, 40, Sum.inl (fl (fun _ => 0) 40 3)))]) (mkIN (rest := [Value.ref q_2, Value.ref h0]) ⟨hx, hb, hml, hown, htl⟩ hN hK hP hD (c_X1_init l G cs q_2 _) [5] rfl rfl (cIN 0 htl hN nl_RX10_20 mI_X1_init mN_RX1 mC_X1_init rfl ok_X1_init rfl rfl ⟨(Nat.le_of_ble_eq_true rfl), (Nat.le_of_ble_eq_true rfl)⟩) rfl hl.1 rfl (Nat.le_of_ble_eq_true rfl) dX10_init_20 ⟨(Nat.le_of_ble_eq_true rfl), (Nat.le_of_ble_eq_true rfl)⟩) hP hD hS hA [5] [0, 1, 2, 3, 4] rfl rfl rfl (by decide) (fun u_20 H locs hw hP hD hS => ?_)
  obtain ⟨hP, hD⟩ := PD_as hP [(h0, Sum.inr (10, [Value.ref q_1, Value.null, Value.null, Value.null, Value.null, Value.int 0, Value.int 0])), (q_1, Sum.inr (6, [Value.ref (u_9 0), Value.ref (u_9 2), Value.ref (u_9 1), Value.long 0])), ((u_9 0), Sum.inl (cs 0, 40, Sum.inl (fun _ => 0))), ((u_9 1), Sum.inl (cs 0, 40, Sum.inl (fun _ => 0))), ((u_9 2), Sum.inl (cs 0, 40, Sum.inl (fl (fun _ => 0) 40 3))), (q_2, Sum.inr (1, [Value.ref (u_20 0), Value.ref (u_20 1), Value.int 0])), ((u_20 0), Sum.inl (cs 0, 6, Sum.inl (fun _ => 0))), ((u_20 1), Sum.inl (cs 0, 6, Sum.inl (fun _ => 0)))] rfl hD
  refine W.widen (k := 7) (n := 139) (by omega) (by omega) ?_
  refine va_putF (ci := 10) (v := Value.ref q_2) (ty := (.object "ListenWells$Crew")) (C := RX10) (T := TX10) (N := 7) hx hb htl inX10 tyX10 tyX10_ok nmX10 hown hK hP hD hS 0 rfl rfl 1 (by decide) (htl _ fl_RX10_21) (fun _ h9 => h9) rfl hin rfl (by decide +kernel) (by first | rfl | decide) (by first | rfl | decide) (Nat.le_of_ble_eq_true rfl) dX10_init_23 (fun H locs hP hD hS => ?_)
  obtain ⟨hP, hD⟩ := PD_as hP [(h0, Sum.inr (10, [Value.ref q_1, Value.ref q_2, Value.null, Value.null, Value.null, Value.int 0, Value.int 0])), (q_1, Sum.inr (6, [Value.ref (u_9 0), Value.ref (u_9 2), Value.ref (u_9 1), Value.long 0])), ((u_9 0), Sum.inl (cs 0, 40, Sum.inl (fun _ => 0))), ((u_9 1), Sum.inl (cs 0, 40, Sum.inl (fun _ => 0))), ((u_9 2), Sum.inl (cs 0, 40, Sum.inl (fl (fun _ => 0) 40 3))), (q_2, Sum.inr (1, [Value.ref (u_20 0), Value.ref (u_20 1), Value.int 0])), ((u_20 0), Sum.inl (cs 0, 6, Sum.inl (fun _ => 0))), ((u_20 1), Sum.inl (cs 0, 6, Sum.inl (fun _ => 0)))] rfl hD
  refine lv_aload_n hx hb dX10_init_26 rfl (lv_at hl 0 rfl) ?_
  refine va_new (ci := 4) (fs := [Value.null, Value.null, Value.int 0, Value.null, Value.null, Value.int 0, Value.int 0, Value.null, Value.null, Value.int 0, Value.null, Value.null, Value.int 0]) (C := RX4) (T := TX4) (N := 13) hx hb htl inX4 tyX4 tyX4_ok hown (htl _ cl_RX10_25) (htl _ it_RX4) (htl _ mN_RX4) hK hP hD hS hA rfl (by decide +kernel) (Nat.le_of_ble_eq_true rfl) (Nat.le_of_ble_eq_true rfl) dX10_init_27 (fun q_3 H hP hD hS => ?_)
  obtain ⟨hP, hD⟩ := PD_as hP [(h0, Sum.inr (10, [Value.ref q_1, Value.ref q_2, Value.null, Value.null, Value.null, Value.int 0, Value.int 0])), (q_1, Sum.inr (6, [Value.ref (u_9 0), Value.ref (u_9 2), Value.ref (u_9 1), Value.long 0])), ((u_9 0), Sum.inl (cs 0, 40, Sum.inl (fun _ => 0))), ((u_9 1), Sum.inl (cs 0, 40, Sum.inl (fun _ => 0))), ((u_9 2), Sum.inl (cs 0, 40, Sum.inl (fl (fun _ => 0) 40 3))), (q_2, Sum.inr (1, [Value.ref (u_20 0), Value.ref (u_20 1), Value.int 0])), ((u_20 0), Sum.inl (cs 0, 6, Sum.inl (fun _ => 0))), ((u_20 1), Sum.inl (cs 0, 6, Sum.inl (fun _ => 0))), (q_3, Sum.inr (4, [Value.null, Value.null, Value.int 0, Value.null, Value.null, Value.int 0, Value.int 0, Value.null, Value.null, Value.int 0, Value.null, Value.null, Value.int 0]))] rfl hD
  refine W.widen (k := 8) (n := 152) (by omega) (by omega) ?_
  refine lv_dup hx hb dX10_init_30 rfl ?_
  refine mv (wr := [(h0, Sum.inr (10, [Value.ref q_1, Value.ref q_2, Value.null, Value.null, Value.null, Value.int 0, Value.int 0])), (q_1, Sum.inr (6, [Value.ref (u_9 0), Value.ref (u_9 2), Value.ref (u_9 1), Value.long 0])), ((u_9 0), Sum.inl (cs 0, 40, Sum.inl (fun _ => 0))), ((u_9 1), Sum.inl (cs 0, 40, Sum.inl (fun _ => 0))), ((u_9 2), Sum.inl (cs 0, 40, Sum.inl (fl (fun _ => 0) 40 3))), (q_2, Sum.inr (1, [Value.ref (u_20 0), Value.ref (u_20 1), Value.int 0])), ((u_20 0), Sum.inl (cs 0, 6, Sum.inl (fun _ => 0))), ((u_20 1), Sum.inl (cs 0, 6, Sum.inl (fun _ => 0)))]) (mkIN (rest := [Value.ref q_3, Value.ref h0]) ⟨hx, hb, hml, hown, htl⟩ hN hK hP hD (c_X4_init l G cs q_3 _) [8] rfl rfl (cIN 0 htl hN nl_RX10_27 mI_X4_init mN_RX4 mC_X4_init rfl ok_X4_init rfl rfl ⟨(Nat.le_of_ble_eq_true rfl), (Nat.le_of_ble_eq_true rfl)⟩) rfl hl.1 rfl (Nat.le_of_ble_eq_true rfl) dX10_init_31 ⟨(Nat.le_of_ble_eq_true rfl), (Nat.le_of_ble_eq_true rfl)⟩) hP hD hS hA [8] [0, 1, 2, 3, 4, 5, 6, 7] rfl rfl rfl (by decide) (fun u_31 H locs hw hP hD hS => ?_)
  obtain ⟨hP, hD⟩ := PD_as hP [(h0, Sum.inr (10, [Value.ref q_1, Value.ref q_2, Value.null, Value.null, Value.null, Value.int 0, Value.int 0])), (q_1, Sum.inr (6, [Value.ref (u_9 0), Value.ref (u_9 2), Value.ref (u_9 1), Value.long 0])), ((u_9 0), Sum.inl (cs 0, 40, Sum.inl (fun _ => 0))), ((u_9 1), Sum.inl (cs 0, 40, Sum.inl (fun _ => 0))), ((u_9 2), Sum.inl (cs 0, 40, Sum.inl (fl (fun _ => 0) 40 3))), (q_2, Sum.inr (1, [Value.ref (u_20 0), Value.ref (u_20 1), Value.int 0])), ((u_20 0), Sum.inl (cs 0, 6, Sum.inl (fun _ => 0))), ((u_20 1), Sum.inl (cs 0, 6, Sum.inl (fun _ => 0))), (q_3, Sum.inr (4, [Value.ref (u_31 0), Value.ref (u_31 1), Value.int 0, Value.ref (u_31 2), Value.ref (u_31 3), Value.int 0, Value.int 0, Value.ref (u_31 4), Value.ref (u_31 5), Value.int 0, Value.ref (u_31 6), Value.ref (u_31 7), Value.int 0])), ((u_31 0), Sum.inl (cs 0, 5, Sum.inl (fun _ => 0))), ((u_31 1), Sum.inl (cs 0, 5, Sum.inl (fun _ => 0))), ((u_31 2), Sum.inl (cs 0, 6, Sum.inl (fun _ => 0))), ((u_31 3), Sum.inl (cs 0, 6, Sum.inl (fun _ => 0))), ((u_31 4), Sum.inl (cs 0, 8, Sum.inl (fun _ => 0))), ((u_31 5), Sum.inl (cs 0, 8, Sum.inl (fun _ => 0))), ((u_31 6), Sum.inl (cs 0, 10, Sum.inl (fun _ => 0))), ((u_31 7), Sum.inl (cs 0, 10, Sum.inl (fun _ => 0)))] rfl hD
  refine W.widen (k := 16) (n := 210) (by omega) (by omega) ?_
  refine va_putF (ci := 10) (v := Value.ref q_3) (ty := (.object "ListenWells$Folk")) (C := RX10) (T := TX10) (N := 7) hx hb htl inX10 tyX10 tyX10_ok nmX10 hown hK hP hD hS 0 rfl rfl 2 (by decide) (htl _ fl_RX10_28) (fun _ h9 => h9) rfl hin rfl (by decide +kernel) (by first | rfl | decide) (by first | rfl | decide) (Nat.le_of_ble_eq_true rfl) dX10_init_34 (fun H locs hP hD hS => ?_)
  obtain ⟨hP, hD⟩ := PD_as hP [(h0, Sum.inr (10, [Value.ref q_1, Value.ref q_2, Value.ref q_3, Value.null, Value.null, Value.int 0, Value.int 0])), (q_1, Sum.inr (6, [Value.ref (u_9 0), Value.ref (u_9 2), Value.ref (u_9 1), Value.long 0])), ((u_9 0), Sum.inl (cs 0, 40, Sum.inl (fun _ => 0))), ((u_9 1), Sum.inl (cs 0, 40, Sum.inl (fun _ => 0))), ((u_9 2), Sum.inl (cs 0, 40, Sum.inl (fl (fun _ => 0) 40 3))), (q_2, Sum.inr (1, [Value.ref (u_20 0), Value.ref (u_20 1), Value.int 0])), ((u_20 0), Sum.inl (cs 0, 6, Sum.inl (fun _ => 0))), ((u_20 1), Sum.inl (cs 0, 6, Sum.inl (fun _ => 0))), (q_3, Sum.inr (4, [Value.ref (u_31 0), Value.ref (u_31 1), Value.int 0, Value.ref (u_31 2), Value.ref (u_31 3), Value.int 0, Value.int 0, Value.ref (u_31 4), Value.ref (u_31 5), Value.int 0, Value.ref (u_31 6), Value.ref (u_31 7), Value.int 0])), ((u_31 0), Sum.inl (cs 0, 5, Sum.inl (fun _ => 0))), ((u_31 1), Sum.inl (cs 0, 5, Sum.inl (fun _ => 0))), ((u_31 2), Sum.inl (cs 0, 6, Sum.inl (fun _ => 0))), ((u_31 3), Sum.inl (cs 0, 6, Sum.inl (fun _ => 0))), ((u_31 4), Sum.inl (cs 0, 8, Sum.inl (fun _ => 0))), ((u_31 5), Sum.inl (cs 0, 8, Sum.inl (fun _ => 0))), ((u_31 6), Sum.inl (cs 0, 10, Sum.inl (fun _ => 0))), ((u_31 7), Sum.inl (cs 0, 10, Sum.inl (fun _ => 0)))] rfl hD
  refine lv_aload_n hx hb dX10_init_37 rfl (lv_at hl 0 rfl) ?_
  refine lv_iconst (v := 3) hx hb dX10_init_38 (by decide) ?_
  refine n_newi (N₉ := 3) hx hb htl hK hP hD hS hA (by decide) (by decide) (Nat.le_of_ble_eq_true rfl) (Nat.le_of_ble_eq_true rfl) (Nat.le_of_ble_eq_true rfl) dX10_init_39 (fun q_4 H hP hD hS => ?_)
  obtain ⟨hP, hD⟩ := PD_as hP [(h0, Sum.inr (10, [Value.ref q_1, Value.ref q_2, Value.ref q_3, Value.null, Value.null, Value.int 0, Value.int 0])), (q_1, Sum.inr (6, [Value.ref (u_9 0), Value.ref (u_9 2), Value.ref (u_9 1), Value.long 0])), ((u_9 0), Sum.inl (cs 0, 40, Sum.inl (fun _ => 0))), ((u_9 1), Sum.inl (cs 0, 40, Sum.inl (fun _ => 0))), ((u_9 2), Sum.inl (cs 0, 40, Sum.inl (fl (fun _ => 0) 40 3))), (q_2, Sum.inr (1, [Value.ref (u_20 0), Value.ref (u_20 1), Value.int 0])), ((u_20 0), Sum.inl (cs 0, 6, Sum.inl (fun _ => 0))), ((u_20 1), Sum.inl (cs 0, 6, Sum.inl (fun _ => 0))), (q_3, Sum.inr (4, [Value.ref (u_31 0), Value.ref (u_31 1), Value.int 0, Value.ref (u_31 2), Value.ref (u_31 3), Value.int 0, Value.int 0, Value.ref (u_31 4), Value.ref (u_31 5), Value.int 0, Value.ref (u_31 6), Value.ref (u_31 7), Value.int 0])), ((u_31 0), Sum.inl (cs 0, 5, Sum.inl (fun _ => 0))), ((u_31 1), Sum.inl (cs 0, 5, Sum.inl (fun _ => 0))), ((u_31 2), Sum.inl (cs 0, 6, Sum.inl (fun _ => 0))), ((u_31 3), Sum.inl (cs 0, 6, Sum.inl (fun _ => 0))), ((u_31 4), Sum.inl (cs 0, 8, Sum.inl (fun _ => 0))), ((u_31 5), Sum.inl (cs 0, 8, Sum.inl (fun _ => 0))), ((u_31 6), Sum.inl (cs 0, 10, Sum.inl (fun _ => 0))), ((u_31 7), Sum.inl (cs 0, 10, Sum.inl (fun _ => 0))), (q_4, Sum.inl (cs 0, 3, Sum.inl (fun _ => 0)))] rfl hD
  refine W.widen (k := 17) (n := 213) (by omega) (by omega) ?_
  refine lv_dup hx hb dX10_init_41 rfl ?_
  refine lv_iconst (v := 0) hx hb dX10_init_42 (by decide) ?_
  refine lv_iconst (v := 0) hx hb dX10_init_43 (by decide) ?_
  refine va_iast hx hb hK hP hD hS 17 0 rfl rfl (by unfold vp_in; decide) dX10_init_44 (fun H locs hP hD hS => ?_)
  obtain ⟨hP, hD⟩ := PD_as hP [(h0, Sum.inr (10, [Value.ref q_1, Value.ref q_2, Value.ref q_3, Value.null, Value.null, Value.int 0, Value.int 0])), (q_1, Sum.inr (6, [Value.ref (u_9 0), Value.ref (u_9 2), Value.ref (u_9 1), Value.long 0])), ((u_9 0), Sum.inl (cs 0, 40, Sum.inl (fun _ => 0))), ((u_9 1), Sum.inl (cs 0, 40, Sum.inl (fun _ => 0))), ((u_9 2), Sum.inl (cs 0, 40, Sum.inl (fl (fun _ => 0) 40 3))), (q_2, Sum.inr (1, [Value.ref (u_20 0), Value.ref (u_20 1), Value.int 0])), ((u_20 0), Sum.inl (cs 0, 6, Sum.inl (fun _ => 0))), ((u_20 1), Sum.inl (cs 0, 6, Sum.inl (fun _ => 0))), (q_3, Sum.inr (4, [Value.ref (u_31 0), Value.ref (u_31 1), Value.int 0, Value.ref (u_31 2), Value.ref (u_31 3), Value.int 0, Value.int 0, Value.ref (u_31 4), Value.ref (u_31 5), Value.int 0, Value.ref (u_31 6), Value.ref (u_31 7), Value.int 0])), ((u_31 0), Sum.inl (cs 0, 5, Sum.inl (fun _ => 0))), ((u_31 1), Sum.inl (cs 0, 5, Sum.inl (fun _ => 0))), ((u_31 2), Sum.inl (cs 0, 6, Sum.inl (fun _ => 0))), ((u_31 3), Sum.inl (cs 0, 6, Sum.inl (fun _ => 0))), ((u_31 4), Sum.inl (cs 0, 8, Sum.inl (fun _ => 0))), ((u_31 5), Sum.inl (cs 0, 8, Sum.inl (fun _ => 0))), ((u_31 6), Sum.inl (cs 0, 10, Sum.inl (fun _ => 0))), ((u_31 7), Sum.inl (cs 0, 10, Sum.inl (fun _ => 0))), (q_4, Sum.inl (cs 0, 3, Sum.inl (upd (fun _ => 0) 0 0)))] rfl hD
  refine lv_dup hx hb dX10_init_45 rfl ?_
  refine lv_iconst (v := 1) hx hb dX10_init_46 (by decide) ?_
  refine lv_iconst (v := 2) hx hb dX10_init_47 (by decide) ?_
  refine va_iast hx hb hK hP hD hS 17 0 rfl rfl (by unfold vp_in; decide) dX10_init_48 (fun H locs hP hD hS => ?_)
  obtain ⟨hP, hD⟩ := PD_as hP [(h0, Sum.inr (10, [Value.ref q_1, Value.ref q_2, Value.ref q_3, Value.null, Value.null, Value.int 0, Value.int 0])), (q_1, Sum.inr (6, [Value.ref (u_9 0), Value.ref (u_9 2), Value.ref (u_9 1), Value.long 0])), ((u_9 0), Sum.inl (cs 0, 40, Sum.inl (fun _ => 0))), ((u_9 1), Sum.inl (cs 0, 40, Sum.inl (fun _ => 0))), ((u_9 2), Sum.inl (cs 0, 40, Sum.inl (fl (fun _ => 0) 40 3))), (q_2, Sum.inr (1, [Value.ref (u_20 0), Value.ref (u_20 1), Value.int 0])), ((u_20 0), Sum.inl (cs 0, 6, Sum.inl (fun _ => 0))), ((u_20 1), Sum.inl (cs 0, 6, Sum.inl (fun _ => 0))), (q_3, Sum.inr (4, [Value.ref (u_31 0), Value.ref (u_31 1), Value.int 0, Value.ref (u_31 2), Value.ref (u_31 3), Value.int 0, Value.int 0, Value.ref (u_31 4), Value.ref (u_31 5), Value.int 0, Value.ref (u_31 6), Value.ref (u_31 7), Value.int 0])), ((u_31 0), Sum.inl (cs 0, 5, Sum.inl (fun _ => 0))), ((u_31 1), Sum.inl (cs 0, 5, Sum.inl (fun _ => 0))), ((u_31 2), Sum.inl (cs 0, 6, Sum.inl (fun _ => 0))), ((u_31 3), Sum.inl (cs 0, 6, Sum.inl (fun _ => 0))), ((u_31 4), Sum.inl (cs 0, 8, Sum.inl (fun _ => 0))), ((u_31 5), Sum.inl (cs 0, 8, Sum.inl (fun _ => 0))), ((u_31 6), Sum.inl (cs 0, 10, Sum.inl (fun _ => 0))), ((u_31 7), Sum.inl (cs 0, 10, Sum.inl (fun _ => 0))), (q_4, Sum.inl (cs 0, 3, Sum.inl (upd (upd (fun _ => 0) 0 0) 1 2)))] rfl hD
  refine lv_dup hx hb dX10_init_49 rfl ?_
  refine lv_iconst (v := 2) hx hb dX10_init_50 (by decide) ?_
  refine lv_iconst (v := 0) hx hb dX10_init_51 (by decide) ?_
  refine va_iast hx hb hK hP hD hS 17 0 rfl rfl (by unfold vp_in; decide) dX10_init_52 (fun H locs hP hD hS => ?_)
  obtain ⟨hP, hD⟩ := PD_as hP [(h0, Sum.inr (10, [Value.ref q_1, Value.ref q_2, Value.ref q_3, Value.null, Value.null, Value.int 0, Value.int 0])), (q_1, Sum.inr (6, [Value.ref (u_9 0), Value.ref (u_9 2), Value.ref (u_9 1), Value.long 0])), ((u_9 0), Sum.inl (cs 0, 40, Sum.inl (fun _ => 0))), ((u_9 1), Sum.inl (cs 0, 40, Sum.inl (fun _ => 0))), ((u_9 2), Sum.inl (cs 0, 40, Sum.inl (fl (fun _ => 0) 40 3))), (q_2, Sum.inr (1, [Value.ref (u_20 0), Value.ref (u_20 1), Value.int 0])), ((u_20 0), Sum.inl (cs 0, 6, Sum.inl (fun _ => 0))), ((u_20 1), Sum.inl (cs 0, 6, Sum.inl (fun _ => 0))), (q_3, Sum.inr (4, [Value.ref (u_31 0), Value.ref (u_31 1), Value.int 0, Value.ref (u_31 2), Value.ref (u_31 3), Value.int 0, Value.int 0, Value.ref (u_31 4), Value.ref (u_31 5), Value.int 0, Value.ref (u_31 6), Value.ref (u_31 7), Value.int 0])), ((u_31 0), Sum.inl (cs 0, 5, Sum.inl (fun _ => 0))), ((u_31 1), Sum.inl (cs 0, 5, Sum.inl (fun _ => 0))), ((u_31 2), Sum.inl (cs 0, 6, Sum.inl (fun _ => 0))), ((u_31 3), Sum.inl (cs 0, 6, Sum.inl (fun _ => 0))), ((u_31 4), Sum.inl (cs 0, 8, Sum.inl (fun _ => 0))), ((u_31 5), Sum.inl (cs 0, 8, Sum.inl (fun _ => 0))), ((u_31 6), Sum.inl (cs 0, 10, Sum.inl (fun _ => 0))), ((u_31 7), Sum.inl (cs 0, 10, Sum.inl (fun _ => 0))), (q_4, Sum.inl (cs 0, 3, Sum.inl (upd (upd (upd (fun _ => 0) 0 0) 1 2) 2 0)))] rfl hD
  refine va_putF (ci := 10) (v := Value.ref q_4) (ty := (.array .int)) (C := RX10) (T := TX10) (N := 7) hx hb htl inX10 tyX10 tyX10_ok nmX10 hown hK hP hD hS 0 rfl rfl 3 (by decide) (htl _ fl_RX10_32) (fun _ h9 => h9) rfl hin rfl (by decide +kernel) (by first | rfl | decide) (by first | rfl | decide) (Nat.le_of_ble_eq_true rfl) dX10_init_53 (fun H locs hP hD hS => ?_)
  obtain ⟨hP, hD⟩ := PD_as hP [(h0, Sum.inr (10, [Value.ref q_1, Value.ref q_2, Value.ref q_3, Value.ref q_4, Value.null, Value.int 0, Value.int 0])), (q_1, Sum.inr (6, [Value.ref (u_9 0), Value.ref (u_9 2), Value.ref (u_9 1), Value.long 0])), ((u_9 0), Sum.inl (cs 0, 40, Sum.inl (fun _ => 0))), ((u_9 1), Sum.inl (cs 0, 40, Sum.inl (fun _ => 0))), ((u_9 2), Sum.inl (cs 0, 40, Sum.inl (fl (fun _ => 0) 40 3))), (q_2, Sum.inr (1, [Value.ref (u_20 0), Value.ref (u_20 1), Value.int 0])), ((u_20 0), Sum.inl (cs 0, 6, Sum.inl (fun _ => 0))), ((u_20 1), Sum.inl (cs 0, 6, Sum.inl (fun _ => 0))), (q_3, Sum.inr (4, [Value.ref (u_31 0), Value.ref (u_31 1), Value.int 0, Value.ref (u_31 2), Value.ref (u_31 3), Value.int 0, Value.int 0, Value.ref (u_31 4), Value.ref (u_31 5), Value.int 0, Value.ref (u_31 6), Value.ref (u_31 7), Value.int 0])), ((u_31 0), Sum.inl (cs 0, 5, Sum.inl (fun _ => 0))), ((u_31 1), Sum.inl (cs 0, 5, Sum.inl (fun _ => 0))), ((u_31 2), Sum.inl (cs 0, 6, Sum.inl (fun _ => 0))), ((u_31 3), Sum.inl (cs 0, 6, Sum.inl (fun _ => 0))), ((u_31 4), Sum.inl (cs 0, 8, Sum.inl (fun _ => 0))), ((u_31 5), Sum.inl (cs 0, 8, Sum.inl (fun _ => 0))), ((u_31 6), Sum.inl (cs 0, 10, Sum.inl (fun _ => 0))), ((u_31 7), Sum.inl (cs 0, 10, Sum.inl (fun _ => 0))), (q_4, Sum.inl (cs 0, 3, Sum.inl (upd (upd (upd (fun _ => 0) 0 0) 1 2) 2 0)))] rfl hD
  refine lv_aload_n hx hb dX10_init_56 rfl (lv_at hl 0 rfl) ?_
  refine lv_bipush (v := 6) hx hb dX10_init_57 (by decide) ?_
  refine n_newT (N₉ := 6) hx hb hown (htl _ cl_RX10_36) hN hK hP hD hS hA (by decide) (by decide) (Nat.le_of_ble_eq_true rfl) (Nat.le_of_ble_eq_true rfl) (Nat.le_of_ble_eq_true rfl) dX10_init_59 (fun q_5 H hP hD hS => ?_)
  obtain ⟨hP, hD⟩ := PD_as hP [(h0, Sum.inr (10, [Value.ref q_1, Value.ref q_2, Value.ref q_3, Value.ref q_4, Value.null, Value.int 0, Value.int 0])), (q_1, Sum.inr (6, [Value.ref (u_9 0), Value.ref (u_9 2), Value.ref (u_9 1), Value.long 0])), ((u_9 0), Sum.inl (cs 0, 40, Sum.inl (fun _ => 0))), ((u_9 1), Sum.inl (cs 0, 40, Sum.inl (fun _ => 0))), ((u_9 2), Sum.inl (cs 0, 40, Sum.inl (fl (fun _ => 0) 40 3))), (q_2, Sum.inr (1, [Value.ref (u_20 0), Value.ref (u_20 1), Value.int 0])), ((u_20 0), Sum.inl (cs 0, 6, Sum.inl (fun _ => 0))), ((u_20 1), Sum.inl (cs 0, 6, Sum.inl (fun _ => 0))), (q_3, Sum.inr (4, [Value.ref (u_31 0), Value.ref (u_31 1), Value.int 0, Value.ref (u_31 2), Value.ref (u_31 3), Value.int 0, Value.int 0, Value.ref (u_31 4), Value.ref (u_31 5), Value.int 0, Value.ref (u_31 6), Value.ref (u_31 7), Value.int 0])), ((u_31 0), Sum.inl (cs 0, 5, Sum.inl (fun _ => 0))), ((u_31 1), Sum.inl (cs 0, 5, Sum.inl (fun _ => 0))), ((u_31 2), Sum.inl (cs 0, 6, Sum.inl (fun _ => 0))), ((u_31 3), Sum.inl (cs 0, 6, Sum.inl (fun _ => 0))), ((u_31 4), Sum.inl (cs 0, 8, Sum.inl (fun _ => 0))), ((u_31 5), Sum.inl (cs 0, 8, Sum.inl (fun _ => 0))), ((u_31 6), Sum.inl (cs 0, 10, Sum.inl (fun _ => 0))), ((u_31 7), Sum.inl (cs 0, 10, Sum.inl (fun _ => 0))), (q_4, Sum.inl (cs 0, 3, Sum.inl (upd (upd (upd (fun _ => 0) 0 0) 1 2) 2 0))), (q_5, Sum.inl (cs 3, 6, Sum.inr (Sum.inr (Sum.inr (Sum.inr (fun _ => none))))))] rfl hD
  refine W.widen (k := 18) (n := 219) (by omega) (by omega) ?_
  refine va_putF (ci := 10) (v := Value.ref q_5) (ty := (.array (.object "ListenWells$Text"))) (C := RX10) (T := TX10) (N := 7) hx hb htl inX10 tyX10 tyX10_ok nmX10 hown hK hP hD hS 0 rfl rfl 4 (by decide) (htl _ fl_RX10_38) (fun _ h9 => h9) rfl hin rfl (by decide +kernel) (by first | rfl | decide) (by first | rfl | decide) (Nat.le_of_ble_eq_true rfl) dX10_init_62 (fun H locs hP hD hS => ?_)
  obtain ⟨hP, hD⟩ := PD_as hP [(h0, Sum.inr (10, [Value.ref q_1, Value.ref q_2, Value.ref q_3, Value.ref q_4, Value.ref q_5, Value.int 0, Value.int 0])), (q_1, Sum.inr (6, [Value.ref (u_9 0), Value.ref (u_9 2), Value.ref (u_9 1), Value.long 0])), ((u_9 0), Sum.inl (cs 0, 40, Sum.inl (fun _ => 0))), ((u_9 1), Sum.inl (cs 0, 40, Sum.inl (fun _ => 0))), ((u_9 2), Sum.inl (cs 0, 40, Sum.inl (fl (fun _ => 0) 40 3))), (q_2, Sum.inr (1, [Value.ref (u_20 0), Value.ref (u_20 1), Value.int 0])), ((u_20 0), Sum.inl (cs 0, 6, Sum.inl (fun _ => 0))), ((u_20 1), Sum.inl (cs 0, 6, Sum.inl (fun _ => 0))), (q_3, Sum.inr (4, [Value.ref (u_31 0), Value.ref (u_31 1), Value.int 0, Value.ref (u_31 2), Value.ref (u_31 3), Value.int 0, Value.int 0, Value.ref (u_31 4), Value.ref (u_31 5), Value.int 0, Value.ref (u_31 6), Value.ref (u_31 7), Value.int 0])), ((u_31 0), Sum.inl (cs 0, 5, Sum.inl (fun _ => 0))), ((u_31 1), Sum.inl (cs 0, 5, Sum.inl (fun _ => 0))), ((u_31 2), Sum.inl (cs 0, 6, Sum.inl (fun _ => 0))), ((u_31 3), Sum.inl (cs 0, 6, Sum.inl (fun _ => 0))), ((u_31 4), Sum.inl (cs 0, 8, Sum.inl (fun _ => 0))), ((u_31 5), Sum.inl (cs 0, 8, Sum.inl (fun _ => 0))), ((u_31 6), Sum.inl (cs 0, 10, Sum.inl (fun _ => 0))), ((u_31 7), Sum.inl (cs 0, 10, Sum.inl (fun _ => 0))), (q_4, Sum.inl (cs 0, 3, Sum.inl (upd (upd (upd (fun _ => 0) 0 0) 1 2) 2 0))), (q_5, Sum.inl (cs 3, 6, Sum.inr (Sum.inr (Sum.inr (Sum.inr (fun _ => none))))))] rfl hD
  refine lv_aload_n hx hb dX10_init_65 rfl (lv_at hl 0 rfl) ?_
  refine lv_iconst (v := (-1)) hx hb dX10_init_66 (by decide) ?_
  refine va_put (ci := 10) (v := Value.int (-1)) (ty := .int) (C := RX10) (T := TX10) (N := 7) hx hb htl inX10 tyX10 tyX10_ok nmX10 hown hK hP hD hS 0 rfl rfl 6 (by decide) (htl _ fl_RX10_42) (fun _ h9 => h9) rfl (by decide +kernel) (by first | rfl | decide) (by first | rfl | decide) (Nat.le_of_ble_eq_true rfl) dX10_init_67 (fun H locs hP hD hS => ?_)
  obtain ⟨hP, hD⟩ := PD_as hP [(h0, Sum.inr (10, [Value.ref q_1, Value.ref q_2, Value.ref q_3, Value.ref q_4, Value.ref q_5, Value.int 0, Value.int (-1)])), (q_1, Sum.inr (6, [Value.ref (u_9 0), Value.ref (u_9 2), Value.ref (u_9 1), Value.long 0])), ((u_9 0), Sum.inl (cs 0, 40, Sum.inl (fun _ => 0))), ((u_9 1), Sum.inl (cs 0, 40, Sum.inl (fun _ => 0))), ((u_9 2), Sum.inl (cs 0, 40, Sum.inl (fl (fun _ => 0) 40 3))), (q_2, Sum.inr (1, [Value.ref (u_20 0), Value.ref (u_20 1), Value.int 0])), ((u_20 0), Sum.inl (cs 0, 6, Sum.inl (fun _ => 0))), ((u_20 1), Sum.inl (cs 0, 6, Sum.inl (fun _ => 0))), (q_3, Sum.inr (4, [Value.ref (u_31 0), Value.ref (u_31 1), Value.int 0, Value.ref (u_31 2), Value.ref (u_31 3), Value.int 0, Value.int 0, Value.ref (u_31 4), Value.ref (u_31 5), Value.int 0, Value.ref (u_31 6), Value.ref (u_31 7), Value.int 0])), ((u_31 0), Sum.inl (cs 0, 5, Sum.inl (fun _ => 0))), ((u_31 1), Sum.inl (cs 0, 5, Sum.inl (fun _ => 0))), ((u_31 2), Sum.inl (cs 0, 6, Sum.inl (fun _ => 0))), ((u_31 3), Sum.inl (cs 0, 6, Sum.inl (fun _ => 0))), ((u_31 4), Sum.inl (cs 0, 8, Sum.inl (fun _ => 0))), ((u_31 5), Sum.inl (cs 0, 8, Sum.inl (fun _ => 0))), ((u_31 6), Sum.inl (cs 0, 10, Sum.inl (fun _ => 0))), ((u_31 7), Sum.inl (cs 0, 10, Sum.inl (fun _ => 0))), (q_4, Sum.inl (cs 0, 3, Sum.inl (upd (upd (upd (fun _ => 0) 0 0) 1 2) 2 0))), (q_5, Sum.inl (cs 3, 6, Sum.inr (Sum.inr (Sum.inr (Sum.inr (fun _ => none))))))] rfl hD
  refine W.widen (k := 18) (n := 219) (by omega) (by omega) ?_
  obtain ⟨hP9, hD9⟩ := PD_pk hP hD [(h0, Sum.inr (10, [Value.ref q_1, Value.ref q_2, Value.ref q_3, Value.ref q_4, Value.ref q_5, Value.int 0, Value.int (-1)])), (q_1, Sum.inr (6, [Value.ref (u_9 0), Value.ref (u_9 2), Value.ref (u_9 1), Value.long 0])), ((u_9 0), Sum.inl (cs 0, 40, Sum.inl (fun _ => 0))), ((u_9 1), Sum.inl (cs 0, 40, Sum.inl (fun _ => 0))), ((u_9 2), Sum.inl (cs 0, 40, Sum.inl (fl (fun _ => 0) 40 3))), (q_2, Sum.inr (1, [Value.ref (u_20 0), Value.ref (u_20 1), Value.int 0])), ((u_20 0), Sum.inl (cs 0, 6, Sum.inl (fun _ => 0))), ((u_20 1), Sum.inl (cs 0, 6, Sum.inl (fun _ => 0))), (q_3, Sum.inr (4, [Value.ref (u_31 0), Value.ref (u_31 1), Value.int 0, Value.ref (u_31 2), Value.ref (u_31 3), Value.int 0, Value.int 0, Value.ref (u_31 4), Value.ref (u_31 5), Value.int 0, Value.ref (u_31 6), Value.ref (u_31 7), Value.int 0])), ((u_31 0), Sum.inl (cs 0, 5, Sum.inl (fun _ => 0))), ((u_31 1), Sum.inl (cs 0, 5, Sum.inl (fun _ => 0))), ((u_31 2), Sum.inl (cs 0, 6, Sum.inl (fun _ => 0))), ((u_31 3), Sum.inl (cs 0, 6, Sum.inl (fun _ => 0))), ((u_31 4), Sum.inl (cs 0, 8, Sum.inl (fun _ => 0))), ((u_31 5), Sum.inl (cs 0, 8, Sum.inl (fun _ => 0))), ((u_31 6), Sum.inl (cs 0, 10, Sum.inl (fun _ => 0))), ((u_31 7), Sum.inl (cs 0, 10, Sum.inl (fun _ => 0))), (q_4, Sum.inl (cs 0, 3, Sum.inl (upd (upd (upd (fun _ => 0) 0 0) 1 2) 2 0))), (q_5, Sum.inl (cs 3, 6, Sum.inr (Sum.inr (Sum.inr (Sum.inr (fun _ => none))))))] [0, 1, 2, 3, 4, 5, 6, 7, 8, 9, 10, 11, 12, 13, 14, 15, 16, 17, 18] rfl rfl
  exact W.vret hx hb hr (fun t ht hW => ⟨⟨(fun k => match k with | 0 => q_1 | 1 => (u_9 0) | 2 => (u_9 1) | 3 => (u_9 2) | 4 => q_2 | 5 => (u_20 0) | 6 => (u_20 1) | 7 => q_3 | 8 => (u_31 0) | 9 => (u_31 1) | 10 => (u_31 2) | 11 => (u_31 3) | 12 => (u_31 4) | 13 => (u_31 5) | 14 => (u_31 6) | 15 => (u_31 7) | 16 => q_4 | 17 => q_5 | _ => 0), rfl, trivial, ⟨by rw [ht]; exact hP9, va_K.moved hW.alike hK, hD9⟩⟩, hS.F ht⟩) hS.2.2 dX10_init_70

theorem c_X2_init (l : Launch) (G : va_G) (cs : Nat → ClassId) (h0 : Nat) (sz : Nat) : Met l yX2_init (Cond.code yX2_init cX2_init 1 none :: gW) ({ frames := 1, cells := 5, slots := 80, locals := 24 }) (va_Pc [Value.ref h0] (Pre G cs [(h0, Sum.inr (2, [Value.null, Value.null, Value.null, Value.null, Value.null, Value.int 0, Value.int 0]))] sz)) (va_Qv (fun (u : Nat → Nat) => True) (fun (u : Nat → Nat) t => Aft G cs (va_A [(h0, Sum.inr (2, [Value.null, Value.null, Value.null, Value.null, Value.null, Value.int 0, Value.int 0]))] sz) [(h0, Sum.inr (2, [Value.ref (u 0), Value.ref (u 1), Value.ref (u 2), Value.ref (u 3), Value.ref (u 4), Value.int 0, Value.int 15])), ((u 0), Sum.inl (cs 0, 16, Sum.inl (fun _ => 0))), ((u 1), Sum.inl (cs 0, 16, Sum.inl (fun _ => 0))), ((u 2), Sum.inl (cs 0, 16, Sum.inl (fun _ => 0))), ((u 3), Sum.inl (cs 0, 16, Sum.inl (fun _ => 0))), ((u 4), Sum.inl (cs 0, 16, Sum.inl (fun _ => 0)))] t) (va_A [(h0, Sum.inr (2, [Value.null, Value.null, Value.null, Value.null, Value.null, Value.int 0, Value.int 0]))] sz)) 5 80 (va_A [(h0, Sum.inr (2, [Value.null, Value.null, Value.null, Value.null, Value.null, Value.int 0, Value.int 0]))] sz) := by
  refine Met.ofW (cc := cX2_init) (maxL := 1) (ret := none) (by decide) rfl ?_
  intro p e s m args below meth c s₁ B hml hv
  obtain ⟨rfl, hsz, hP, hK, hD0, hN⟩ := hv
  have hx := B.exec
  have hb := B.bytes
  have hr := B.returns
  have hts := atoms_spec (ws := Cond.code yX2_init cX2_init 1 none :: gW) B.pre
  have htl : ∀ w ∈ gW, w.before _ s = true := fun w h => hts w (List.mem_cons_of_mem _ h)
  have hown : s.vm.findClass RX2 = some m.cls := findClass_of_methodNamed B.named
  have hlocks := B.notSynchronized
  have hin : meth.name = "<init>" := (name_of_methodNamed B.named B.method).1
  subst hsz
  have hD := hD0.self (sz := s.heap.size)
  generalize hAe : va_A [(h0, Sum.inr (2, [Value.null, Value.null, Value.null, Value.null, Value.null, Value.int 0, Value.int 0]))] s.heap.size = A at hD ⊢
  have hA : ∀ q : Nat, s.heap.size ≤ q → A q := fun q h => by rw [← hAe]; exact Or.inr h
  have hS : va_S A s.heap s.heap [] := va_S.rf
  have hl := lv_entry ([Value.ref h0]) (n := 1) (Nat.le_of_ble_eq_true rfl)
  rw [lg_entry_eq]
  generalize (lg_sl ([Value.ref h0]) ++ List.replicate (1 - (lg_sl ([Value.ref h0])).length) Slot.unset).toArray = ls at hl ⊢
  have hl : lv_has ls 1 [(0, Value.ref h0)] := hl
  refine lv_aload_n hx hb dX2_init_0 rfl (lv_at hl 0 rfl) ?_
  refine W.objInit hx hb hown (htl _ lk_RX2_1) (htl _ ob_i) (htl _ ob_c) rfl (by rw [hml]; exact hl.1) rfl dX2_init_1 (Nat.le_of_ble_eq_true rfl) (Nat.le_of_ble_eq_true rfl) ?_
  refine W.eq (g2 := F0 m 4 ls []) rfl ?_
  refine lv_aload_n hx hb dX2_init_4 rfl (lv_at hl 0 rfl) ?_
  refine lv_bipush (v := 16) hx hb dX2_init_5 (by decide) ?_
  refine n_newi (N₉ := 16) hx hb htl hK hP hD hS hA (by decide) (by decide) (Nat.le_of_ble_eq_true rfl) (Nat.le_of_ble_eq_true rfl) (Nat.le_of_ble_eq_true rfl) dX2_init_7 (fun q_1 H hP hD hS => ?_)
  obtain ⟨hP, hD⟩ := PD_as hP [(h0, Sum.inr (2, [Value.null, Value.null, Value.null, Value.null, Value.null, Value.int 0, Value.int 0])), (q_1, Sum.inl (cs 0, 16, Sum.inl (fun _ => 0)))] rfl hD
  refine W.widen (k := 1) (n := 16) (by omega) (by omega) ?_
  refine va_putF (ci := 2) (v := Value.ref q_1) (ty := (.array .int)) (C := RX2) (T := TX2) (N := 7) hx hb htl inX2 tyX2 tyX2_ok nmX2 hown hK hP hD hS 0 rfl rfl 0 (by decide) (htl _ fl_RX2_9) (fun _ h9 => h9) rfl hin rfl (by decide +kernel) (by first | rfl | decide) (by first | rfl | decide) (Nat.le_of_ble_eq_true rfl) dX2_init_9 (fun H locs hP hD hS => ?_)
  obtain ⟨hP, hD⟩ := PD_as hP [(h0, Sum.inr (2, [Value.ref q_1, Value.null, Value.null, Value.null, Value.null, Value.int 0, Value.int 0])), (q_1, Sum.inl (cs 0, 16, Sum.inl (fun _ => 0)))] rfl hD
  refine lv_aload_n hx hb dX2_init_12 rfl (lv_at hl 0 rfl) ?_
  refine lv_bipush (v := 16) hx hb dX2_init_13 (by decide) ?_
  refine n_newi (N₉ := 16) hx hb htl hK hP hD hS hA (by decide) (by decide) (Nat.le_of_ble_eq_true rfl) (Nat.le_of_ble_eq_true rfl) (Nat.le_of_ble_eq_true rfl) dX2_init_15 (fun q_2 H hP hD hS => ?_)
  obtain ⟨hP, hD⟩ := PD_as hP [(h0, Sum.inr (2, [Value.ref q_1, Value.null, Value.null, Value.null, Value.null, Value.int 0, Value.int 0])), (q_1, Sum.inl (cs 0, 16, Sum.inl (fun _ => 0))), (q_2, Sum.inl (cs 0, 16, Sum.inl (fun _ => 0)))] rfl hD
  refine W.widen (k := 2) (n := 32) (by omega) (by omega) ?_
  refine va_putF (ci := 2) (v := Value.ref q_2) (ty := (.array .int)) (C := RX2) (T := TX2) (N := 7) hx hb htl inX2 tyX2 tyX2_ok nmX2 hown hK hP hD hS 0 rfl rfl 1 (by decide) (htl _ fl_RX2_13) (fun _ h9 => h9) rfl hin rfl (by decide +kernel) (by first | rfl | decide) (by first | rfl | decide) (Nat.le_of_ble_eq_true rfl) dX2_init_17 (fun H locs hP hD hS => ?_)
  obtain ⟨hP, hD⟩ := PD_as hP [(h0, Sum.inr (2, [Value.ref q_1, Value.ref q_2, Value.null, Value.null, Value.null, Value.int 0, Value.int 0])), (q_1, Sum.inl (cs 0, 16, Sum.inl (fun _ => 0))), (q_2, Sum.inl (cs 0, 16, Sum.inl (fun _ => 0)))] rfl hD
  refine lv_aload_n hx hb dX2_init_20 rfl (lv_at hl 0 rfl) ?_
  refine lv_bipush (v := 16) hx hb dX2_init_21 (by decide) ?_
  refine n_newi (N₉ := 16) hx hb htl hK hP hD hS hA (by decide) (by decide) (Nat.le_of_ble_eq_true rfl) (Nat.le_of_ble_eq_true rfl) (Nat.le_of_ble_eq_true rfl) dX2_init_23 (fun q_3 H hP hD hS => ?_)
  obtain ⟨hP, hD⟩ := PD_as hP [(h0, Sum.inr (2, [Value.ref q_1, Value.ref q_2, Value.null, Value.null, Value.null, Value.int 0, Value.int 0])), (q_1, Sum.inl (cs 0, 16, Sum.inl (fun _ => 0))), (q_2, Sum.inl (cs 0, 16, Sum.inl (fun _ => 0))), (q_3, Sum.inl (cs 0, 16, Sum.inl (fun _ => 0)))] rfl hD
  refine W.widen (k := 3) (n := 48) (by omega) (by omega) ?_
  refine va_putF (ci := 2) (v := Value.ref q_3) (ty := (.array .int)) (C := RX2) (T := TX2) (N := 7) hx hb htl inX2 tyX2 tyX2_ok nmX2 hown hK hP hD hS 0 rfl rfl 2 (by decide) (htl _ fl_RX2_16) (fun _ h9 => h9) rfl hin rfl (by decide +kernel) (by first | rfl | decide) (by first | rfl | decide) (Nat.le_of_ble_eq_true rfl) dX2_init_25 (fun H locs hP hD hS => ?_)
  obtain ⟨hP, hD⟩ := PD_as hP [(h0, Sum.inr (2, [Value.ref q_1, Value.ref q_2, Value.ref q_3, Value.null, Value.null, Value.int 0, Value.int 0])), (q_1, Sum.inl (cs 0, 16, Sum.inl (fun _ => 0))), (q_2, Sum.inl (cs 0, 16, Sum.inl (fun _ => 0))), (q_3, Sum.inl (cs 0, 16, Sum.inl (fun _ => 0)))] rfl hD
  refine lv_aload_n hx hb dX2_init_28 rfl (lv_at hl 0 rfl) ?_
  refine lv_bipush (v := 16) hx hb dX2_init_29 (by decide) ?_
  refine n_newi (N₉ := 16) hx hb htl hK hP hD hS hA (by decide) (by decide) (Nat.le_of_ble_eq_true rfl) (Nat.le_of_ble_eq_true rfl) (Nat.le_of_ble_eq_true rfl) dX2_init_31 (fun q_4 H hP hD hS => ?_)
  obtain ⟨hP, hD⟩ := PD_as hP [(h0, Sum.inr (2, [Value.ref q_1, Value.ref q_2, Value.ref q_3, Value.null, Value.null, Value.int 0, Value.int 0])), (q_1, Sum.inl (cs 0, 16, Sum.inl (fun _ => 0))), (q_2, Sum.inl (cs 0, 16, Sum.inl (fun _ => 0))), (q_3, Sum.inl (cs 0, 16, Sum.inl (fun _ => 0))), (q_4, Sum.inl (cs 0, 16, Sum.inl (fun _ => 0)))] rfl hD
  refine W.widen (k := 4) (n := 64) (by omega) (by omega) ?_
  refine va_putF (ci := 2) (v := Value.ref q_4) (ty := (.array .int)) (C := RX2) (T := TX2) (N := 7) hx hb htl inX2 tyX2 tyX2_ok nmX2 hown hK hP hD hS 0 rfl rfl 3 (by decide) (htl _ fl_RX2_19) (fun _ h9 => h9) rfl hin rfl (by decide +kernel) (by first | rfl | decide) (by first | rfl | decide) (Nat.le_of_ble_eq_true rfl) dX2_init_33 (fun H locs hP hD hS => ?_)
  obtain ⟨hP, hD⟩ := PD_as hP [(h0, Sum.inr (2, [Value.ref q_1, Value.ref q_2, Value.ref q_3, Value.ref q_4, Value.null, Value.int 0, Value.int 0])), (q_1, Sum.inl (cs 0, 16, Sum.inl (fun _ => 0))), (q_2, Sum.inl (cs 0, 16, Sum.inl (fun _ => 0))), (q_3, Sum.inl (cs 0, 16, Sum.inl (fun _ => 0))), (q_4, Sum.inl (cs 0, 16, Sum.inl (fun _ => 0)))] rfl hD
  refine lv_aload_n hx hb dX2_init_36 rfl (lv_at hl 0 rfl) ?_
  refine lv_bipush (v := 16) hx hb dX2_init_37 (by decide) ?_
  refine n_newi (N₉ := 16) hx hb htl hK hP hD hS hA (by decide) (by decide) (Nat.le_of_ble_eq_true rfl) (Nat.le_of_ble_eq_true rfl) (Nat.le_of_ble_eq_true rfl) dX2_init_39 (fun q_5 H hP hD hS => ?_)
  obtain ⟨hP, hD⟩ := PD_as hP [(h0, Sum.inr (2, [Value.ref q_1, Value.ref q_2, Value.ref q_3, Value.ref q_4, Value.null, Value.int 0, Value.int 0])), (q_1, Sum.inl (cs 0, 16, Sum.inl (fun _ => 0))), (q_2, Sum.inl (cs 0, 16, Sum.inl (fun _ => 0))), (q_3, Sum.inl (cs 0, 16, Sum.inl (fun _ => 0))), (q_4, Sum.inl (cs 0, 16, Sum.inl (fun _ => 0))), (q_5, Sum.inl (cs 0, 16, Sum.inl (fun _ => 0)))] rfl hD
  refine W.widen (k := 5) (n := 80) (by omega) (by omega) ?_
  refine va_putF (ci := 2) (v := Value.ref q_5) (ty := (.array .int)) (C := RX2) (T := TX2) (N := 7) hx hb htl inX2 tyX2 tyX2_ok nmX2 hown hK hP hD hS 0 rfl rfl 4 (by decide) (htl _ fl_RX2_22) (fun _ h9 => h9) rfl hin rfl (by decide +kernel) (by first | rfl | decide) (by first | rfl | decide) (Nat.le_of_ble_eq_true rfl) dX2_init_41 (fun H locs hP hD hS => ?_)
  obtain ⟨hP, hD⟩ := PD_as hP [(h0, Sum.inr (2, [Value.ref q_1, Value.ref q_2, Value.ref q_3, Value.ref q_4, Value.ref q_5, Value.int 0, Value.int 0])), (q_1, Sum.inl (cs 0, 16, Sum.inl (fun _ => 0))), (q_2, Sum.inl (cs 0, 16, Sum.inl (fun _ => 0))), (q_3, Sum.inl (cs 0, 16, Sum.inl (fun _ => 0))), (q_4, Sum.inl (cs 0, 16, Sum.inl (fun _ => 0))), (q_5, Sum.inl (cs 0, 16, Sum.inl (fun _ => 0)))] rfl hD
  refine lv_aload_n hx hb dX2_init_44 rfl (lv_at hl 0 rfl) ?_
  refine lv_bipush (v := 15) hx hb dX2_init_45 (by decide) ?_
  refine va_put (ci := 2) (v := Value.int 15) (ty := .int) (C := RX2) (T := TX2) (N := 7) hx hb htl inX2 tyX2 tyX2_ok nmX2 hown hK hP hD hS 0 rfl rfl 6 (by decide) (htl _ fl_RX2_25) (fun _ h9 => h9) rfl (by decide +kernel) (by first | rfl | decide) (by first | rfl | decide) (Nat.le_of_ble_eq_true rfl) dX2_init_47 (fun H locs hP hD hS => ?_)
  obtain ⟨hP, hD⟩ := PD_as hP [(h0, Sum.inr (2, [Value.ref q_1, Value.ref q_2, Value.ref q_3, Value.ref q_4, Value.ref q_5, Value.int 0, Value.int 15])), (q_1, Sum.inl (cs 0, 16, Sum.inl (fun _ => 0))), (q_2, Sum.inl (cs 0, 16, Sum.inl (fun _ => 0))), (q_3, Sum.inl (cs 0, 16, Sum.inl (fun _ => 0))), (q_4, Sum.inl (cs 0, 16, Sum.inl (fun _ => 0))), (q_5, Sum.inl (cs 0, 16, Sum.inl (fun _ => 0)))] rfl hD
  refine W.widen (k := 5) (n := 80) (by omega) (by omega) ?_
  obtain ⟨hP9, hD9⟩ := PD_pk hP hD [(h0, Sum.inr (2, [Value.ref q_1, Value.ref q_2, Value.ref q_3, Value.ref q_4, Value.ref q_5, Value.int 0, Value.int 15])), (q_1, Sum.inl (cs 0, 16, Sum.inl (fun _ => 0))), (q_2, Sum.inl (cs 0, 16, Sum.inl (fun _ => 0))), (q_3, Sum.inl (cs 0, 16, Sum.inl (fun _ => 0))), (q_4, Sum.inl (cs 0, 16, Sum.inl (fun _ => 0))), (q_5, Sum.inl (cs 0, 16, Sum.inl (fun _ => 0)))] [0, 1, 2, 3, 4, 5] rfl rfl
  exact W.vret hx hb hr (fun t ht hW => ⟨⟨(fun k => match k with | 0 => q_1 | 1 => q_2 | 2 => q_3 | 3 => q_4 | 4 => q_5 | _ => 0), rfl, trivial, ⟨by rw [ht]; exact hP9, va_K.moved hW.alike hK, hD9⟩⟩, hS.F ht⟩) hS.2.2 dX2_init_50

theorem c_X7_init (l : Launch) (G : va_G) (cs : Nat → ClassId) (h0 : Nat) (aA : Nat) (sz : Nat) : Met l yX7_init (Cond.code yX7_init cX7_init 2 none :: gW) ({ frames := 3, cells := 25, slots := 313, locals := 64 }) (va_Pc [Value.ref h0, Value.ref aA] (Pre G cs [(h0, Sum.inr (7, [Value.null, Value.null, Value.null, Value.int 0, Value.int 0]))] sz)) (va_Qv (fun (u : Nat → Nat) => True) (fun (u : Nat → Nat) t => Aft G cs (va_A [(h0, Sum.inr (7, [Value.null, Value.null, Value.null, Value.int 0, Value.int 0]))] sz) [(h0, Sum.inr (7, [Value.ref (u 0), Value.ref (u 19), Value.ref aA, Value.int 0, Value.int 0])), ((u 0), Sum.inr (10, [Value.ref (u 1), Value.ref (u 5), Value.ref (u 8), Value.ref (u 17), Value.ref (u 18), Value.int 0, Value.int (-1)])), ((u 1), Sum.inr (6, [Value.ref (u 2), Value.ref (u 4), Value.ref (u 3), Value.long 0])), ((u 2), Sum.inl (cs 0, 40, Sum.inl (fun _ => 0))), ((u 3), Sum.inl (cs 0, 40, Sum.inl (fun _ => 0))), ((u 4), Sum.inl (cs 0, 40, Sum.inl (fl (fun _ => 0) 40 3))), ((u 5), Sum.inr (1, [Value.ref (u 6), Value.ref (u 7), Value.int 0])), ((u 6), Sum.inl (cs 0, 6, Sum.inl (fun _ => 0))), ((u 7), Sum.inl (cs 0, 6, Sum.inl (fun _ => 0))), ((u 8), Sum.inr (4, [Value.ref (u 9), Value.ref (u 10), Value.int 0, Value.ref (u 11), Value.ref (u 12), Value.int 0, Value.int 0, Value.ref (u 13), Value.ref (u 14), Value.int 0, Value.ref (u 15), Value.ref (u 16), Value.int 0])), ((u 9), Sum.inl (cs 0, 5, Sum.inl (fun _ => 0))), ((u 10), Sum.inl (cs 0, 5, Sum.inl (fun _ => 0))), ((u 11), Sum.inl (cs 0, 6, Sum.inl (fun _ => 0))), ((u 12), Sum.inl (cs 0, 6, Sum.inl (fun _ => 0))), ((u 13), Sum.inl (cs 0, 8, Sum.inl (fun _ => 0))), ((u 14), Sum.inl (cs 0, 8, Sum.inl (fun _ => 0))), ((u 15), Sum.inl (cs 0, 10, Sum.inl (fun _ => 0))), ((u 16), Sum.inl (cs 0, 10, Sum.inl (fun _ => 0))), ((u 17), Sum.inl (cs 0, 3, Sum.inl (upd (upd (upd (fun _ => 0) 0 0) 1 2) 2 0))), ((u 18), Sum.inl (cs 3, 6, Sum.inr (Sum.inr (Sum.inr (Sum.inr (fun _ => none)))))), ((u 19), Sum.inr (2, [Value.ref (u 20), Value.ref (u 21), Value.ref (u 22), Value.ref (u 23), Value.ref (u 24), Value.int 0, Value.int 15])), ((u 20), Sum.inl (cs 0, 16, Sum.inl (fun _ => 0))), ((u 21), Sum.inl (cs 0, 16, Sum.inl (fun _ => 0))), ((u 22), Sum.inl (cs 0, 16, Sum.inl (fun _ => 0))), ((u 23), Sum.inl (cs 0, 16, Sum.inl (fun _ => 0))), ((u 24), Sum.inl (cs 0, 16, Sum.inl (fun _ => 0)))] t) (va_A [(h0, Sum.inr (7, [Value.null, Value.null, Value.null, Value.int 0, Value.int 0]))] sz)) 25 313 (va_A [(h0, Sum.inr (7, [Value.null, Value.null, Value.null, Value.int 0, Value.int 0]))] sz) := by
  refine Met.ofW (cc := cX7_init) (maxL := 2) (ret := none) (by decide) rfl ?_
  intro p e s m args below meth c s₁ B hml hv
  obtain ⟨rfl, hsz, hP, hK, hD0, hN⟩ := hv
  have hx := B.exec
  have hb := B.bytes
  have hr := B.returns
  have hts := atoms_spec (ws := Cond.code yX7_init cX7_init 2 none :: gW) B.pre
  have htl : ∀ w ∈ gW, w.before _ s = true := fun w h => hts w (List.mem_cons_of_mem _ h)
  have hown : s.vm.findClass RX7 = some m.cls := findClass_of_methodNamed B.named
  have hlocks := B.notSynchronized
  have hin : meth.name = "<init>" := (name_of_methodNamed B.named B.method).1
  subst hsz
  have hD := hD0.self (sz := s.heap.size)
  generalize hAe : va_A [(h0, Sum.inr (7, [Value.null, Value.null, Value.null, Value.int 0, Value.int 0]))] s.heap.size = A at hD ⊢
  have hA : ∀ q : Nat, s.heap.size ≤ q → A q := fun q h => by rw [← hAe]; exact Or.inr h
  have hS : va_S A s.heap s.heap [] := va_S.rf
  have hl := lv_entry ([Value.ref h0, Value.ref aA]) (n := 2) (Nat.le_of_ble_eq_true rfl)
  rw [lg_entry_eq]
  generalize (lg_sl ([Value.ref h0, Value.ref aA]) ++ List.replicate (2 - (lg_sl ([Value.ref h0, Value.ref aA])).length) Slot.unset).toArray = ls at hl ⊢
  have hl : lv_has ls 2 [(0, Value.ref h0), (1, Value.ref aA)] := hl
  refine lv_aload_n hx hb dX7_init_0 rfl (lv_at hl 0 rfl) ?_
  refine W.objInit hx hb hown (htl _ lk_RX7_3) (htl _ ob_i) (htl _ ob_c) rfl (by rw [hml]; exact hl.1) rfl dX7_init_1 (Nat.le_of_ble_eq_true rfl) (Nat.le_of_ble_eq_true rfl) ?_
  refine W.eq (g2 := F0 m 4 ls []) rfl ?_
  refine lv_aload_n hx hb dX7_init_4 rfl (lv_at hl 0 rfl) ?_
  refine va_new (ci := 10) (fs := [Value.null, Value.null, Value.null, Value.null, Value.null, Value.int 0, Value.int 0]) (C := RX10) (T := TX10) (N := 7) hx hb htl inX10 tyX10 tyX10_ok hown (htl _ cl_RX7_9) (htl _ it_RX10) (htl _ mN_RX10) hK hP hD hS hA rfl (by decide +kernel) (Nat.le_of_ble_eq_true rfl) (Nat.le_of_ble_eq_true rfl) dX7_init_5 (fun q_1 H hP hD hS => ?_)
  obtain ⟨hP, hD⟩ := PD_as hP [(h0, Sum.inr (7, [Value.null, Value.null, Value.null, Value.int 0, Value.int 0])), (q_1, Sum.inr (10, [Value.null, Value.null, Value.null, Value.null, Value.null, Value.int 0, Value.int 0]))] rfl hD
  refine W.widen (k := 1) (n := 7) (by omega) (by omega) ?_
  refine lv_dup hx hb dX7_init_8 rfl ?_
  refine mv (wr := [(h0, Sum.inr (7, [Value.null, Value.null, Value.null, Value.int 0, Value.int 0]))]) (mkIN (rest := [Value.ref q_1, Value.ref h0]) ⟨hx, hb, hml, hown, htl⟩ hN hK hP hD (c_X10_init l G cs q_1 _) [1] rfl rfl (cIN 0 htl hN nl_RX7_11 mI_X10_init mN_RX10 mC_X10_init rfl ok_X10_init rfl rfl ⟨(Nat.le_of_ble_eq_true rfl), (Nat.le_of_ble_eq_true rfl)⟩) rfl hl.1 rfl (Nat.le_of_ble_eq_true rfl) dX7_init_9 ⟨(Nat.le_of_ble_eq_true rfl), (Nat.le_of_ble_eq_true rfl)⟩) hP hD hS hA [1] [0] rfl rfl rfl (by decide) (fun u_9 H locs hw hP hD hS => ?_)
  obtain ⟨hP, hD⟩ := PD_as hP [(h0, Sum.inr (7, [Value.null, Value.null, Value.null, Value.int 0, Value.int 0])), (q_1, Sum.inr (10, [Value.ref (u_9 0), Value.ref (u_9 4), Value.ref (u_9 7), Value.ref (u_9 16), Value.ref (u_9 17), Value.int 0, Value.int (-1)])), ((u_9 0), Sum.inr (6, [Value.ref (u_9 1), Value.ref (u_9 3), Value.ref (u_9 2), Value.long 0])), ((u_9 1), Sum.inl (cs 0, 40, Sum.inl (fun _ => 0))), ((u_9 2), Sum.inl (cs 0, 40, Sum.inl (fun _ => 0))), ((u_9 3), Sum.inl (cs 0, 40, Sum.inl (fl (fun _ => 0) 40 3))), ((u_9 4), Sum.inr (1, [Value.ref (u_9 5), Value.ref (u_9 6), Value.int 0])), ((u_9 5), Sum.inl (cs 0, 6, Sum.inl (fun _ => 0))), ((u_9 6), Sum.inl (cs 0, 6, Sum.inl (fun _ => 0))), ((u_9 7), Sum.inr (4, [Value.ref (u_9 8), Value.ref (u_9 9), Value.int 0, Value.ref (u_9 10), Value.ref (u_9 11), Value.int 0, Value.int 0, Value.ref (u_9 12), Value.ref (u_9 13), Value.int 0, Value.ref (u_9 14), Value.ref (u_9 15), Value.int 0])), ((u_9 8), Sum.inl (cs 0, 5, Sum.inl (fun _ => 0))), ((u_9 9), Sum.inl (cs 0, 5, Sum.inl (fun _ => 0))), ((u_9 10), Sum.inl (cs 0, 6, Sum.inl (fun _ => 0))), ((u_9 11), Sum.inl (cs 0, 6, Sum.inl (fun _ => 0))), ((u_9 12), Sum.inl (cs 0, 8, Sum.inl (fun _ => 0))), ((u_9 13), Sum.inl (cs 0, 8, Sum.inl (fun _ => 0))), ((u_9 14), Sum.inl (cs 0, 10, Sum.inl (fun _ => 0))), ((u_9 15), Sum.inl (cs 0, 10, Sum.inl (fun _ => 0))), ((u_9 16), Sum.inl (cs 0, 3, Sum.inl (upd (upd (upd (fun _ => 0) 0 0) 1 2) 2 0))), ((u_9 17), Sum.inl (cs 3, 6, Sum.inr (Sum.inr (Sum.inr (Sum.inr (fun _ => none))))))] rfl hD
  refine W.widen (k := 19) (n := 226) (by omega) (by omega) ?_
  refine va_putF (ci := 7) (v := Value.ref q_1) (ty := (.object "ListenWells$World")) (C := RX7) (T := TX7) (N := 5) hx hb htl inX7 tyX7 tyX7_ok nmX7 hown hK hP hD hS 0 rfl rfl 0 (by decide) (htl _ fl_RX7_12) (fun _ h9 => h9) rfl hin rfl (by decide +kernel) (by first | rfl | decide) (by first | rfl | decide) (Nat.le_of_ble_eq_true rfl) dX7_init_12 (fun H locs hP hD hS => ?_)
  obtain ⟨hP, hD⟩ := PD_as hP [(h0, Sum.inr (7, [Value.ref q_1, Value.null, Value.null, Value.int 0, Value.int 0])), (q_1, Sum.inr (10, [Value.ref (u_9 0), Value.ref (u_9 4), Value.ref (u_9 7), Value.ref (u_9 16), Value.ref (u_9 17), Value.int 0, Value.int (-1)])), ((u_9 0), Sum.inr (6, [Value.ref (u_9 1), Value.ref (u_9 3), Value.ref (u_9 2), Value.long 0])), ((u_9 1), Sum.inl (cs 0, 40, Sum.inl (fun _ => 0))), ((u_9 2), Sum.inl (cs 0, 40, Sum.inl (fun _ => 0))), ((u_9 3), Sum.inl (cs 0, 40, Sum.inl (fl (fun _ => 0) 40 3))), ((u_9 4), Sum.inr (1, [Value.ref (u_9 5), Value.ref (u_9 6), Value.int 0])), ((u_9 5), Sum.inl (cs 0, 6, Sum.inl (fun _ => 0))), ((u_9 6), Sum.inl (cs 0, 6, Sum.inl (fun _ => 0))), ((u_9 7), Sum.inr (4, [Value.ref (u_9 8), Value.ref (u_9 9), Value.int 0, Value.ref (u_9 10), Value.ref (u_9 11), Value.int 0, Value.int 0, Value.ref (u_9 12), Value.ref (u_9 13), Value.int 0, Value.ref (u_9 14), Value.ref (u_9 15), Value.int 0])), ((u_9 8), Sum.inl (cs 0, 5, Sum.inl (fun _ => 0))), ((u_9 9), Sum.inl (cs 0, 5, Sum.inl (fun _ => 0))), ((u_9 10), Sum.inl (cs 0, 6, Sum.inl (fun _ => 0))), ((u_9 11), Sum.inl (cs 0, 6, Sum.inl (fun _ => 0))), ((u_9 12), Sum.inl (cs 0, 8, Sum.inl (fun _ => 0))), ((u_9 13), Sum.inl (cs 0, 8, Sum.inl (fun _ => 0))), ((u_9 14), Sum.inl (cs 0, 10, Sum.inl (fun _ => 0))), ((u_9 15), Sum.inl (cs 0, 10, Sum.inl (fun _ => 0))), ((u_9 16), Sum.inl (cs 0, 3, Sum.inl (upd (upd (upd (fun _ => 0) 0 0) 1 2) 2 0))), ((u_9 17), Sum.inl (cs 3, 6, Sum.inr (Sum.inr (Sum.inr (Sum.inr (fun _ => none))))))] rfl hD
  refine lv_aload_n hx hb dX7_init_15 rfl (lv_at hl 0 rfl) ?_
  refine va_new (ci := 2) (fs := [Value.null, Value.null, Value.null, Value.null, Value.null, Value.int 0, Value.int 0]) (C := RX2) (T := TX2) (N := 7) hx hb htl inX2 tyX2 tyX2_ok hown (htl _ cl_RX7_18) (htl _ it_RX2) (htl _ mN_RX2) hK hP hD hS hA rfl (by decide +kernel) (Nat.le_of_ble_eq_true rfl) (Nat.le_of_ble_eq_true rfl) dX7_init_16 (fun q_2 H hP hD hS => ?_)
  obtain ⟨hP, hD⟩ := PD_as hP [(h0, Sum.inr (7, [Value.ref q_1, Value.null, Value.null, Value.int 0, Value.int 0])), (q_1, Sum.inr (10, [Value.ref (u_9 0), Value.ref (u_9 4), Value.ref (u_9 7), Value.ref (u_9 16), Value.ref (u_9 17), Value.int 0, Value.int (-1)])), ((u_9 0), Sum.inr (6, [Value.ref (u_9 1), Value.ref (u_9 3), Value.ref (u_9 2), Value.long 0])), ((u_9 1), Sum.inl (cs 0, 40, Sum.inl (fun _ => 0))), ((u_9 2), Sum.inl (cs 0, 40, Sum.inl (fun _ => 0))), ((u_9 3), Sum.inl (cs 0, 40, Sum.inl (fl (fun _ => 0) 40 3))), ((u_9 4), Sum.inr (1, [Value.ref (u_9 5), Value.ref (u_9 6), Value.int 0])), ((u_9 5), Sum.inl (cs 0, 6, Sum.inl (fun _ => 0))), ((u_9 6), Sum.inl (cs 0, 6, Sum.inl (fun _ => 0))), ((u_9 7), Sum.inr (4, [Value.ref (u_9 8), Value.ref (u_9 9), Value.int 0, Value.ref (u_9 10), Value.ref (u_9 11), Value.int 0, Value.int 0, Value.ref (u_9 12), Value.ref (u_9 13), Value.int 0, Value.ref (u_9 14), Value.ref (u_9 15), Value.int 0])), ((u_9 8), Sum.inl (cs 0, 5, Sum.inl (fun _ => 0))), ((u_9 9), Sum.inl (cs 0, 5, Sum.inl (fun _ => 0))), ((u_9 10), Sum.inl (cs 0, 6, Sum.inl (fun _ => 0))), ((u_9 11), Sum.inl (cs 0, 6, Sum.inl (fun _ => 0))), ((u_9 12), Sum.inl (cs 0, 8, Sum.inl (fun _ => 0))), ((u_9 13), Sum.inl (cs 0, 8, Sum.inl (fun _ => 0))), ((u_9 14), Sum.inl (cs 0, 10, Sum.inl (fun _ => 0))), ((u_9 15), Sum.inl (cs 0, 10, Sum.inl (fun _ => 0))), ((u_9 16), Sum.inl (cs 0, 3, Sum.inl (upd (upd (upd (fun _ => 0) 0 0) 1 2) 2 0))), ((u_9 17), Sum.inl (cs 3, 6, Sum.inr (Sum.inr (Sum.inr (Sum.inr (fun _ => none)))))), (q_2, Sum.inr (2, [Value.null, Value.null, Value.null, Value.null, Value.null, Value.int 0, Value.int 0]))] rfl hD
  refine W.widen (k := 20) (n := 233) (by omega) (by omega) ?_
  refine lv_dup hx hb dX7_init_19 rfl ?_
  refine mv (wr := [(h0, Sum.inr (7, [Value.ref q_1, Value.null, Value.null, Value.int 0, Value.int 0])), (q_1, Sum.inr (10, [Value.ref (u_9 0), Value.ref (u_9 4), Value.ref (u_9 7), Value.ref (u_9 16), Value.ref (u_9 17), Value.int 0, Value.int (-1)])), ((u_9 0), Sum.inr (6, [Value.ref (u_9 1), Value.ref (u_9 3), Value.ref (u_9 2), Value.long 0])), ((u_9 1), Sum.inl (cs 0, 40, Sum.inl (fun _ => 0))), ((u_9 2), Sum.inl (cs 0, 40, Sum.inl (fun _ => 0))), ((u_9 3), Sum.inl (cs 0, 40, Sum.inl (fl (fun _ => 0) 40 3))), ((u_9 4), Sum.inr (1, [Value.ref (u_9 5), Value.ref (u_9 6), Value.int 0])), ((u_9 5), Sum.inl (cs 0, 6, Sum.inl (fun _ => 0))), ((u_9 6), Sum.inl (cs 0, 6, Sum.inl (fun _ => 0))), ((u_9 7), Sum.inr (4, [Value.ref (u_9 8), Value.ref (u_9 9), Value.int 0, Value.ref (u_9 10), Value.ref (u_9 11), Value.int 0, Value.int 0, Value.ref (u_9 12), Value.ref (u_9 13), Value.int 0, Value.ref (u_9 14), Value.ref (u_9 15), Value.int 0])), ((u_9 8), Sum.inl (cs 0, 5, Sum.inl (fun _ => 0))), ((u_9 9), Sum.inl (cs 0, 5, Sum.inl (fun _ => 0))), ((u_9 10), Sum.inl (cs 0, 6, Sum.inl (fun _ => 0))), ((u_9 11), Sum.inl (cs 0, 6, Sum.inl (fun _ => 0))), ((u_9 12), Sum.inl (cs 0, 8, Sum.inl (fun _ => 0))), ((u_9 13), Sum.inl (cs 0, 8, Sum.inl (fun _ => 0))), ((u_9 14), Sum.inl (cs 0, 10, Sum.inl (fun _ => 0))), ((u_9 15), Sum.inl (cs 0, 10, Sum.inl (fun _ => 0))), ((u_9 16), Sum.inl (cs 0, 3, Sum.inl (upd (upd (upd (fun _ => 0) 0 0) 1 2) 2 0))), ((u_9 17), Sum.inl (cs 3, 6, Sum.inr (Sum.inr (Sum.inr (Sum.inr (fun _ => none))))))]) (mkIN (rest := [Value.ref q_2, Value.ref h0]) ⟨hx, hb, hml, hown, htl⟩ hN hK hP hD (c_X2_init l G cs q_2 _) [20] rfl rfl (cIN 0 htl hN nl_RX7_20 mI_X2_init mN_RX2 mC_X2_init rfl ok_X2_init rfl rfl ⟨(Nat.le_of_ble_eq_true rfl), (Nat.le_of_ble_eq_true rfl)⟩) rfl hl.1 rfl (Nat.le_of_ble_eq_true rfl) dX7_init_20 ⟨(Nat.le_of_ble_eq_true rfl), (Nat.le_of_ble_eq_true rfl)⟩) hP hD hS hA [20] [0, 1, 2, 3, 4, 5, 6, 7, 8, 9, 10, 11, 12, 13, 14, 15, 16, 17, 18, 19] rfl rfl rfl (by decide) (fun u_20 H locs hw hP hD hS => ?_)
  obtain ⟨hP, hD⟩ := PD_as hP [(h0, Sum.inr (7, [Value.ref q_1, Value.null, Value.null, Value.int 0, Value.int 0])), (q_1, Sum.inr (10, [Value.ref (u_9 0), Value.ref (u_9 4), Value.ref (u_9 7), Value.ref (u_9 16), Value.ref (u_9 17), Value.int 0, Value.int (-1)])), ((u_9 0), Sum.inr (6, [Value.ref (u_9 1), Value.ref (u_9 3), Value.ref (u_9 2), Value.long 0])), ((u_9 1), Sum.inl (cs 0, 40, Sum.inl (fun _ => 0))), ((u_9 2), Sum.inl (cs 0, 40, Sum.inl (fun _ => 0))), ((u_9 3), Sum.inl (cs 0, 40, Sum.inl (fl (fun _ => 0) 40 3))), ((u_9 4), Sum.inr (1, [Value.ref (u_9 5), Value.ref (u_9 6), Value.int 0])), ((u_9 5), Sum.inl (cs 0, 6, Sum.inl (fun _ => 0))), ((u_9 6), Sum.inl (cs 0, 6, Sum.inl (fun _ => 0))), ((u_9 7), Sum.inr (4, [Value.ref (u_9 8), Value.ref (u_9 9), Value.int 0, Value.ref (u_9 10), Value.ref (u_9 11), Value.int 0, Value.int 0, Value.ref (u_9 12), Value.ref (u_9 13), Value.int 0, Value.ref (u_9 14), Value.ref (u_9 15), Value.int 0])), ((u_9 8), Sum.inl (cs 0, 5, Sum.inl (fun _ => 0))), ((u_9 9), Sum.inl (cs 0, 5, Sum.inl (fun _ => 0))), ((u_9 10), Sum.inl (cs 0, 6, Sum.inl (fun _ => 0))), ((u_9 11), Sum.inl (cs 0, 6, Sum.inl (fun _ => 0))), ((u_9 12), Sum.inl (cs 0, 8, Sum.inl (fun _ => 0))), ((u_9 13), Sum.inl (cs 0, 8, Sum.inl (fun _ => 0))), ((u_9 14), Sum.inl (cs 0, 10, Sum.inl (fun _ => 0))), ((u_9 15), Sum.inl (cs 0, 10, Sum.inl (fun _ => 0))), ((u_9 16), Sum.inl (cs 0, 3, Sum.inl (upd (upd (upd (fun _ => 0) 0 0) 1 2) 2 0))), ((u_9 17), Sum.inl (cs 3, 6, Sum.inr (Sum.inr (Sum.inr (Sum.inr (fun _ => none)))))), (q_2, Sum.inr (2, [Value.ref (u_20 0), Value.ref (u_20 1), Value.ref (u_20 2), Value.ref (u_20 3), Value.ref (u_20 4), Value.int 0, Value.int 15])), ((u_20 0), Sum.inl (cs 0, 16, Sum.inl (fun _ => 0))), ((u_20 1), Sum.inl (cs 0, 16, Sum.inl (fun _ => 0))), ((u_20 2), Sum.inl (cs 0, 16, Sum.inl (fun _ => 0))), ((u_20 3), Sum.inl (cs 0, 16, Sum.inl (fun _ => 0))), ((u_20 4), Sum.inl (cs 0, 16, Sum.inl (fun _ => 0)))] rfl hD
  refine W.widen (k := 25) (n := 313) (by omega) (by omega) ?_
  refine va_putF (ci := 7) (v := Value.ref q_2) (ty := (.object "ListenWells$Diary")) (C := RX7) (T := TX7) (N := 5) hx hb htl inX7 tyX7 tyX7_ok nmX7 hown hK hP hD hS 0 rfl rfl 1 (by decide) (htl _ fl_RX7_21) (fun _ h9 => h9) rfl hin rfl (by decide +kernel) (by first | rfl | decide) (by first | rfl | decide) (Nat.le_of_ble_eq_true rfl) dX7_init_23 (fun H locs hP hD hS => ?_)
  obtain ⟨hP, hD⟩ := PD_as hP [(h0, Sum.inr (7, [Value.ref q_1, Value.ref q_2, Value.null, Value.int 0, Value.int 0])), (q_1, Sum.inr (10, [Value.ref (u_9 0), Value.ref (u_9 4), Value.ref (u_9 7), Value.ref (u_9 16), Value.ref (u_9 17), Value.int 0, Value.int (-1)])), ((u_9 0), Sum.inr (6, [Value.ref (u_9 1), Value.ref (u_9 3), Value.ref (u_9 2), Value.long 0])), ((u_9 1), Sum.inl (cs 0, 40, Sum.inl (fun _ => 0))), ((u_9 2), Sum.inl (cs 0, 40, Sum.inl (fun _ => 0))), ((u_9 3), Sum.inl (cs 0, 40, Sum.inl (fl (fun _ => 0) 40 3))), ((u_9 4), Sum.inr (1, [Value.ref (u_9 5), Value.ref (u_9 6), Value.int 0])), ((u_9 5), Sum.inl (cs 0, 6, Sum.inl (fun _ => 0))), ((u_9 6), Sum.inl (cs 0, 6, Sum.inl (fun _ => 0))), ((u_9 7), Sum.inr (4, [Value.ref (u_9 8), Value.ref (u_9 9), Value.int 0, Value.ref (u_9 10), Value.ref (u_9 11), Value.int 0, Value.int 0, Value.ref (u_9 12), Value.ref (u_9 13), Value.int 0, Value.ref (u_9 14), Value.ref (u_9 15), Value.int 0])), ((u_9 8), Sum.inl (cs 0, 5, Sum.inl (fun _ => 0))), ((u_9 9), Sum.inl (cs 0, 5, Sum.inl (fun _ => 0))), ((u_9 10), Sum.inl (cs 0, 6, Sum.inl (fun _ => 0))), ((u_9 11), Sum.inl (cs 0, 6, Sum.inl (fun _ => 0))), ((u_9 12), Sum.inl (cs 0, 8, Sum.inl (fun _ => 0))), ((u_9 13), Sum.inl (cs 0, 8, Sum.inl (fun _ => 0))), ((u_9 14), Sum.inl (cs 0, 10, Sum.inl (fun _ => 0))), ((u_9 15), Sum.inl (cs 0, 10, Sum.inl (fun _ => 0))), ((u_9 16), Sum.inl (cs 0, 3, Sum.inl (upd (upd (upd (fun _ => 0) 0 0) 1 2) 2 0))), ((u_9 17), Sum.inl (cs 3, 6, Sum.inr (Sum.inr (Sum.inr (Sum.inr (fun _ => none)))))), (q_2, Sum.inr (2, [Value.ref (u_20 0), Value.ref (u_20 1), Value.ref (u_20 2), Value.ref (u_20 3), Value.ref (u_20 4), Value.int 0, Value.int 15])), ((u_20 0), Sum.inl (cs 0, 16, Sum.inl (fun _ => 0))), ((u_20 1), Sum.inl (cs 0, 16, Sum.inl (fun _ => 0))), ((u_20 2), Sum.inl (cs 0, 16, Sum.inl (fun _ => 0))), ((u_20 3), Sum.inl (cs 0, 16, Sum.inl (fun _ => 0))), ((u_20 4), Sum.inl (cs 0, 16, Sum.inl (fun _ => 0)))] rfl hD
  refine lv_aload_n hx hb dX7_init_26 rfl (lv_at hl 0 rfl) ?_
  refine lv_aload_n hx hb dX7_init_27 rfl (lv_at hl 1 rfl) ?_
  refine va_putF (ci := 7) (v := Value.ref aA) (ty := (.object "ListenWells$Asker")) (C := RX7) (T := TX7) (N := 5) hx hb htl inX7 tyX7 tyX7_ok nmX7 hown hK hP hD hS 0 rfl rfl 2 (by decide) (htl _ fl_RX7_25) (fun _ h9 => h9) rfl hin rfl (by decide +kernel) (by first | rfl | decide) (by first | rfl | decide) (Nat.le_of_ble_eq_true rfl) dX7_init_28 (fun H locs hP hD hS => ?_)
  obtain ⟨hP, hD⟩ := PD_as hP [(h0, Sum.inr (7, [Value.ref q_1, Value.ref q_2, Value.ref aA, Value.int 0, Value.int 0])), (q_1, Sum.inr (10, [Value.ref (u_9 0), Value.ref (u_9 4), Value.ref (u_9 7), Value.ref (u_9 16), Value.ref (u_9 17), Value.int 0, Value.int (-1)])), ((u_9 0), Sum.inr (6, [Value.ref (u_9 1), Value.ref (u_9 3), Value.ref (u_9 2), Value.long 0])), ((u_9 1), Sum.inl (cs 0, 40, Sum.inl (fun _ => 0))), ((u_9 2), Sum.inl (cs 0, 40, Sum.inl (fun _ => 0))), ((u_9 3), Sum.inl (cs 0, 40, Sum.inl (fl (fun _ => 0) 40 3))), ((u_9 4), Sum.inr (1, [Value.ref (u_9 5), Value.ref (u_9 6), Value.int 0])), ((u_9 5), Sum.inl (cs 0, 6, Sum.inl (fun _ => 0))), ((u_9 6), Sum.inl (cs 0, 6, Sum.inl (fun _ => 0))), ((u_9 7), Sum.inr (4, [Value.ref (u_9 8), Value.ref (u_9 9), Value.int 0, Value.ref (u_9 10), Value.ref (u_9 11), Value.int 0, Value.int 0, Value.ref (u_9 12), Value.ref (u_9 13), Value.int 0, Value.ref (u_9 14), Value.ref (u_9 15), Value.int 0])), ((u_9 8), Sum.inl (cs 0, 5, Sum.inl (fun _ => 0))), ((u_9 9), Sum.inl (cs 0, 5, Sum.inl (fun _ => 0))), ((u_9 10), Sum.inl (cs 0, 6, Sum.inl (fun _ => 0))), ((u_9 11), Sum.inl (cs 0, 6, Sum.inl (fun _ => 0))), ((u_9 12), Sum.inl (cs 0, 8, Sum.inl (fun _ => 0))), ((u_9 13), Sum.inl (cs 0, 8, Sum.inl (fun _ => 0))), ((u_9 14), Sum.inl (cs 0, 10, Sum.inl (fun _ => 0))), ((u_9 15), Sum.inl (cs 0, 10, Sum.inl (fun _ => 0))), ((u_9 16), Sum.inl (cs 0, 3, Sum.inl (upd (upd (upd (fun _ => 0) 0 0) 1 2) 2 0))), ((u_9 17), Sum.inl (cs 3, 6, Sum.inr (Sum.inr (Sum.inr (Sum.inr (fun _ => none)))))), (q_2, Sum.inr (2, [Value.ref (u_20 0), Value.ref (u_20 1), Value.ref (u_20 2), Value.ref (u_20 3), Value.ref (u_20 4), Value.int 0, Value.int 15])), ((u_20 0), Sum.inl (cs 0, 16, Sum.inl (fun _ => 0))), ((u_20 1), Sum.inl (cs 0, 16, Sum.inl (fun _ => 0))), ((u_20 2), Sum.inl (cs 0, 16, Sum.inl (fun _ => 0))), ((u_20 3), Sum.inl (cs 0, 16, Sum.inl (fun _ => 0))), ((u_20 4), Sum.inl (cs 0, 16, Sum.inl (fun _ => 0)))] rfl hD
  refine W.widen (k := 25) (n := 313) (by omega) (by omega) ?_
  obtain ⟨hP9, hD9⟩ := PD_pk hP hD [(h0, Sum.inr (7, [Value.ref q_1, Value.ref q_2, Value.ref aA, Value.int 0, Value.int 0])), (q_1, Sum.inr (10, [Value.ref (u_9 0), Value.ref (u_9 4), Value.ref (u_9 7), Value.ref (u_9 16), Value.ref (u_9 17), Value.int 0, Value.int (-1)])), ((u_9 0), Sum.inr (6, [Value.ref (u_9 1), Value.ref (u_9 3), Value.ref (u_9 2), Value.long 0])), ((u_9 1), Sum.inl (cs 0, 40, Sum.inl (fun _ => 0))), ((u_9 2), Sum.inl (cs 0, 40, Sum.inl (fun _ => 0))), ((u_9 3), Sum.inl (cs 0, 40, Sum.inl (fl (fun _ => 0) 40 3))), ((u_9 4), Sum.inr (1, [Value.ref (u_9 5), Value.ref (u_9 6), Value.int 0])), ((u_9 5), Sum.inl (cs 0, 6, Sum.inl (fun _ => 0))), ((u_9 6), Sum.inl (cs 0, 6, Sum.inl (fun _ => 0))), ((u_9 7), Sum.inr (4, [Value.ref (u_9 8), Value.ref (u_9 9), Value.int 0, Value.ref (u_9 10), Value.ref (u_9 11), Value.int 0, Value.int 0, Value.ref (u_9 12), Value.ref (u_9 13), Value.int 0, Value.ref (u_9 14), Value.ref (u_9 15), Value.int 0])), ((u_9 8), Sum.inl (cs 0, 5, Sum.inl (fun _ => 0))), ((u_9 9), Sum.inl (cs 0, 5, Sum.inl (fun _ => 0))), ((u_9 10), Sum.inl (cs 0, 6, Sum.inl (fun _ => 0))), ((u_9 11), Sum.inl (cs 0, 6, Sum.inl (fun _ => 0))), ((u_9 12), Sum.inl (cs 0, 8, Sum.inl (fun _ => 0))), ((u_9 13), Sum.inl (cs 0, 8, Sum.inl (fun _ => 0))), ((u_9 14), Sum.inl (cs 0, 10, Sum.inl (fun _ => 0))), ((u_9 15), Sum.inl (cs 0, 10, Sum.inl (fun _ => 0))), ((u_9 16), Sum.inl (cs 0, 3, Sum.inl (upd (upd (upd (fun _ => 0) 0 0) 1 2) 2 0))), ((u_9 17), Sum.inl (cs 3, 6, Sum.inr (Sum.inr (Sum.inr (Sum.inr (fun _ => none)))))), (q_2, Sum.inr (2, [Value.ref (u_20 0), Value.ref (u_20 1), Value.ref (u_20 2), Value.ref (u_20 3), Value.ref (u_20 4), Value.int 0, Value.int 15])), ((u_20 0), Sum.inl (cs 0, 16, Sum.inl (fun _ => 0))), ((u_20 1), Sum.inl (cs 0, 16, Sum.inl (fun _ => 0))), ((u_20 2), Sum.inl (cs 0, 16, Sum.inl (fun _ => 0))), ((u_20 3), Sum.inl (cs 0, 16, Sum.inl (fun _ => 0))), ((u_20 4), Sum.inl (cs 0, 16, Sum.inl (fun _ => 0)))] [0, 1, 2, 3, 4, 5, 6, 7, 8, 9, 10, 11, 12, 13, 14, 15, 16, 17, 18, 19, 20, 21, 22, 23, 24, 25] rfl rfl
  exact W.vret hx hb hr (fun t ht hW => ⟨⟨(fun k => match k with | 0 => q_1 | 1 => (u_9 0) | 2 => (u_9 1) | 3 => (u_9 2) | 4 => (u_9 3) | 5 => (u_9 4) | 6 => (u_9 5) | 7 => (u_9 6) | 8 => (u_9 7) | 9 => (u_9 8) | 10 => (u_9 9) | 11 => (u_9 10) | 12 => (u_9 11) | 13 => (u_9 12) | 14 => (u_9 13) | 15 => (u_9 14) | 16 => (u_9 15) | 17 => (u_9 16) | 18 => (u_9 17) | 19 => q_2 | 20 => (u_20 0) | 21 => (u_20 1) | 22 => (u_20 2) | 23 => (u_20 3) | 24 => (u_20 4) | _ => 0), rfl, trivial, ⟨by rw [ht]; exact hP9, va_K.moved hW.alike hK, hD9⟩⟩, hS.F ht⟩) hS.2.2 dX7_init_31

theorem c_X8_init (l : Launch) (G : va_G) (cs : Nat → ClassId) (h0 : Nat) (sz : Nat) : Met l yX8_init (Cond.code yX8_init cX8_init 3 none :: gW) ({ frames := 1, cells := 2, slots := 460, locals := 24 }) (va_Pc [Value.ref h0, Value.int 12, Value.int 400] (Pre G cs [(h0, Sum.inr (8, [Value.null, Value.null, Value.int 0, Value.int 0]))] sz)) (va_Qv (fun (u : Nat → Nat) => True) (fun (u : Nat → Nat) t => Aft G cs (va_A [(h0, Sum.inr (8, [Value.null, Value.null, Value.int 0, Value.int 0]))] sz) [(h0, Sum.inr (8, [Value.ref (u 0), Value.ref (u 1), Value.int 0, Value.int 0])), ((u 0), Sum.inl (cs 0, 60, Sum.inl (fun _ => 0))), ((u 1), Sum.inl (cs 0, 400, Sum.inl (fun _ => 0)))] t) (va_A [(h0, Sum.inr (8, [Value.null, Value.null, Value.int 0, Value.int 0]))] sz)) 2 460 (va_A [(h0, Sum.inr (8, [Value.null, Value.null, Value.int 0, Value.int 0]))] sz) := by
  refine Met.ofW (cc := cX8_init) (maxL := 3) (ret := none) (by decide) rfl ?_
  intro p e s m args below meth c s₁ B hml hv
  obtain ⟨rfl, hsz, hP, hK, hD0, hN⟩ := hv
  have hx := B.exec
  have hb := B.bytes
  have hr := B.returns
  have hts := atoms_spec (ws := Cond.code yX8_init cX8_init 3 none :: gW) B.pre
  have htl : ∀ w ∈ gW, w.before _ s = true := fun w h => hts w (List.mem_cons_of_mem _ h)
  have hown : s.vm.findClass RX8 = some m.cls := findClass_of_methodNamed B.named
  have hlocks := B.notSynchronized
  have hin : meth.name = "<init>" := (name_of_methodNamed B.named B.method).1
  subst hsz
  have hD := hD0.self (sz := s.heap.size)
  generalize hAe : va_A [(h0, Sum.inr (8, [Value.null, Value.null, Value.int 0, Value.int 0]))] s.heap.size = A at hD ⊢
  have hA : ∀ q : Nat, s.heap.size ≤ q → A q := fun q h => by rw [← hAe]; exact Or.inr h
  have hS : va_S A s.heap s.heap [] := va_S.rf
  have hl := lv_entry ([Value.ref h0, Value.int 12, Value.int 400]) (n := 3) (Nat.le_of_ble_eq_true rfl)
  rw [lg_entry_eq]
  generalize (lg_sl ([Value.ref h0, Value.int 12, Value.int 400]) ++ List.replicate (3 - (lg_sl ([Value.ref h0, Value.int 12, Value.int 400])).length) Slot.unset).toArray = ls at hl ⊢
  have hl : lv_has ls 3 [(0, Value.ref h0), (1, Value.int 12), (2, Value.int 400)] := hl
  refine lv_aload_n hx hb dX8_init_0 rfl (lv_at hl 0 rfl) ?_
  refine W.objInit hx hb hown (htl _ lk_RX8_3) (htl _ ob_i) (htl _ ob_c) rfl (by rw [hml]; exact hl.1) rfl dX8_init_1 (Nat.le_of_ble_eq_true rfl) (Nat.le_of_ble_eq_true rfl) ?_
  refine W.eq (g2 := F0 m 4 ls []) rfl ?_
  refine lv_aload_n hx hb dX8_init_4 rfl (lv_at hl 0 rfl) ?_
  refine lv_iconst (v := 5) hx hb dX8_init_5 (by decide) ?_
  refine lv_iconst (v := 0) hx hb dX8_init_6 (by decide) ?_
  refine lv_iload_n hx hb dX8_init_7 rfl (lv_at hl 1 rfl) ?_
  refine va_mmax hx hb (hml.trans hl.1.symm) hown (htl _ lk_RX8_11) (htl _ lb_s_imax) (htl _ lb_i) (htl _ lb_c_imax) (Nat.le_of_ble_eq_true rfl) (Nat.le_of_ble_eq_true rfl) (Nat.le_of_ble_eq_true rfl) (Nat.le_of_ble_eq_true rfl) dX8_init_8 ?_
  refine lv_topi (fun xv ex => ?_)
  obtain rfl : xv = 12 := ex.trans (by first | rfl | decide)
  refine lv_imul hx hb dX8_init_11 ?_
  refine lv_topi (fun xv ex => ?_)
  obtain rfl : xv = 60 := ex.trans (by first | rfl | decide)
  refine n_newi (N₉ := 60) hx hb htl hK hP hD hS hA (by decide) (by decide) (Nat.le_of_ble_eq_true rfl) (Nat.le_of_ble_eq_true rfl) (Nat.le_of_ble_eq_true rfl) dX8_init_12 (fun q_1 H hP hD hS => ?_)
  obtain ⟨hP, hD⟩ := PD_as hP [(h0, Sum.inr (8, [Value.null, Value.null, Value.int 0, Value.int 0])), (q_1, Sum.inl (cs 0, 60, Sum.inl (fun _ => 0)))] rfl hD
  refine W.widen (k := 1) (n := 60) (by omega) (by omega) ?_
  refine va_putF (ci := 8) (v := Value.ref q_1) (ty := (.array .int)) (C := RX8) (T := TX8) (N := 4) hx hb htl inX8 tyX8 tyX8_ok nmX8 hown hK hP hD hS 0 rfl rfl 0 (by decide) (htl _ fl_RX8_17) (fun _ h9 => h9) rfl hin rfl (by decide +kernel) (by first | rfl | decide) (by first | rfl | decide) (Nat.le_of_ble_eq_true rfl) dX8_init_14 (fun H locs hP hD hS => ?_)
  obtain ⟨hP, hD⟩ := PD_as hP [(h0, Sum.inr (8, [Value.ref q_1, Value.null, Value.int 0, Value.int 0])), (q_1, Sum.inl (cs 0, 60, Sum.inl (fun _ => 0)))] rfl hD
  refine lv_aload_n hx hb dX8_init_17 rfl (lv_at hl 0 rfl) ?_
  refine lv_iconst (v := 0) hx hb dX8_init_18 (by decide) ?_
  refine lv_iload_n hx hb dX8_init_19 rfl (lv_at hl 2 rfl) ?_
  refine va_mmax hx hb (hml.trans hl.1.symm) hown (htl _ lk_RX8_11) (htl _ lb_s_imax) (htl _ lb_i) (htl _ lb_c_imax) (Nat.le_of_ble_eq_true rfl) (Nat.le_of_ble_eq_true rfl) (Nat.le_of_ble_eq_true rfl) (Nat.le_of_ble_eq_true rfl) dX8_init_20 ?_
  refine lv_topi (fun xv ex => ?_)
  obtain rfl : xv = 400 := ex.trans (by first | rfl | decide)
  refine n_newi (N₉ := 400) hx hb htl hK hP hD hS hA (by decide) (by decide) (Nat.le_of_ble_eq_true rfl) (Nat.le_of_ble_eq_true rfl) (Nat.le_of_ble_eq_true rfl) dX8_init_23 (fun q_2 H hP hD hS => ?_)
  obtain ⟨hP, hD⟩ := PD_as hP [(h0, Sum.inr (8, [Value.ref q_1, Value.null, Value.int 0, Value.int 0])), (q_1, Sum.inl (cs 0, 60, Sum.inl (fun _ => 0))), (q_2, Sum.inl (cs 0, 400, Sum.inl (fun _ => 0)))] rfl hD
  refine W.widen (k := 2) (n := 460) (by omega) (by omega) ?_
  refine va_putF (ci := 8) (v := Value.ref q_2) (ty := (.array .int)) (C := RX8) (T := TX8) (N := 4) hx hb htl inX8 tyX8 tyX8_ok nmX8 hown hK hP hD hS 0 rfl rfl 1 (by decide) (htl _ fl_RX8_21) (fun _ h9 => h9) rfl hin rfl (by decide +kernel) (by first | rfl | decide) (by first | rfl | decide) (Nat.le_of_ble_eq_true rfl) dX8_init_25 (fun H locs hP hD hS => ?_)
  obtain ⟨hP, hD⟩ := PD_as hP [(h0, Sum.inr (8, [Value.ref q_1, Value.ref q_2, Value.int 0, Value.int 0])), (q_1, Sum.inl (cs 0, 60, Sum.inl (fun _ => 0))), (q_2, Sum.inl (cs 0, 400, Sum.inl (fun _ => 0)))] rfl hD
  refine W.widen (k := 2) (n := 460) (by omega) (by omega) ?_
  obtain ⟨hP9, hD9⟩ := PD_pk hP hD [(h0, Sum.inr (8, [Value.ref q_1, Value.ref q_2, Value.int 0, Value.int 0])), (q_1, Sum.inl (cs 0, 60, Sum.inl (fun _ => 0))), (q_2, Sum.inl (cs 0, 400, Sum.inl (fun _ => 0)))] [0, 1, 2] rfl rfl
  exact W.vret hx hb hr (fun t ht hW => ⟨⟨(fun k => match k with | 0 => q_1 | 1 => q_2 | _ => 0), rfl, trivial, ⟨by rw [ht]; exact hP9, va_K.moved hW.alike hK, hD9⟩⟩, hS.F ht⟩) hS.2.2 dX8_init_28

theorem c_X5_init (l : Launch) (G : va_G) (cs : Nat → ClassId) (h0 : Nat) (sz : Nat) : Met l yX5_init (Cond.code yX5_init cX5_init 1 none :: gW) ({ frames := 2, cells := 6, slots := 1666, locals := 46 }) (va_Pc [Value.ref h0] (Pre G cs [(h0, Sum.inr (5, [Value.null, Value.int 0, Value.null, Value.null, Value.int 0, Value.int 0, Value.int 0, Value.int 0, Value.int 0, Value.null]))] sz)) (va_Qv (fun (u : Nat → Nat) => True) (fun (u : Nat → Nat) t => Aft G cs (va_A [(h0, Sum.inr (5, [Value.null, Value.int 0, Value.null, Value.null, Value.int 0, Value.int 0, Value.int 0, Value.int 0, Value.int 0, Value.null]))] sz) [(h0, Sum.inr (5, [Value.ref (u 0), Value.int 0, Value.ref (u 1), Value.ref (u 2), Value.int 0, Value.int 0, Value.int 0, Value.int 0, Value.int (-1), Value.ref (u 3)])), ((u 0), Sum.inl (cs 0, 400, Sum.inl (fun _ => 0))), ((u 1), Sum.inl (cs 0, 401, Sum.inl (fun _ => 0))), ((u 2), Sum.inl (cs 0, 401, Sum.inl (fun _ => 0))), ((u 3), Sum.inr (8, [Value.ref (u 4), Value.ref (u 5), Value.int 0, Value.int 0])), ((u 4), Sum.inl (cs 0, 60, Sum.inl (fun _ => 0))), ((u 5), Sum.inl (cs 0, 400, Sum.inl (fun _ => 0)))] t) (va_A [(h0, Sum.inr (5, [Value.null, Value.int 0, Value.null, Value.null, Value.int 0, Value.int 0, Value.int 0, Value.int 0, Value.int 0, Value.null]))] sz)) 6 1666 (va_A [(h0, Sum.inr (5, [Value.null, Value.int 0, Value.null, Value.null, Value.int 0, Value.int 0, Value.int 0, Value.int 0, Value.int 0, Value.null]))] sz) := by
  refine Met.ofW (cc := cX5_init) (maxL := 1) (ret := none) (by decide) rfl ?_
  intro p e s m args below meth c s₁ B hml hv
  obtain ⟨rfl, hsz, hP, hK, hD0, hN⟩ := hv
  have hx := B.exec
  have hb := B.bytes
  have hr := B.returns
  have hts := atoms_spec (ws := Cond.code yX5_init cX5_init 1 none :: gW) B.pre
  have htl : ∀ w ∈ gW, w.before _ s = true := fun w h => hts w (List.mem_cons_of_mem _ h)
  have hown : s.vm.findClass RX5 = some m.cls := findClass_of_methodNamed B.named
  have hlocks := B.notSynchronized
  have hin : meth.name = "<init>" := (name_of_methodNamed B.named B.method).1
  subst hsz
  have hD := hD0.self (sz := s.heap.size)
  generalize hAe : va_A [(h0, Sum.inr (5, [Value.null, Value.int 0, Value.null, Value.null, Value.int 0, Value.int 0, Value.int 0, Value.int 0, Value.int 0, Value.null]))] s.heap.size = A at hD ⊢
  have hA : ∀ q : Nat, s.heap.size ≤ q → A q := fun q h => by rw [← hAe]; exact Or.inr h
  have hS : va_S A s.heap s.heap [] := va_S.rf
  have hl := lv_entry ([Value.ref h0]) (n := 1) (Nat.le_of_ble_eq_true rfl)
  rw [lg_entry_eq]
  generalize (lg_sl ([Value.ref h0]) ++ List.replicate (1 - (lg_sl ([Value.ref h0])).length) Slot.unset).toArray = ls at hl ⊢
  have hl : lv_has ls 1 [(0, Value.ref h0)] := hl
  refine lv_aload_n hx hb dX5_init_0 rfl (lv_at hl 0 rfl) ?_
  refine W.objInit hx hb hown (htl _ lk_RX5_3) (htl _ ob_i) (htl _ ob_c) rfl (by rw [hml]; exact hl.1) rfl dX5_init_1 (Nat.le_of_ble_eq_true rfl) (Nat.le_of_ble_eq_true rfl) ?_
  refine W.eq (g2 := F0 m 4 ls []) rfl ?_
  refine lv_aload_n hx hb dX5_init_4 rfl (lv_at hl 0 rfl) ?_
  refine lv_sipush (v := 400) hx hb dX5_init_5 (by decide) ?_
  refine n_newi (N₉ := 400) hx hb htl hK hP hD hS hA (by decide) (by decide) (Nat.le_of_ble_eq_true rfl) (Nat.le_of_ble_eq_true rfl) (Nat.le_of_ble_eq_true rfl) dX5_init_8 (fun q_1 H hP hD hS => ?_)
  obtain ⟨hP, hD⟩ := PD_as hP [(h0, Sum.inr (5, [Value.null, Value.int 0, Value.null, Value.null, Value.int 0, Value.int 0, Value.int 0, Value.int 0, Value.int 0, Value.null])), (q_1, Sum.inl (cs 0, 400, Sum.inl (fun _ => 0)))] rfl hD
  refine W.widen (k := 1) (n := 400) (by omega) (by omega) ?_
  refine va_putF (ci := 5) (v := Value.ref q_1) (ty := (.array .int)) (C := RX5) (T := TX5) (N := 10) hx hb htl inX5 tyX5 tyX5_ok nmX5 hown hK hP hD hS 0 rfl rfl 0 (by decide) (htl _ fl_RX5_9) (fun _ h9 => h9) rfl hin rfl (by decide +kernel) (by first | rfl | decide) (by first | rfl | decide) (Nat.le_of_ble_eq_true rfl) dX5_init_10 (fun H locs hP hD hS => ?_)
  obtain ⟨hP, hD⟩ := PD_as hP [(h0, Sum.inr (5, [Value.ref q_1, Value.int 0, Value.null, Value.null, Value.int 0, Value.int 0, Value.int 0, Value.int 0, Value.int 0, Value.null])), (q_1, Sum.inl (cs 0, 400, Sum.inl (fun _ => 0)))] rfl hD
  refine lv_aload_n hx hb dX5_init_13 rfl (lv_at hl 0 rfl) ?_
  refine lv_sipush (v := 401) hx hb dX5_init_14 (by decide) ?_
  refine n_newi (N₉ := 401) hx hb htl hK hP hD hS hA (by decide) (by decide) (Nat.le_of_ble_eq_true rfl) (Nat.le_of_ble_eq_true rfl) (Nat.le_of_ble_eq_true rfl) dX5_init_17 (fun q_2 H hP hD hS => ?_)
  obtain ⟨hP, hD⟩ := PD_as hP [(h0, Sum.inr (5, [Value.ref q_1, Value.int 0, Value.null, Value.null, Value.int 0, Value.int 0, Value.int 0, Value.int 0, Value.int 0, Value.null])), (q_1, Sum.inl (cs 0, 400, Sum.inl (fun _ => 0))), (q_2, Sum.inl (cs 0, 401, Sum.inl (fun _ => 0)))] rfl hD
  refine W.widen (k := 2) (n := 801) (by omega) (by omega) ?_
  refine va_putF (ci := 5) (v := Value.ref q_2) (ty := (.array .int)) (C := RX5) (T := TX5) (N := 10) hx hb htl inX5 tyX5 tyX5_ok nmX5 hown hK hP hD hS 0 rfl rfl 2 (by decide) (htl _ fl_RX5_15) (fun _ h9 => h9) rfl hin rfl (by decide +kernel) (by first | rfl | decide) (by first | rfl | decide) (Nat.le_of_ble_eq_true rfl) dX5_init_19 (fun H locs hP hD hS => ?_)
  obtain ⟨hP, hD⟩ := PD_as hP [(h0, Sum.inr (5, [Value.ref q_1, Value.int 0, Value.ref q_2, Value.null, Value.int 0, Value.int 0, Value.int 0, Value.int 0, Value.int 0, Value.null])), (q_1, Sum.inl (cs 0, 400, Sum.inl (fun _ => 0))), (q_2, Sum.inl (cs 0, 401, Sum.inl (fun _ => 0)))] rfl hD
  refine lv_aload_n hx hb dX5_init_22 rfl (lv_at hl 0 rfl) ?_
  refine lv_sipush (v := 401) hx hb dX5_init_23 (by decide) ?_
  refine n_newi (N₉ := 401) hx hb htl hK hP hD hS hA (by decide) (by decide) (Nat.le_of_ble_eq_true rfl) (Nat.le_of_ble_eq_true rfl) (Nat.le_of_ble_eq_true rfl) dX5_init_26 (fun q_3 H hP hD hS => ?_)
  obtain ⟨hP, hD⟩ := PD_as hP [(h0, Sum.inr (5, [Value.ref q_1, Value.int 0, Value.ref q_2, Value.null, Value.int 0, Value.int 0, Value.int 0, Value.int 0, Value.int 0, Value.null])), (q_1, Sum.inl (cs 0, 400, Sum.inl (fun _ => 0))), (q_2, Sum.inl (cs 0, 401, Sum.inl (fun _ => 0))), (q_3, Sum.inl (cs 0, 401, Sum.inl (fun _ => 0)))] rfl hD
  refine W.widen (k := 3) (n := 1202) (by omega) (by omega) ?_
  refine va_putF (ci := 5) (v := Value.ref q_3) (ty := (.array .int)) (C := RX5) (T := TX5) (N := 10) hx hb htl inX5 tyX5 tyX5_ok nmX5 hown hK hP hD hS 0 rfl rfl 3 (by decide) (htl _ fl_RX5_18) (fun _ h9 => h9) rfl hin rfl (by decide +kernel) (by first | rfl | decide) (by first | rfl | decide) (Nat.le_of_ble_eq_true rfl) dX5_init_28 (fun H locs hP hD hS => ?_)
  obtain ⟨hP, hD⟩ := PD_as hP [(h0, Sum.inr (5, [Value.ref q_1, Value.int 0, Value.ref q_2, Value.ref q_3, Value.int 0, Value.int 0, Value.int 0, Value.int 0, Value.int 0, Value.null])), (q_1, Sum.inl (cs 0, 400, Sum.inl (fun _ => 0))), (q_2, Sum.inl (cs 0, 401, Sum.inl (fun _ => 0))), (q_3, Sum.inl (cs 0, 401, Sum.inl (fun _ => 0)))] rfl hD
  refine lv_aload_n hx hb dX5_init_31 rfl (lv_at hl 0 rfl) ?_
  refine lv_iconst (v := (-1)) hx hb dX5_init_32 (by decide) ?_
  refine va_put (ci := 5) (v := Value.int (-1)) (ty := .int) (C := RX5) (T := TX5) (N := 10) hx hb htl inX5 tyX5 tyX5_ok nmX5 hown hK hP hD hS 0 rfl rfl 8 (by decide) (htl _ fl_RX5_21) (fun _ h9 => h9) rfl (by decide +kernel) (by first | rfl | decide) (by first | rfl | decide) (Nat.le_of_ble_eq_true rfl) dX5_init_33 (fun H locs hP hD hS => ?_)
  obtain ⟨hP, hD⟩ := PD_as hP [(h0, Sum.inr (5, [Value.ref q_1, Value.int 0, Value.ref q_2, Value.ref q_3, Value.int 0, Value.int 0, Value.int 0, Value.int 0, Value.int (-1), Value.null])), (q_1, Sum.inl (cs 0, 400, Sum.inl (fun _ => 0))), (q_2, Sum.inl (cs 0, 401, Sum.inl (fun _ => 0))), (q_3, Sum.inl (cs 0, 401, Sum.inl (fun _ => 0)))] rfl hD
  refine lv_aload_n hx hb dX5_init_36 rfl (lv_at hl 0 rfl) ?_
  refine va_new (ci := 8) (fs := [Value.null, Value.null, Value.int 0, Value.int 0]) (C := RX8) (T := TX8) (N := 4) hx hb htl inX8 tyX8 tyX8_ok hown (htl _ cl_RX5_25) (htl _ it_RX8) (htl _ mN_RX8) hK hP hD hS hA rfl (by decide +kernel) (Nat.le_of_ble_eq_true rfl) (Nat.le_of_ble_eq_true rfl) dX5_init_37 (fun q_4 H hP hD hS => ?_)
  obtain ⟨hP, hD⟩ := PD_as hP [(h0, Sum.inr (5, [Value.ref q_1, Value.int 0, Value.ref q_2, Value.ref q_3, Value.int 0, Value.int 0, Value.int 0, Value.int 0, Value.int (-1), Value.null])), (q_1, Sum.inl (cs 0, 400, Sum.inl (fun _ => 0))), (q_2, Sum.inl (cs 0, 401, Sum.inl (fun _ => 0))), (q_3, Sum.inl (cs 0, 401, Sum.inl (fun _ => 0))), (q_4, Sum.inr (8, [Value.null, Value.null, Value.int 0, Value.int 0]))] rfl hD
  refine W.widen (k := 4) (n := 1206) (by omega) (by omega) ?_
  refine lv_dup hx hb dX5_init_40 rfl ?_
  refine lv_bipush (v := 12) hx hb dX5_init_41 (by decide) ?_
  refine lv_sipush (v := 400) hx hb dX5_init_43 (by decide) ?_
  refine mv (wr := [(h0, Sum.inr (5, [Value.ref q_1, Value.int 0, Value.ref q_2, Value.ref q_3, Value.int 0, Value.int 0, Value.int 0, Value.int 0, Value.int (-1), Value.null])), (q_1, Sum.inl (cs 0, 400, Sum.inl (fun _ => 0))), (q_2, Sum.inl (cs 0, 401, Sum.inl (fun _ => 0))), (q_3, Sum.inl (cs 0, 401, Sum.inl (fun _ => 0)))]) (mkI (rest := [Value.ref q_4, Value.ref h0]) ⟨hx, hb, hml, hown, htl⟩ hN hK hP hD (c_X8_init l G cs q_4 _) [4] rfl rfl (cI 2 htl lk_RX5_27 mI_X8_init mN_RX8 mC_X8_init rfl ok_X8_init rfl rfl ⟨(Nat.le_of_ble_eq_true rfl), (Nat.le_of_ble_eq_true rfl)⟩) rfl hl.1 rfl (Nat.le_of_ble_eq_true rfl) dX5_init_46 ⟨(Nat.le_of_ble_eq_true rfl), (Nat.le_of_ble_eq_true rfl)⟩) hP hD hS hA [4] [0, 1, 2, 3] rfl rfl rfl (by decide) (fun u_46 H locs hw hP hD hS => ?_)
  obtain ⟨hP, hD⟩ := PD_as hP [(h0, Sum.inr (5, [Value.ref q_1, Value.int 0, Value.ref q_2, Value.ref q_3, Value.int 0, Value.int 0, Value.int 0, Value.int 0, Value.int (-1), Value.null])), (q_1, Sum.inl (cs 0, 400, Sum.inl (fun _ => 0))), (q_2, Sum.inl (cs 0, 401, Sum.inl (fun _ => 0))), (q_3, Sum.inl (cs 0, 401, Sum.inl (fun _ => 0))), (q_4, Sum.inr (8, [Value.ref (u_46 0), Value.ref (u_46 1), Value.int 0, Value.int 0])), ((u_46 0), Sum.inl (cs 0, 60, Sum.inl (fun _ => 0))), ((u_46 1), Sum.inl (cs 0, 400, Sum.inl (fun _ => 0)))] rfl hD
  refine W.widen (k := 6) (n := 1666) (by omega) (by omega) ?_
  refine va_putF (ci := 5) (v := Value.ref q_4) (ty := (.object "ListenWells$Text")) (C := RX5) (T := TX5) (N := 10) hx hb htl inX5 tyX5 tyX5_ok nmX5 hown hK hP hD hS 0 rfl rfl 9 (by decide) (htl _ fl_RX5_30) (fun _ h9 => h9) rfl hin rfl (by decide +kernel) (by first | rfl | decide) (by first | rfl | decide) (Nat.le_of_ble_eq_true rfl) dX5_init_49 (fun H locs hP hD hS => ?_)
  obtain ⟨hP, hD⟩ := PD_as hP [(h0, Sum.inr (5, [Value.ref q_1, Value.int 0, Value.ref q_2, Value.ref q_3, Value.int 0, Value.int 0, Value.int 0, Value.int 0, Value.int (-1), Value.ref q_4])), (q_1, Sum.inl (cs 0, 400, Sum.inl (fun _ => 0))), (q_2, Sum.inl (cs 0, 401, Sum.inl (fun _ => 0))), (q_3, Sum.inl (cs 0, 401, Sum.inl (fun _ => 0))), (q_4, Sum.inr (8, [Value.ref (u_46 0), Value.ref (u_46 1), Value.int 0, Value.int 0])), ((u_46 0), Sum.inl (cs 0, 60, Sum.inl (fun _ => 0))), ((u_46 1), Sum.inl (cs 0, 400, Sum.inl (fun _ => 0)))] rfl hD
  refine W.widen (k := 6) (n := 1666) (by omega) (by omega) ?_
  obtain ⟨hP9, hD9⟩ := PD_pk hP hD [(h0, Sum.inr (5, [Value.ref q_1, Value.int 0, Value.ref q_2, Value.ref q_3, Value.int 0, Value.int 0, Value.int 0, Value.int 0, Value.int (-1), Value.ref q_4])), (q_1, Sum.inl (cs 0, 400, Sum.inl (fun _ => 0))), (q_2, Sum.inl (cs 0, 401, Sum.inl (fun _ => 0))), (q_3, Sum.inl (cs 0, 401, Sum.inl (fun _ => 0))), (q_4, Sum.inr (8, [Value.ref (u_46 0), Value.ref (u_46 1), Value.int 0, Value.int 0])), ((u_46 0), Sum.inl (cs 0, 60, Sum.inl (fun _ => 0))), ((u_46 1), Sum.inl (cs 0, 400, Sum.inl (fun _ => 0)))] [0, 1, 2, 3, 4, 5, 6] rfl rfl
  exact W.vret hx hb hr (fun t ht hW => ⟨⟨(fun k => match k with | 0 => q_1 | 1 => q_2 | 2 => q_3 | 3 => q_4 | 4 => (u_46 0) | 5 => (u_46 1) | _ => 0), rfl, trivial, ⟨by rw [ht]; exact hP9, va_K.moved hW.alike hK, hD9⟩⟩, hS.F ht⟩) hS.2.2 dX5_init_52

theorem c_X9_init (l : Launch) (G : va_G) (cs : Nat → ClassId) (h0 : Nat) (sz : Nat) : Met l yX9_init (Cond.code yX9_init cX9_init 1 none :: gW) ({ frames := 1, cells := 9, slots := 857, locals := 24 }) (va_Pc [Value.ref h0] (Pre G cs [(h0, Sum.inr (9, [Value.null, Value.null, Value.null, Value.null, Value.int 0, Value.int 0, Value.null, Value.null, Value.null, Value.null, Value.null]))] sz)) (va_Qv (fun (u : Nat → Nat) => True) (fun (u : Nat → Nat) t => Aft G cs (va_A [(h0, Sum.inr (9, [Value.null, Value.null, Value.null, Value.null, Value.int 0, Value.int 0, Value.null, Value.null, Value.null, Value.null, Value.null]))] sz) [(h0, Sum.inr (9, [Value.ref (u 0), Value.ref (u 1), Value.ref (u 2), Value.ref (u 3), Value.int 0, Value.int 0, Value.ref (u 4), Value.ref (u 5), Value.ref (u 6), Value.ref (u 7), Value.ref (u 8)])), ((u 0), Sum.inl (cs 0, 40, Sum.inl (fun _ => 0))), ((u 1), Sum.inl (cs 2, 40, Sum.inl (fun _ => 0))), ((u 2), Sum.inl (cs 0, 40, Sum.inl (fun _ => 0))), ((u 3), Sum.inl (cs 0, 40, Sum.inl (fun _ => 0))), ((u 4), Sum.inl (cs 0, 6, Sum.inl (fun _ => 0))), ((u 5), Sum.inl (cs 0, 36, Sum.inl (fun _ => 0))), ((u 6), Sum.inl (cs 0, 448, Sum.inl (fun _ => 0))), ((u 7), Sum.inl (cs 0, 6, Sum.inl (fun _ => 0))), ((u 8), Sum.inl (cs 1, 201, Sum.inr (Sum.inl (fun _ => 0))))] t) (va_A [(h0, Sum.inr (9, [Value.null, Value.null, Value.null, Value.null, Value.int 0, Value.int 0, Value.null, Value.null, Value.null, Value.null, Value.null]))] sz)) 9 857 (va_A [(h0, Sum.inr (9, [Value.null, Value.null, Value.null, Value.null, Value.int 0, Value.int 0, Value.null, Value.null, Value.null, Value.null, Value.null]))] sz) := by
  refine Met.ofW (cc := cX9_init) (maxL := 1) (ret := none) (by decide) rfl ?_
  intro p e s m args below meth c s₁ B hml hv
  obtain ⟨rfl, hsz, hP, hK, hD0, hN⟩ := hv
  have hx := B.exec
  have hb := B.bytes
  have hr := B.returns
  have hts := atoms_spec (ws := Cond.code yX9_init cX9_init 1 none :: gW) B.pre
  have htl : ∀ w ∈ gW, w.before _ s = true := fun w h => hts w (List.mem_cons_of_mem _ h)
  have hown : s.vm.findClass RX9 = some m.cls := findClass_of_methodNamed B.named
  have hlocks := B.notSynchronized
  have hin : meth.name = "<init>" := (name_of_methodNamed B.named B.method).1
  subst hsz
  have hD := hD0.self (sz := s.heap.size)
  generalize hAe : va_A [(h0, Sum.inr (9, [Value.null, Value.null, Value.null, Value.null, Value.int 0, Value.int 0, Value.null, Value.null, Value.null, Value.null, Value.null]))] s.heap.size = A at hD ⊢
  have hA : ∀ q : Nat, s.heap.size ≤ q → A q := fun q h => by rw [← hAe]; exact Or.inr h
  have hS : va_S A s.heap s.heap [] := va_S.rf
  have hl := lv_entry ([Value.ref h0]) (n := 1) (Nat.le_of_ble_eq_true rfl)
  rw [lg_entry_eq]
  generalize (lg_sl ([Value.ref h0]) ++ List.replicate (1 - (lg_sl ([Value.ref h0])).length) Slot.unset).toArray = ls at hl ⊢
  have hl : lv_has ls 1 [(0, Value.ref h0)] := hl
  refine lv_aload_n hx hb dX9_init_0 rfl (lv_at hl 0 rfl) ?_
  refine W.objInit hx hb hown (htl _ lk_RX9_3) (htl _ ob_i) (htl _ ob_c) rfl (by rw [hml]; exact hl.1) rfl dX9_init_1 (Nat.le_of_ble_eq_true rfl) (Nat.le_of_ble_eq_true rfl) ?_
  refine W.eq (g2 := F0 m 4 ls []) rfl ?_
  refine lv_aload_n hx hb dX9_init_4 rfl (lv_at hl 0 rfl) ?_
  refine lv_bipush (v := 40) hx hb dX9_init_5 (by decide) ?_
  refine n_newi (N₉ := 40) hx hb htl hK hP hD hS hA (by decide) (by decide) (Nat.le_of_ble_eq_true rfl) (Nat.le_of_ble_eq_true rfl) (Nat.le_of_ble_eq_true rfl) dX9_init_7 (fun q_1 H hP hD hS => ?_)
  obtain ⟨hP, hD⟩ := PD_as hP [(h0, Sum.inr (9, [Value.null, Value.null, Value.null, Value.null, Value.int 0, Value.int 0, Value.null, Value.null, Value.null, Value.null, Value.null])), (q_1, Sum.inl (cs 0, 40, Sum.inl (fun _ => 0)))] rfl hD
  refine W.widen (k := 1) (n := 40) (by omega) (by omega) ?_
  refine va_putF (ci := 9) (v := Value.ref q_1) (ty := (.array .int)) (C := RX9) (T := TX9) (N := 11) hx hb htl inX9 tyX9 tyX9_ok nmX9 hown hK hP hD hS 0 rfl rfl 0 (by decide) (htl _ fl_RX9_9) (fun _ h9 => h9) rfl hin rfl (by decide +kernel) (by first | rfl | decide) (by first | rfl | decide) (Nat.le_of_ble_eq_true rfl) dX9_init_9 (fun H locs hP hD hS => ?_)
  obtain ⟨hP, hD⟩ := PD_as hP [(h0, Sum.inr (9, [Value.ref q_1, Value.null, Value.null, Value.null, Value.int 0, Value.int 0, Value.null, Value.null, Value.null, Value.null, Value.null])), (q_1, Sum.inl (cs 0, 40, Sum.inl (fun _ => 0)))] rfl hD
  refine lv_aload_n hx hb dX9_init_12 rfl (lv_at hl 0 rfl) ?_
  refine lv_bipush (v := 40) hx hb dX9_init_13 (by decide) ?_
  refine n_newz (N₉ := 40) hx hb htl hK hP hD hS hA (by decide) (by decide) (Nat.le_of_ble_eq_true rfl) (Nat.le_of_ble_eq_true rfl) (Nat.le_of_ble_eq_true rfl) dX9_init_15 (fun q_2 H hP hD hS => ?_)
  obtain ⟨hP, hD⟩ := PD_as hP [(h0, Sum.inr (9, [Value.ref q_1, Value.null, Value.null, Value.null, Value.int 0, Value.int 0, Value.null, Value.null, Value.null, Value.null, Value.null])), (q_1, Sum.inl (cs 0, 40, Sum.inl (fun _ => 0))), (q_2, Sum.inl (cs 2, 40, Sum.inl (fun _ => 0)))] rfl hD
  refine W.widen (k := 2) (n := 80) (by omega) (by omega) ?_
  refine va_putF (ci := 9) (v := Value.ref q_2) (ty := (.array .boolean)) (C := RX9) (T := TX9) (N := 11) hx hb htl inX9 tyX9 tyX9_ok nmX9 hown hK hP hD hS 0 rfl rfl 1 (by decide) (htl _ fl_RX9_15) (fun _ h9 => h9) rfl hin rfl (by decide +kernel) (by first | rfl | decide) (by first | rfl | decide) (Nat.le_of_ble_eq_true rfl) dX9_init_17 (fun H locs hP hD hS => ?_)
  obtain ⟨hP, hD⟩ := PD_as hP [(h0, Sum.inr (9, [Value.ref q_1, Value.ref q_2, Value.null, Value.null, Value.int 0, Value.int 0, Value.null, Value.null, Value.null, Value.null, Value.null])), (q_1, Sum.inl (cs 0, 40, Sum.inl (fun _ => 0))), (q_2, Sum.inl (cs 2, 40, Sum.inl (fun _ => 0)))] rfl hD
  refine lv_aload_n hx hb dX9_init_20 rfl (lv_at hl 0 rfl) ?_
  refine lv_bipush (v := 40) hx hb dX9_init_21 (by decide) ?_
  refine n_newi (N₉ := 40) hx hb htl hK hP hD hS hA (by decide) (by decide) (Nat.le_of_ble_eq_true rfl) (Nat.le_of_ble_eq_true rfl) (Nat.le_of_ble_eq_true rfl) dX9_init_23 (fun q_3 H hP hD hS => ?_)
  obtain ⟨hP, hD⟩ := PD_as hP [(h0, Sum.inr (9, [Value.ref q_1, Value.ref q_2, Value.null, Value.null, Value.int 0, Value.int 0, Value.null, Value.null, Value.null, Value.null, Value.null])), (q_1, Sum.inl (cs 0, 40, Sum.inl (fun _ => 0))), (q_2, Sum.inl (cs 2, 40, Sum.inl (fun _ => 0))), (q_3, Sum.inl (cs 0, 40, Sum.inl (fun _ => 0)))] rfl hD
  refine W.widen (k := 3) (n := 120) (by omega) (by omega) ?_
  refine va_putF (ci := 9) (v := Value.ref q_3) (ty := (.array .int)) (C := RX9) (T := TX9) (N := 11) hx hb htl inX9 tyX9 tyX9_ok nmX9 hown hK hP hD hS 0 rfl rfl 2 (by decide) (htl _ fl_RX9_19) (fun _ h9 => h9) rfl hin rfl (by decide +kernel) (by first | rfl | decide) (by first | rfl | decide) (Nat.le_of_ble_eq_true rfl) dX9_init_25 (fun H locs hP hD hS => ?_)
  obtain ⟨hP, hD⟩ := PD_as hP [(h0, Sum.inr (9, [Value.ref q_1, Value.ref q_2, Value.ref q_3, Value.null, Value.int 0, Value.int 0, Value.null, Value.null, Value.null, Value.null, Value.null])), (q_1, Sum.inl (cs 0, 40, Sum.inl (fun _ => 0))), (q_2, Sum.inl (cs 2, 40, Sum.inl (fun _ => 0))), (q_3, Sum.inl (cs 0, 40, Sum.inl (fun _ => 0)))] rfl hD
  refine lv_aload_n hx hb dX9_init_28 rfl (lv_at hl 0 rfl) ?_
  refine lv_bipush (v := 40) hx hb dX9_init_29 (by decide) ?_
  refine n_newi (N₉ := 40) hx hb htl hK hP hD hS hA (by decide) (by decide) (Nat.le_of_ble_eq_true rfl) (Nat.le_of_ble_eq_true rfl) (Nat.le_of_ble_eq_true rfl) dX9_init_31 (fun q_4 H hP hD hS => ?_)
  obtain ⟨hP, hD⟩ := PD_as hP [(h0, Sum.inr (9, [Value.ref q_1, Value.ref q_2, Value.ref q_3, Value.null, Value.int 0, Value.int 0, Value.null, Value.null, Value.null, Value.null, Value.null])), (q_1, Sum.inl (cs 0, 40, Sum.inl (fun _ => 0))), (q_2, Sum.inl (cs 2, 40, Sum.inl (fun _ => 0))), (q_3, Sum.inl (cs 0, 40, Sum.inl (fun _ => 0))), (q_4, Sum.inl (cs 0, 40, Sum.inl (fun _ => 0)))] rfl hD
  refine W.widen (k := 4) (n := 160) (by omega) (by omega) ?_
  refine va_putF (ci := 9) (v := Value.ref q_4) (ty := (.array .int)) (C := RX9) (T := TX9) (N := 11) hx hb htl inX9 tyX9 tyX9_ok nmX9 hown hK hP hD hS 0 rfl rfl 3 (by decide) (htl _ fl_RX9_22) (fun _ h9 => h9) rfl hin rfl (by decide +kernel) (by first | rfl | decide) (by first | rfl | decide) (Nat.le_of_ble_eq_true rfl) dX9_init_33 (fun H locs hP hD hS => ?_)
  obtain ⟨hP, hD⟩ := PD_as hP [(h0, Sum.inr (9, [Value.ref q_1, Value.ref q_2, Value.ref q_3, Value.ref q_4, Value.int 0, Value.int 0, Value.null, Value.null, Value.null, Value.null, Value.null])), (q_1, Sum.inl (cs 0, 40, Sum.inl (fun _ => 0))), (q_2, Sum.inl (cs 2, 40, Sum.inl (fun _ => 0))), (q_3, Sum.inl (cs 0, 40, Sum.inl (fun _ => 0))), (q_4, Sum.inl (cs 0, 40, Sum.inl (fun _ => 0)))] rfl hD
  refine lv_aload_n hx hb dX9_init_36 rfl (lv_at hl 0 rfl) ?_
  refine lv_bipush (v := 6) hx hb dX9_init_37 (by decide) ?_
  refine n_newi (N₉ := 6) hx hb htl hK hP hD hS hA (by decide) (by decide) (Nat.le_of_ble_eq_true rfl) (Nat.le_of_ble_eq_true rfl) (Nat.le_of_ble_eq_true rfl) dX9_init_39 (fun q_5 H hP hD hS => ?_)
  obtain ⟨hP, hD⟩ := PD_as hP [(h0, Sum.inr (9, [Value.ref q_1, Value.ref q_2, Value.ref q_3, Value.ref q_4, Value.int 0, Value.int 0, Value.null, Value.null, Value.null, Value.null, Value.null])), (q_1, Sum.inl (cs 0, 40, Sum.inl (fun _ => 0))), (q_2, Sum.inl (cs 2, 40, Sum.inl (fun _ => 0))), (q_3, Sum.inl (cs 0, 40, Sum.inl (fun _ => 0))), (q_4, Sum.inl (cs 0, 40, Sum.inl (fun _ => 0))), (q_5, Sum.inl (cs 0, 6, Sum.inl (fun _ => 0)))] rfl hD
  refine W.widen (k := 5) (n := 166) (by omega) (by omega) ?_
  refine va_putF (ci := 9) (v := Value.ref q_5) (ty := (.array .int)) (C := RX9) (T := TX9) (N := 11) hx hb htl inX9 tyX9 tyX9_ok nmX9 hown hK hP hD hS 0 rfl rfl 6 (by decide) (htl _ fl_RX9_25) (fun _ h9 => h9) rfl hin rfl (by decide +kernel) (by first | rfl | decide) (by first | rfl | decide) (Nat.le_of_ble_eq_true rfl) dX9_init_41 (fun H locs hP hD hS => ?_)
  obtain ⟨hP, hD⟩ := PD_as hP [(h0, Sum.inr (9, [Value.ref q_1, Value.ref q_2, Value.ref q_3, Value.ref q_4, Value.int 0, Value.int 0, Value.ref q_5, Value.null, Value.null, Value.null, Value.null])), (q_1, Sum.inl (cs 0, 40, Sum.inl (fun _ => 0))), (q_2, Sum.inl (cs 2, 40, Sum.inl (fun _ => 0))), (q_3, Sum.inl (cs 0, 40, Sum.inl (fun _ => 0))), (q_4, Sum.inl (cs 0, 40, Sum.inl (fun _ => 0))), (q_5, Sum.inl (cs 0, 6, Sum.inl (fun _ => 0)))] rfl hD
  refine lv_aload_n hx hb dX9_init_44 rfl (lv_at hl 0 rfl) ?_
  refine lv_bipush (v := 36) hx hb dX9_init_45 (by decide) ?_
  refine n_newi (N₉ := 36) hx hb htl hK hP hD hS hA (by decide) (by decide) (Nat.le_of_ble_eq_true rfl) (Nat.le_of_ble_eq_true rfl) (Nat.le_of_ble_eq_true rfl) dX9_init_47 (fun q_6 H hP hD hS => ?_)
  obtain ⟨hP, hD⟩ := PD_as hP [(h0, Sum.inr (9, [Value.ref q_1, Value.ref q_2, Value.ref q_3, Value.ref q_4, Value.int 0, Value.int 0, Value.ref q_5, Value.null, Value.null, Value.null, Value.null])), (q_1, Sum.inl (cs 0, 40, Sum.inl (fun _ => 0))), (q_2, Sum.inl (cs 2, 40, Sum.inl (fun _ => 0))), (q_3, Sum.inl (cs 0, 40, Sum.inl (fun _ => 0))), (q_4, Sum.inl (cs 0, 40, Sum.inl (fun _ => 0))), (q_5, Sum.inl (cs 0, 6, Sum.inl (fun _ => 0))), (q_6, Sum.inl (cs 0, 36, Sum.inl (fun _ => 0)))] rfl hD
  refine W.widen (k := 6) (n := 202) (by omega) (by omega) ?_
  refine va_putF (ci := 9) (v := Value.ref q_6) (ty := (.array .int)) (C := RX9) (T := TX9) (N := 11) hx hb htl inX9 tyX9 tyX9_ok nmX9 hown hK hP hD hS 0 rfl rfl 7 (by decide) (htl _ fl_RX9_28) (fun _ h9 => h9) rfl hin rfl (by decide +kernel) (by first | rfl | decide) (by first | rfl | decide) (Nat.le_of_ble_eq_true rfl) dX9_init_49 (fun H locs hP hD hS => ?_)
  obtain ⟨hP, hD⟩ := PD_as hP [(h0, Sum.inr (9, [Value.ref q_1, Value.ref q_2, Value.ref q_3, Value.ref q_4, Value.int 0, Value.int 0, Value.ref q_5, Value.ref q_6, Value.null, Value.null, Value.null])), (q_1, Sum.inl (cs 0, 40, Sum.inl (fun _ => 0))), (q_2, Sum.inl (cs 2, 40, Sum.inl (fun _ => 0))), (q_3, Sum.inl (cs 0, 40, Sum.inl (fun _ => 0))), (q_4, Sum.inl (cs 0, 40, Sum.inl (fun _ => 0))), (q_5, Sum.inl (cs 0, 6, Sum.inl (fun _ => 0))), (q_6, Sum.inl (cs 0, 36, Sum.inl (fun _ => 0)))] rfl hD
  refine lv_aload_n hx hb dX9_init_52 rfl (lv_at hl 0 rfl) ?_
  refine lv_sipush (v := 448) hx hb dX9_init_53 (by decide) ?_
  refine n_newi (N₉ := 448) hx hb htl hK hP hD hS hA (by decide) (by decide) (Nat.le_of_ble_eq_true rfl) (Nat.le_of_ble_eq_true rfl) (Nat.le_of_ble_eq_true rfl) dX9_init_56 (fun q_7 H hP hD hS => ?_)
  obtain ⟨hP, hD⟩ := PD_as hP [(h0, Sum.inr (9, [Value.ref q_1, Value.ref q_2, Value.ref q_3, Value.ref q_4, Value.int 0, Value.int 0, Value.ref q_5, Value.ref q_6, Value.null, Value.null, Value.null])), (q_1, Sum.inl (cs 0, 40, Sum.inl (fun _ => 0))), (q_2, Sum.inl (cs 2, 40, Sum.inl (fun _ => 0))), (q_3, Sum.inl (cs 0, 40, Sum.inl (fun _ => 0))), (q_4, Sum.inl (cs 0, 40, Sum.inl (fun _ => 0))), (q_5, Sum.inl (cs 0, 6, Sum.inl (fun _ => 0))), (q_6, Sum.inl (cs 0, 36, Sum.inl (fun _ => 0))), (q_7, Sum.inl (cs 0, 448, Sum.inl (fun _ => 0)))] rfl hD
  refine W.widen (k := 7) (n := 650) (by omega) (by omega) ?_
  refine va_putF (ci := 9) (v := Value.ref q_7) (ty := (.array .int)) (C := RX9) (T := TX9) (N := 11) hx hb htl inX9 tyX9 tyX9_ok nmX9 hown hK hP hD hS 0 rfl rfl 8 (by decide) (htl _ fl_RX9_31) (fun _ h9 => h9) rfl hin rfl (by decide +kernel) (by first | rfl | decide) (by first | rfl | decide) (Nat.le_of_ble_eq_true rfl) dX9_init_58 (fun H locs hP hD hS => ?_)
  obtain ⟨hP, hD⟩ := PD_as hP [(h0, Sum.inr (9, [Value.ref q_1, Value.ref q_2, Value.ref q_3, Value.ref q_4, Value.int 0, Value.int 0, Value.ref q_5, Value.ref q_6, Value.ref q_7, Value.null, Value.null])), (q_1, Sum.inl (cs 0, 40, Sum.inl (fun _ => 0))), (q_2, Sum.inl (cs 2, 40, Sum.inl (fun _ => 0))), (q_3, Sum.inl (cs 0, 40, Sum.inl (fun _ => 0))), (q_4, Sum.inl (cs 0, 40, Sum.inl (fun _ => 0))), (q_5, Sum.inl (cs 0, 6, Sum.inl (fun _ => 0))), (q_6, Sum.inl (cs 0, 36, Sum.inl (fun _ => 0))), (q_7, Sum.inl (cs 0, 448, Sum.inl (fun _ => 0)))] rfl hD
  refine lv_aload_n hx hb dX9_init_61 rfl (lv_at hl 0 rfl) ?_
  refine lv_bipush (v := 6) hx hb dX9_init_62 (by decide) ?_
  refine n_newi (N₉ := 6) hx hb htl hK hP hD hS hA (by decide) (by decide) (Nat.le_of_ble_eq_true rfl) (Nat.le_of_ble_eq_true rfl) (Nat.le_of_ble_eq_true rfl) dX9_init_64 (fun q_8 H hP hD hS => ?_)
  obtain ⟨hP, hD⟩ := PD_as hP [(h0, Sum.inr (9, [Value.ref q_1, Value.ref q_2, Value.ref q_3, Value.ref q_4, Value.int 0, Value.int 0, Value.ref q_5, Value.ref q_6, Value.ref q_7, Value.null, Value.null])), (q_1, Sum.inl (cs 0, 40, Sum.inl (fun _ => 0))), (q_2, Sum.inl (cs 2, 40, Sum.inl (fun _ => 0))), (q_3, Sum.inl (cs 0, 40, Sum.inl (fun _ => 0))), (q_4, Sum.inl (cs 0, 40, Sum.inl (fun _ => 0))), (q_5, Sum.inl (cs 0, 6, Sum.inl (fun _ => 0))), (q_6, Sum.inl (cs 0, 36, Sum.inl (fun _ => 0))), (q_7, Sum.inl (cs 0, 448, Sum.inl (fun _ => 0))), (q_8, Sum.inl (cs 0, 6, Sum.inl (fun _ => 0)))] rfl hD
  refine W.widen (k := 8) (n := 656) (by omega) (by omega) ?_
  refine va_putF (ci := 9) (v := Value.ref q_8) (ty := (.array .int)) (C := RX9) (T := TX9) (N := 11) hx hb htl inX9 tyX9 tyX9_ok nmX9 hown hK hP hD hS 0 rfl rfl 9 (by decide) (htl _ fl_RX9_34) (fun _ h9 => h9) rfl hin rfl (by decide +kernel) (by first | rfl | decide) (by first | rfl | decide) (Nat.le_of_ble_eq_true rfl) dX9_init_66 (fun H locs hP hD hS => ?_)
  obtain ⟨hP, hD⟩ := PD_as hP [(h0, Sum.inr (9, [Value.ref q_1, Value.ref q_2, Value.ref q_3, Value.ref q_4, Value.int 0, Value.int 0, Value.ref q_5, Value.ref q_6, Value.ref q_7, Value.ref q_8, Value.null])), (q_1, Sum.inl (cs 0, 40, Sum.inl (fun _ => 0))), (q_2, Sum.inl (cs 2, 40, Sum.inl (fun _ => 0))), (q_3, Sum.inl (cs 0, 40, Sum.inl (fun _ => 0))), (q_4, Sum.inl (cs 0, 40, Sum.inl (fun _ => 0))), (q_5, Sum.inl (cs 0, 6, Sum.inl (fun _ => 0))), (q_6, Sum.inl (cs 0, 36, Sum.inl (fun _ => 0))), (q_7, Sum.inl (cs 0, 448, Sum.inl (fun _ => 0))), (q_8, Sum.inl (cs 0, 6, Sum.inl (fun _ => 0)))] rfl hD
  refine lv_aload_n hx hb dX9_init_69 rfl (lv_at hl 0 rfl) ?_
  refine lv_sipush (v := 201) hx hb dX9_init_70 (by decide) ?_
  refine n_newl (N₉ := 201) hx hb htl hK hP hD hS hA (by decide) (by decide) (Nat.le_of_ble_eq_true rfl) (Nat.le_of_ble_eq_true rfl) (Nat.le_of_ble_eq_true rfl) dX9_init_73 (fun q_9 H hP hD hS => ?_)
  obtain ⟨hP, hD⟩ := PD_as hP [(h0, Sum.inr (9, [Value.ref q_1, Value.ref q_2, Value.ref q_3, Value.ref q_4, Value.int 0, Value.int 0, Value.ref q_5, Value.ref q_6, Value.ref q_7, Value.ref q_8, Value.null])), (q_1, Sum.inl (cs 0, 40, Sum.inl (fun _ => 0))), (q_2, Sum.inl (cs 2, 40, Sum.inl (fun _ => 0))), (q_3, Sum.inl (cs 0, 40, Sum.inl (fun _ => 0))), (q_4, Sum.inl (cs 0, 40, Sum.inl (fun _ => 0))), (q_5, Sum.inl (cs 0, 6, Sum.inl (fun _ => 0))), (q_6, Sum.inl (cs 0, 36, Sum.inl (fun _ => 0))), (q_7, Sum.inl (cs 0, 448, Sum.inl (fun _ => 0))), (q_8, Sum.inl (cs 0, 6, Sum.inl (fun _ => 0))), (q_9, Sum.inl (cs 1, 201, Sum.inr (Sum.inl (fun _ => 0))))] rfl hD
  refine W.widen (k := 9) (n := 857) (by omega) (by omega) ?_
  refine va_putF (ci := 9) (v := Value.ref q_9) (ty := (.array .long)) (C := RX9) (T := TX9) (N := 11) hx hb htl inX9 tyX9 tyX9_ok nmX9 hown hK hP hD hS 0 rfl rfl 10 (by decide) (htl _ fl_RX9_37) (fun _ h9 => h9) rfl hin rfl (by decide +kernel) (by first | rfl | decide) (by first | rfl | decide) (Nat.le_of_ble_eq_true rfl) dX9_init_75 (fun H locs hP hD hS => ?_)
  obtain ⟨hP, hD⟩ := PD_as hP [(h0, Sum.inr (9, [Value.ref q_1, Value.ref q_2, Value.ref q_3, Value.ref q_4, Value.int 0, Value.int 0, Value.ref q_5, Value.ref q_6, Value.ref q_7, Value.ref q_8, Value.ref q_9])), (q_1, Sum.inl (cs 0, 40, Sum.inl (fun _ => 0))), (q_2, Sum.inl (cs 2, 40, Sum.inl (fun _ => 0))), (q_3, Sum.inl (cs 0, 40, Sum.inl (fun _ => 0))), (q_4, Sum.inl (cs 0, 40, Sum.inl (fun _ => 0))), (q_5, Sum.inl (cs 0, 6, Sum.inl (fun _ => 0))), (q_6, Sum.inl (cs 0, 36, Sum.inl (fun _ => 0))), (q_7, Sum.inl (cs 0, 448, Sum.inl (fun _ => 0))), (q_8, Sum.inl (cs 0, 6, Sum.inl (fun _ => 0))), (q_9, Sum.inl (cs 1, 201, Sum.inr (Sum.inl (fun _ => 0))))] rfl hD
  refine W.widen (k := 9) (n := 857) (by omega) (by omega) ?_
  obtain ⟨hP9, hD9⟩ := PD_pk hP hD [(h0, Sum.inr (9, [Value.ref q_1, Value.ref q_2, Value.ref q_3, Value.ref q_4, Value.int 0, Value.int 0, Value.ref q_5, Value.ref q_6, Value.ref q_7, Value.ref q_8, Value.ref q_9])), (q_1, Sum.inl (cs 0, 40, Sum.inl (fun _ => 0))), (q_2, Sum.inl (cs 2, 40, Sum.inl (fun _ => 0))), (q_3, Sum.inl (cs 0, 40, Sum.inl (fun _ => 0))), (q_4, Sum.inl (cs 0, 40, Sum.inl (fun _ => 0))), (q_5, Sum.inl (cs 0, 6, Sum.inl (fun _ => 0))), (q_6, Sum.inl (cs 0, 36, Sum.inl (fun _ => 0))), (q_7, Sum.inl (cs 0, 448, Sum.inl (fun _ => 0))), (q_8, Sum.inl (cs 0, 6, Sum.inl (fun _ => 0))), (q_9, Sum.inl (cs 1, 201, Sum.inr (Sum.inl (fun _ => 0))))] [0, 1, 2, 3, 4, 5, 6, 7, 8, 9] rfl rfl
  exact W.vret hx hb hr (fun t ht hW => ⟨⟨(fun k => match k with | 0 => q_1 | 1 => q_2 | 2 => q_3 | 3 => q_4 | 4 => q_5 | 5 => q_6 | 6 => q_7 | 7 => q_8 | 8 => q_9 | _ => 0), rfl, trivial, ⟨by rw [ht]; exact hP9, va_K.moved hW.alike hK, hD9⟩⟩, hS.F ht⟩) hS.2.2 dX9_init_78

theorem c_X3_init (l : Launch) (G : va_G) (cs : Nat → ClassId) (h0 : Nat) (aA : Nat) (sz : Nat) : Met l yX3_init (Cond.code yX3_init cX3_init 2 none :: gW) ({ frames := 1, cells := 3, slots := 180, locals := 24 }) (va_Pc [Value.ref h0, Value.ref aA] (Pre G cs [(h0, Sum.inr (3, [Value.null, Value.null, Value.null, Value.null]))] sz)) (va_Qv (fun (u : Nat → Nat) => True) (fun (u : Nat → Nat) t => Aft G cs (va_A [(h0, Sum.inr (3, [Value.null, Value.null, Value.null, Value.null]))] sz) [(h0, Sum.inr (3, [Value.ref aA, Value.ref (u 0), Value.ref (u 1), Value.ref (u 2)])), ((u 0), Sum.inl (cs 0, 40, Sum.inl (fun _ => 0))), ((u 1), Sum.inl (cs 0, 40, Sum.inl (fun _ => 0))), ((u 2), Sum.inl (cs 0, 100, Sum.inl (fun _ => 0)))] t) (va_A [(h0, Sum.inr (3, [Value.null, Value.null, Value.null, Value.null]))] sz)) 3 180 (va_A [(h0, Sum.inr (3, [Value.null, Value.null, Value.null, Value.null]))] sz) := by
  refine Met.ofW (cc := cX3_init) (maxL := 2) (ret := none) (by decide) rfl ?_
  intro p e s m args below meth c s₁ B hml hv
  obtain ⟨rfl, hsz, hP, hK, hD0, hN⟩ := hv
  have hx := B.exec
  have hb := B.bytes
  have hr := B.returns
  have hts := atoms_spec (ws := Cond.code yX3_init cX3_init 2 none :: gW) B.pre
  have htl : ∀ w ∈ gW, w.before _ s = true := fun w h => hts w (List.mem_cons_of_mem _ h)
  have hown : s.vm.findClass RX3 = some m.cls := findClass_of_methodNamed B.named
  have hlocks := B.notSynchronized
  have hin : meth.name = "<init>" := (name_of_methodNamed B.named B.method).1
  subst hsz
  have hD := hD0.self (sz := s.heap.size)
  generalize hAe : va_A [(h0, Sum.inr (3, [Value.null, Value.null, Value.null, Value.null]))] s.heap.size = A at hD ⊢
  have hA : ∀ q : Nat, s.heap.size ≤ q → A q := fun q h => by rw [← hAe]; exact Or.inr h
  have hS : va_S A s.heap s.heap [] := va_S.rf
  have hl := lv_entry ([Value.ref h0, Value.ref aA]) (n := 2) (Nat.le_of_ble_eq_true rfl)
  rw [lg_entry_eq]
  generalize (lg_sl ([Value.ref h0, Value.ref aA]) ++ List.replicate (2 - (lg_sl ([Value.ref h0, Value.ref aA])).length) Slot.unset).toArray = ls at hl ⊢
  have hl : lv_has ls 2 [(0, Value.ref h0), (1, Value.ref aA)] := hl
  refine lv_aload_n hx hb dX3_init_0 rfl (lv_at hl 0 rfl) ?_
  refine W.objInit hx hb hown (htl _ lk_RX3_3) (htl _ ob_i) (htl _ ob_c) rfl (by rw [hml]; exact hl.1) rfl dX3_init_1 (Nat.le_of_ble_eq_true rfl) (Nat.le_of_ble_eq_true rfl) ?_
  refine W.eq (g2 := F0 m 4 ls []) rfl ?_
  refine lv_aload_n hx hb dX3_init_4 rfl (lv_at hl 0 rfl) ?_
  refine lv_bipush (v := 40) hx hb dX3_init_5 (by decide) ?_
  refine n_newi (N₉ := 40) hx hb htl hK hP hD hS hA (by decide) (by decide) (Nat.le_of_ble_eq_true rfl) (Nat.le_of_ble_eq_true rfl) (Nat.le_of_ble_eq_true rfl) dX3_init_7 (fun q_1 H hP hD hS => ?_)
  obtain ⟨hP, hD⟩ := PD_as hP [(h0, Sum.inr (3, [Value.null, Value.null, Value.null, Value.null])), (q_1, Sum.inl (cs 0, 40, Sum.inl (fun _ => 0)))] rfl hD
  refine W.widen (k := 1) (n := 40) (by omega) (by omega) ?_
  refine va_putF (ci := 3) (v := Value.ref q_1) (ty := (.array .int)) (C := RX3) (T := TX3) (N := 4) hx hb htl inX3 tyX3 tyX3_ok nmX3 hown hK hP hD hS 0 rfl rfl 1 (by decide) (htl _ fl_RX3_9) (fun _ h9 => h9) rfl hin rfl (by decide +kernel) (by first | rfl | decide) (by first | rfl | decide) (Nat.le_of_ble_eq_true rfl) dX3_init_9 (fun H locs hP hD hS => ?_)
  obtain ⟨hP, hD⟩ := PD_as hP [(h0, Sum.inr (3, [Value.null, Value.ref q_1, Value.null, Value.null])), (q_1, Sum.inl (cs 0, 40, Sum.inl (fun _ => 0)))] rfl hD
  refine lv_aload_n hx hb dX3_init_12 rfl (lv_at hl 0 rfl) ?_
  refine lv_bipush (v := 40) hx hb dX3_init_13 (by decide) ?_
  refine n_newi (N₉ := 40) hx hb htl hK hP hD hS hA (by decide) (by decide) (Nat.le_of_ble_eq_true rfl) (Nat.le_of_ble_eq_true rfl) (Nat.le_of_ble_eq_true rfl) dX3_init_15 (fun q_2 H hP hD hS => ?_)
  obtain ⟨hP, hD⟩ := PD_as hP [(h0, Sum.inr (3, [Value.null, Value.ref q_1, Value.null, Value.null])), (q_1, Sum.inl (cs 0, 40, Sum.inl (fun _ => 0))), (q_2, Sum.inl (cs 0, 40, Sum.inl (fun _ => 0)))] rfl hD
  refine W.widen (k := 2) (n := 80) (by omega) (by omega) ?_
  refine va_putF (ci := 3) (v := Value.ref q_2) (ty := (.array .int)) (C := RX3) (T := TX3) (N := 4) hx hb htl inX3 tyX3 tyX3_ok nmX3 hown hK hP hD hS 0 rfl rfl 2 (by decide) (htl _ fl_RX3_15) (fun _ h9 => h9) rfl hin rfl (by decide +kernel) (by first | rfl | decide) (by first | rfl | decide) (Nat.le_of_ble_eq_true rfl) dX3_init_17 (fun H locs hP hD hS => ?_)
  obtain ⟨hP, hD⟩ := PD_as hP [(h0, Sum.inr (3, [Value.null, Value.ref q_1, Value.ref q_2, Value.null])), (q_1, Sum.inl (cs 0, 40, Sum.inl (fun _ => 0))), (q_2, Sum.inl (cs 0, 40, Sum.inl (fun _ => 0)))] rfl hD
  refine lv_aload_n hx hb dX3_init_20 rfl (lv_at hl 0 rfl) ?_
  refine lv_bipush (v := 100) hx hb dX3_init_21 (by decide) ?_
  refine n_newi (N₉ := 100) hx hb htl hK hP hD hS hA (by decide) (by decide) (Nat.le_of_ble_eq_true rfl) (Nat.le_of_ble_eq_true rfl) (Nat.le_of_ble_eq_true rfl) dX3_init_23 (fun q_3 H hP hD hS => ?_)
  obtain ⟨hP, hD⟩ := PD_as hP [(h0, Sum.inr (3, [Value.null, Value.ref q_1, Value.ref q_2, Value.null])), (q_1, Sum.inl (cs 0, 40, Sum.inl (fun _ => 0))), (q_2, Sum.inl (cs 0, 40, Sum.inl (fun _ => 0))), (q_3, Sum.inl (cs 0, 100, Sum.inl (fun _ => 0)))] rfl hD
  refine W.widen (k := 3) (n := 180) (by omega) (by omega) ?_
  refine va_putF (ci := 3) (v := Value.ref q_3) (ty := (.array .int)) (C := RX3) (T := TX3) (N := 4) hx hb htl inX3 tyX3 tyX3_ok nmX3 hown hK hP hD hS 0 rfl rfl 3 (by decide) (htl _ fl_RX3_18) (fun _ h9 => h9) rfl hin rfl (by decide +kernel) (by first | rfl | decide) (by first | rfl | decide) (Nat.le_of_ble_eq_true rfl) dX3_init_25 (fun H locs hP hD hS => ?_)
  obtain ⟨hP, hD⟩ := PD_as hP [(h0, Sum.inr (3, [Value.null, Value.ref q_1, Value.ref q_2, Value.ref q_3])), (q_1, Sum.inl (cs 0, 40, Sum.inl (fun _ => 0))), (q_2, Sum.inl (cs 0, 40, Sum.inl (fun _ => 0))), (q_3, Sum.inl (cs 0, 100, Sum.inl (fun _ => 0)))] rfl hD
  refine lv_aload_n hx hb dX3_init_28 rfl (lv_at hl 0 rfl) ?_
  refine lv_aload_n hx hb dX3_init_29 rfl (lv_at hl 1 rfl) ?_
  refine va_putF (ci := 3) (v := Value.ref aA) (ty := (.object "ListenWells$Asker")) (C := RX3) (T := TX3) (N := 4) hx hb htl inX3 tyX3 tyX3_ok nmX3 hown hK hP hD hS 0 rfl rfl 0 (by decide) (htl _ fl_RX3_21) (fun _ h9 => h9) rfl hin rfl (by decide +kernel) (by first | rfl | decide) (by first | rfl | decide) (Nat.le_of_ble_eq_true rfl) dX3_init_30 (fun H locs hP hD hS => ?_)
  obtain ⟨hP, hD⟩ := PD_as hP [(h0, Sum.inr (3, [Value.ref aA, Value.ref q_1, Value.ref q_2, Value.ref q_3])), (q_1, Sum.inl (cs 0, 40, Sum.inl (fun _ => 0))), (q_2, Sum.inl (cs 0, 40, Sum.inl (fun _ => 0))), (q_3, Sum.inl (cs 0, 100, Sum.inl (fun _ => 0)))] rfl hD
  refine W.widen (k := 3) (n := 180) (by omega) (by omega) ?_
  obtain ⟨hP9, hD9⟩ := PD_pk hP hD [(h0, Sum.inr (3, [Value.ref aA, Value.ref q_1, Value.ref q_2, Value.ref q_3])), (q_1, Sum.inl (cs 0, 40, Sum.inl (fun _ => 0))), (q_2, Sum.inl (cs 0, 40, Sum.inl (fun _ => 0))), (q_3, Sum.inl (cs 0, 100, Sum.inl (fun _ => 0)))] [0, 1, 2, 3] rfl rfl
  exact W.vret hx hb hr (fun t ht hW => ⟨⟨(fun k => match k with | 0 => q_1 | 1 => q_2 | 2 => q_3 | _ => 0), rfl, trivial, ⟨by rw [ht]; exact hP9, va_K.moved hW.alike hK, hD9⟩⟩, hS.F ht⟩) hS.2.2 dX3_init_33

section NEW_n_newW
variable {p : Program} {l : Launch} {e : Env} {R : Room} {s : State} {m : MethodId} {args : Array Value} {below : List Frame} {meth : Method} {c : Code} {H H0 : Heap} {locs : List Loc} {cells slots : Nat} {Q : State → Prop} {cc : ByteArray} {pc : Nat} {ls : Array Slot} {rest : List Value} {G : va_G} {cs : Nat → ClassId} {A : Nat → Prop} {ws : va_W}
theorem n_newW {own : String} {index : Nat} (hx : p.tables.exec = Jvm.exec) (hb : c.code = cc) (hown : s.vm.findClass own = some m.cls) (hcl : (Cond.classLink own index "ListenWells$World").before args s = true) (hN0 : NW s) (hK : va_K G vwCl (tyL cs) s) (hP : va_P G vwCl ws H) (hD : va_D A ws) (hS : va_S A H0 H locs) (hA : ∀ q, H0.size ≤ q → A q) {n : Int32} {N₉ : Nat} (hn : ¬ n < 0) (hN : n.toNatClampNeg = N₉) (hbytes : N₉ * 4 ≤ 536870912) (hcells : cells + 1 ≤ R.cells) (hslots : slots + N₉ ≤ R.slots) (hdg : decode cc pc = .ok (.anewarray index, 3))
    (kk : ∀ (q : Nat) (H1 : Heap), va_P G vwCl (ws ++ [(q, Sum.inl (cs 4, N₉, Sum.inr (Sum.inr (Sum.inr (Sum.inr (fun _ => none))))))]) H1 → va_D A (ws ++ [(q, Sum.inl (cs 4, N₉, Sum.inr (Sum.inr (Sum.inr (Sum.inr (fun _ => none))))))]) → va_S A H0 H1 locs → W p l e R s m args below meth c H1 locs (cells + 1) (slots + N₉) Q (F0 m (pc + 3) ls (Value.ref q :: rest))) : W p l e R s m args below meth c H locs cells slots Q (F0 m pc ls (Value.int n :: rest)) := by
  refine va_newq hx hb hown hcl hN0.2.2 hK hP hD hS hA hn hN hbytes hcells hslots hdg (fun q cA H1 hK1 hP1 hD1 hS1 => ?_)
  obtain rfl := cA_u (k := 4) hK1 rfl
  exact kk q H1 hP1 hD1 hS1
end NEW_n_newW
