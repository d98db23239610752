theorem fl_0 (f : Nat → Int32) (v : Int32) : fl f 0 v = f := by
  funext k
  unfold fl
  rw [if_neg (Nat.not_lt_zero k)]
theorem fl_up {f : Nat → Int32} {i : Nat} {v : Int32} (h : i < 2 ^ 31) : upd (fl f i v) (nI i).toNatClampNeg v = fl f (i + 1) v := by
  rw [nI_clamp h]
  funext k
  unfold upd fl
  by_cases h1 : k = i
  · rw [if_pos h1, if_pos (by omega)]
  · rw [if_neg h1]
    by_cases h2 : k < i
    · rw [if_pos h2, if_pos (by omega)]
    · rw [if_neg h2, if_neg (by omega)]
def hbt : Nat → Int64
  | 0 => 0
  | i + 1 => hbt i ||| ((1 : Int64) <<< ((nI i).toInt64 &&& 63))
set_option maxHeartbeats 1000000 in
set_option maxRecDepth 100000 in
theorem lp_fill40 (l : Launch) (G : va_G) (cs : Nat → ClassId) (h0 : Nat) (v : Int32) (f : Nat → Int32) {p : Program} {e : Env} {s : State} {m : MethodId} {args : Array Value} {below : List Frame} {meth : Method} {c : Code} {Q : State → Prop} {A : Nat → Prop} {H0 : Heap} (hx : p.tables.exec = Jvm.exec) (hb : c.code = cJ7_fill_53178) (hml : c.maxLocals = 4) (hown : s.vm.findClass RJ7 = some m.cls) (htl : ∀ w ∈ gW, w.before args s = true) (hN : NW s) (hK : va_K G vwCl (tyL cs) s) (hA : ∀ q, H0.size ≤ q → A q) (K : ∀ (H : Heap) (locs : List Loc) (ls : Array Slot), va_P G vwCl [(h0, .inl (cs 0, 40, .inl (fl f 40 v)))] H → va_D A [(h0, .inl (cs 0, 40, .inl (fl f 40 v)))] → va_S A H0 H locs → lv_has ls 4 [(0, .ref h0), (1, .int v), (2, .int (nI 40)), (3, .int 40)] → W p l e (headSpec (Cond.code yJ7_fill_53178 cJ7_fill_53178 4 none :: gW) ({ frames := 0, cells := 0, slots := 0, locals := 0 })).room s m args below meth c H locs 0 0 Q (F0 m 20 ls [])) : ∀ (n i : Nat), i + n = 40 → ∀ (H : Heap) (locs : List Loc) (ls : Array Slot), va_P G vwCl [(h0, .inl (cs 0, 40, .inl (fl f i v)))] H → va_D A [(h0, .inl (cs 0, 40, .inl (fl f i v)))] → va_S A H0 H locs → lv_has ls 4 [(0, .ref h0), (1, .int v), (2, .int (nI i)), (3, .int 40)] → W p l e (headSpec (Cond.code yJ7_fill_53178 cJ7_fill_53178 4 none :: gW) ({ frames := 0, cells := 0, slots := 0, locals := 0 })).room s m args below meth c H locs 0 0 Q (F0 m 5 ls []) := by
  intro n
  induction n with
  | zero =>
    intro i hi H locs ls hP hD hS hl
    obtain rfl : i = 40 := by omega
    refine lv_iload_n hx hb dJ7_fill_53178_5 rfl (lv_at hl 2 rfl) ?_
    refine lv_iload_n hx hb dJ7_fill_53178_6 rfl (lv_at hl 3 rfl) ?_
    refine lv_icmp_ge (tgt := 20) hx hb dJ7_fill_53178_7 (by decide) (fun _ => ?_) (fun h => absurd (by decide) h)
    exact K H locs ls (hP.pick (is := [0]) rfl) (hD.sub [0] rfl rfl) hS (lv_sub hl [0, 1, 2, 3] rfl)
  | succ n ih =>
    intro i hi H locs ls hP hD hS hl
    refine lv_iload_n hx hb dJ7_fill_53178_5 rfl (lv_at hl 2 rfl) ?_
    refine lv_iload_n hx hb dJ7_fill_53178_6 rfl (lv_at hl 3 rfl) ?_
    refine lv_icmp_ge (tgt := 20) hx hb dJ7_fill_53178_7 (by decide) (fun h => absurd h (nI_ge (a := i) (b := 40) (by omega) (by decide))) (fun _ => ?_)
    refine lv_aload_n hx hb dJ7_fill_53178_10 rfl (lv_at hl 0 rfl) ?_
    refine lv_iload_n hx hb dJ7_fill_53178_11 rfl (lv_at hl 2 rfl) ?_
    refine lv_iload_n hx hb dJ7_fill_53178_12 rfl (lv_at hl 1 rfl) ?_
    refine va_iast hx hb hK hP hD hS 0 0 rfl rfl (vp_in_nI (by omega) (by decide)) dJ7_fill_53178_13 (fun H locs hP hD hS => ?_)
    have hP : va_P G vwCl [(h0, .inl (cs 0, 40, .inl (upd (fl f i v) (nI i).toNatClampNeg v)))] H := hP
    have hD : va_D A [(h0, .inl (cs 0, 40, .inl (upd (fl f i v) (nI i).toNatClampNeg v)))] := hD
    refine lv_iinc (v := ((nI i) + 1)) (lv' := [(2, .int ((nI i) + 1)), (0, .ref h0), (1, .int v), (3, .int 40)]) hx hb dJ7_fill_53178_14 hl (k := 2) rfl (by first | rfl | decide) (by decide) rfl (fun ls hl => ?_)
    refine lv_goto (tgt := 5) hx hb dJ7_fill_53178_17 (by decide) ?_
    rw [fl_up (i := i) (by omega)] at hP hD
    rw [nI_1] at hl
    exact ih (i + 1) (by omega) H locs ls (hP.pick (is := [0]) rfl) (hD.sub [0] rfl rfl) hS (lv_sub hl [1, 2, 0, 3] rfl)

set_option maxHeartbeats 1000000 in
set_option maxRecDepth 100000 in
theorem c_J_fill40 (l : Launch) (G : va_G) (cs : Nat → ClassId) (h0 : Nat) (v : Int32) (f : Nat → Int32) (sz : Nat) : Met l yJ7_fill_53178 (Cond.code yJ7_fill_53178 cJ7_fill_53178 4 none :: gW) ({ frames := 0, cells := 0, slots := 0, locals := 0 }) (va_Pc [.ref h0, .int v] (Pre G cs [(h0, .inl (cs 0, 40, .inl f))] sz)) (va_Qv (fun (u : Unit) => True) (fun (u : Unit) t => Aft G cs (va_A [(h0, .inl (cs 0, 40, .inl f))] sz) [(h0, .inl (cs 0, 40, .inl (fl f 40 v)))] t) (va_A [(h0, .inl (cs 0, 40, .inl f))] sz)) 0 0 (va_A [(h0, .inl (cs 0, 40, .inl f))] sz) := by
  refine Met.ofW (cc := cJ7_fill_53178) (maxL := 4) (ret := none) (by decide) rfl ?_
  intro p e s m args below meth c s₁ B hml hv
  obtain ⟨rfl, hsz, hP, hK, hD0, hN⟩ := hv
  have hx := B.exec
  have hb := B.bytes
  have hr := B.returns
  have hts := atoms_spec (ws := Cond.code yJ7_fill_53178 cJ7_fill_53178 4 none :: gW) B.pre
  have htl : ∀ w ∈ gW, w.before _ s = true := fun w h => hts w (List.mem_cons_of_mem _ h)
  have hown : s.vm.findClass RJ7 = some m.cls := findClass_of_methodNamed B.named
  have hlocks := B.notSynchronized
  subst hsz
  have hD := hD0.self (sz := s.heap.size)
  generalize hAe : va_A [(h0, .inl (cs 0, 40, .inl f))] s.heap.size = A at hD ⊢
  have hA : ∀ q : Nat, s.heap.size ≤ q → A q := fun q h => by rw [← hAe]; exact Or.inr h
  have hS : va_S A s.heap s.heap [] := va_S.rf
  have hl := lv_entry ([.ref h0, .int v]) (n := 4) (Nat.le_of_ble_eq_true rfl)
  rw [lg_entry_eq]
  generalize (lg_sl ([.ref h0, .int v]) ++ List.replicate (4 - (lg_sl ([.ref h0, .int v])).length) Slot.unset).toArray = ls at hl ⊢
  have hl : lv_has ls 4 [(0, .ref h0), (1, .int v)] := hl
  refine lv_iconst (v := 0) hx hb dJ7_fill_53178_0 (by decide) ?_
  refine lv_istore_n (lv' := [(2, .int 0), (0, .ref h0), (1, .int v)]) hx hb dJ7_fill_53178_1 rfl hl (by decide) rfl (fun ls hl => ?_)
  refine lv_aload_n hx hb dJ7_fill_53178_2 rfl (lv_at hl 1 rfl) ?_
  refine va_alen (v := 40) hx hb hK hP 0 0 rfl rfl rfl dJ7_fill_53178_3 ?_
  refine lv_istore_n (lv' := [(3, .int 40), (2, .int 0), (0, .ref h0), (1, .int v)]) hx hb dJ7_fill_53178_4 rfl hl (by decide) rfl (fun ls hl => ?_)
  have hP : va_P G vwCl [(h0, .inl (cs 0, 40, .inl (fl f 0 v)))] s.heap := by simp only [fl_0]; exact hP
  have hD : va_D A [(h0, .inl (cs 0, 40, .inl (fl f 0 v)))] := by simp only [fl_0]; exact hD
  refine lp_fill40 l G cs h0 v f hx hb hml hown htl hN hK hA (fun H locs ls hP hD hS hl => ?_) 40 0 rfl _ _ _ (hP.pick (is := [0]) rfl) (hD.sub [0] rfl rfl) hS (lv_sub hl [2, 3, 1, 0] rfl)
  have hP9 := hP.pick (wc := [(h0, .inl (cs 0, 40, .inl (fl f 40 v)))]) (is := [0]) rfl
  have hD9 := hD.sub (ws' := [(h0, .inl (cs 0, 40, .inl (fl f 40 v)))]) [0] rfl rfl
  exact W.vret hx hb hr (fun t ht hW => ⟨⟨(), rfl, trivial, ⟨by rw [ht]; exact hP9, va_K.moved hW.alike hK, hD9⟩⟩, hS.F ht⟩) hS.2.2 dJ7_fill_53178_20

set_option maxHeartbeats 1000000 in
set_option maxRecDepth 100000 in
theorem lp_fill100 (l : Launch) (G : va_G) (cs : Nat → ClassId) (h0 : Nat) (v : Int32) (f : Nat → Int32) {p : Program} {e : Env} {s : State} {m : MethodId} {args : Array Value} {below : List Frame} {meth : Method} {c : Code} {Q : State → Prop} {A : Nat → Prop} {H0 : Heap} (hx : p.tables.exec = Jvm.exec) (hb : c.code = cJ7_fill_53178) (hml : c.maxLocals = 4) (hown : s.vm.findClass RJ7 = some m.cls) (htl : ∀ w ∈ gW, w.before args s = true) (hN : NW s) (hK : va_K G vwCl (tyL cs) s) (hA : ∀ q, H0.size ≤ q → A q) (K : ∀ (H : Heap) (locs : List Loc) (ls : Array Slot), va_P G vwCl [(h0, .inl (cs 0, 100, .inl (fl f 100 v)))] H → va_D A [(h0, .inl (cs 0, 100, .inl (fl f 100 v)))] → va_S A H0 H locs → lv_has ls 4 [(0, .ref h0), (1, .int v), (2, .int (nI 100)), (3, .int 100)] → W p l e (headSpec (Cond.code yJ7_fill_53178 cJ7_fill_53178 4 none :: gW) ({ frames := 0, cells := 0, slots := 0, locals := 0 })).room s m args below meth c H locs 0 0 Q (F0 m 20 ls [])) : ∀ (n i : Nat), i + n = 100 → ∀ (H : Heap) (locs : List Loc) (ls : Array Slot), va_P G vwCl [(h0, .inl (cs 0, 100, .inl (fl f i v)))] H → va_D A [(h0, .inl (cs 0, 100, .inl (fl f i v)))] → va_S A H0 H locs → lv_has ls 4 [(0, .ref h0), (1, .int v), (2, .int (nI i)), (3, .int 100)] → W p l e (headSpec (Cond.code yJ7_fill_53178 cJ7_fill_53178 4 none :: gW) ({ frames := 0, cells := 0, slots := 0, locals := 0 })).room s m args below meth c H locs 0 0 Q (F0 m 5 ls []) := by
  intro n
  induction n with
  | zero =>
    intro i hi H locs ls hP hD hS hl
    obtain rfl : i = 100 := by omega
    refine lv_iload_n hx hb dJ7_fill_53178_5 rfl (lv_at hl 2 rfl) ?_
    refine lv_iload_n hx hb dJ7_fill_53178_6 rfl (lv_at hl 3 rfl) ?_
    refine lv_icmp_ge (tgt := 20) hx hb dJ7_fill_53178_7 (by decide) (fun _ => ?_) (fun h => absurd (by decide) h)
    exact K H locs ls (hP.pick (is := [0]) rfl) (hD.sub [0] rfl rfl) hS (lv_sub hl [0, 1, 2, 3] rfl)
  | succ n ih =>
    intro i hi H locs ls hP hD hS hl
    refine lv_iload_n hx hb dJ7_fill_53178_5 rfl (lv_at hl 2 rfl) ?_
    refine lv_iload_n hx hb dJ7_fill_53178_6 rfl (lv_at hl 3 rfl) ?_
    refine lv_icmp_ge (tgt := 20) hx hb dJ7_fill_53178_7 (by decide) (fun h => absurd h (nI_ge (a := i) (b := 100) (by omega) (by decide))) (fun _ => ?_)
    refine lv_aload_n hx hb dJ7_fill_53178_10 rfl (lv_at hl 0 rfl) ?_
    refine lv_iload_n hx hb dJ7_fill_53178_11 rfl (lv_at hl 2 rfl) ?_
    refine lv_iload_n hx hb dJ7_fill_53178_12 rfl (lv_at hl 1 rfl) ?_
    refine va_iast hx hb hK hP hD hS 0 0 rfl rfl (vp_in_nI (by omega) (by decide)) dJ7_fill_53178_13 (fun H locs hP hD hS => ?_)
    have hP : va_P G vwCl [(h0, .inl (cs 0, 100, .inl (upd (fl f i v) (nI i).toNatClampNeg v)))] H := hP
    have hD : va_D A [(h0, .inl (cs 0, 100, .inl (upd (fl f i v) (nI i).toNatClampNeg v)))] := hD
    refine lv_iinc (v := ((nI i) + 1)) (lv' := [(2, .int ((nI i) + 1)), (0, .ref h0), (1, .int v), (3, .int 100)]) hx hb dJ7_fill_53178_14 hl (k := 2) rfl (by first | rfl | decide) (by decide) rfl (fun ls hl => ?_)
    refine lv_goto (tgt := 5) hx hb dJ7_fill_53178_17 (by decide) ?_
    rw [fl_up (i := i) (by omega)] at hP hD
    rw [nI_1] at hl
    exact ih (i + 1) (by omega) H locs ls (hP.pick (is := [0]) rfl) (hD.sub [0] rfl rfl) hS (lv_sub hl [1, 2, 0, 3] rfl)

set_option maxHeartbeats 1000000 in
set_option maxRecDepth 100000 in
theorem c_J_fill100 (l : Launch) (G : va_G) (cs : Nat → ClassId) (h0 : Nat) (v : Int32) (f : Nat → Int32) (sz : Nat) : Met l yJ7_fill_53178 (Cond.code yJ7_fill_53178 cJ7_fill_53178 4 none :: gW) ({ frames := 0, cells := 0, slots := 0, locals := 0 }) (va_Pc [.ref h0, .int v] (Pre G cs [(h0, .inl (cs 0, 100, .inl f))] sz)) (va_Qv (fun (u : Unit) => True) (fun (u : Unit) t => Aft G cs (va_A [(h0, .inl (cs 0, 100, .inl f))] sz) [(h0, .inl (cs 0, 100, .inl (fl f 100 v)))] t) (va_A [(h0, .inl (cs 0, 100, .inl f))] sz)) 0 0 (va_A [(h0, .inl (cs 0, 100, .inl f))] sz) := by
  refine Met.ofW (cc := cJ7_fill_53178) (maxL := 4) (ret := none) (by decide) rfl ?_
  intro p e s m args below meth c s₁ B hml hv
  obtain ⟨rfl, hsz, hP, hK, hD0, hN⟩ := hv
  have hx := B.exec
  have hb := B.bytes
  have hr := B.returns
  have hts := atoms_spec (ws := Cond.code yJ7_fill_53178 cJ7_fill_53178 4 none :: gW) B.pre
  have htl : ∀ w ∈ gW, w.before _ s = true := fun w h => hts w (List.mem_cons_of_mem _ h)
  have hown : s.vm.findClass RJ7 = some m.cls := findClass_of_methodNamed B.named
  have hlocks := B.notSynchronized
  subst hsz
  have hD := hD0.self (sz := s.heap.size)
  generalize hAe : va_A [(h0, .inl (cs 0, 100, .inl f))] s.heap.size = A at hD ⊢
  have hA : ∀ q : Nat, s.heap.size ≤ q → A q := fun q h => by rw [← hAe]; exact Or.inr h
  have hS : va_S A s.heap s.heap [] := va_S.rf
  have hl := lv_entry ([.ref h0, .int v]) (n := 4) (Nat.le_of_ble_eq_true rfl)
  rw [lg_entry_eq]
  generalize (lg_sl ([.ref h0, .int v]) ++ List.replicate (4 - (lg_sl ([.ref h0, .int v])).length) Slot.unset).toArray = ls at hl ⊢
  have hl : lv_has ls 4 [(0, .ref h0), (1, .int v)] := hl
  refine lv_iconst (v := 0) hx hb dJ7_fill_53178_0 (by decide) ?_
  refine lv_istore_n (lv' := [(2, .int 0), (0, .ref h0), (1, .int v)]) hx hb dJ7_fill_53178_1 rfl hl (by decide) rfl (fun ls hl => ?_)
  refine lv_aload_n hx hb dJ7_fill_53178_2 rfl (lv_at hl 1 rfl) ?_
  refine va_alen (v := 100) hx hb hK hP 0 0 rfl rfl rfl dJ7_fill_53178_3 ?_
  refine lv_istore_n (lv' := [(3, .int 100), (2, .int 0), (0, .ref h0), (1, .int v)]) hx hb dJ7_fill_53178_4 rfl hl (by decide) rfl (fun ls hl => ?_)
  have hP : va_P G vwCl [(h0, .inl (cs 0, 100, .inl (fl f 0 v)))] s.heap := by simp only [fl_0]; exact hP
  have hD : va_D A [(h0, .inl (cs 0, 100, .inl (fl f 0 v)))] := by simp only [fl_0]; exact hD
  refine lp_fill100 l G cs h0 v f hx hb hml hown htl hN hK hA (fun H locs ls hP hD hS hl => ?_) 100 0 rfl _ _ _ (hP.pick (is := [0]) rfl) (hD.sub [0] rfl rfl) hS (lv_sub hl [2, 3, 1, 0] rfl)
  have hP9 := hP.pick (wc := [(h0, .inl (cs 0, 100, .inl (fl f 100 v)))]) (is := [0]) rfl
  have hD9 := hD.sub (ws' := [(h0, .inl (cs 0, 100, .inl (fl f 100 v)))]) [0] rfl rfl
  exact W.vret hx hb hr (fun t ht hW => ⟨⟨(), rfl, trivial, ⟨by rw [ht]; exact hP9, va_K.moved hW.alike hK, hD9⟩⟩, hS.F ht⟩) hS.2.2 dJ7_fill_53178_20

set_option maxHeartbeats 1000000 in
set_option maxRecDepth 100000 in
theorem c_X3_measureCell (l : Launch) (G : va_G) (cs : Nat → ClassId) (h0 : Nat) (a : Int32) (aA : Nat) (e1 : Nat) (e2 : Nat) (f_h0_3 : Value) (f_aA_0 : Value) (f_aA_1 : Value) (f_aA_3 : Value) (f_aA_4 : Value) (f_aA_5 : Value) (f_aA_6 : Value) (f_aA_7 : Value) (f_aA_8 : Value) (sf : Nat → Int32) (lf : Nat → Int32) (sz : Nat) (ha : vp_in a 40) : Met l yX3_measureCell (Cond.code yX3_measureCell cX3_measureCell 2 none :: gW) ({ frames := 3, cells := 0, slots := 0, locals := 68 }) (va_Pc [.ref h0, .int a] (Pre G cs [(h0, .inr (3, [.ref aA, .ref e1, .ref e2, f_h0_3])), (aA, .inr (0, [f_aA_0, f_aA_1, .null, f_aA_3, f_aA_4, f_aA_5, f_aA_6, f_aA_7, f_aA_8])), (e1, .inl (cs 0, 40, .inl sf)), (e2, .inl (cs 0, 40, .inl lf))] sz)) (va_Qv (fun (u : Unit) => True) (fun (u : Unit) t => Aft G cs (va_A [(h0, .inr (3, [.ref aA, .ref e1, .ref e2, f_h0_3])), (aA, .inr (0, [f_aA_0, f_aA_1, .null, f_aA_3, f_aA_4, f_aA_5, f_aA_6, f_aA_7, f_aA_8])), (e1, .inl (cs 0, 40, .inl sf)), (e2, .inl (cs 0, 40, .inl lf))] sz) [(h0, .inr (3, [.ref aA, .ref e1, .ref e2, f_h0_3])), (e1, .inl (cs 0, 40, .inl (upd sf a.toNatClampNeg 20))), (e2, .inl (cs 0, 40, .inl (upd lf a.toNatClampNeg 2))), (aA, .inr (0, [f_aA_0, f_aA_1, .null, .int a, .int (-1), .int 3, f_aA_6, f_aA_7, f_aA_8]))] t) (va_A [(h0, .inr (3, [.ref aA, .ref e1, .ref e2, f_h0_3])), (aA, .inr (0, [f_aA_0, f_aA_1, .null, f_aA_3, f_aA_4, f_aA_5, f_aA_6, f_aA_7, f_aA_8])), (e1, .inl (cs 0, 40, .inl sf)), (e2, .inl (cs 0, 40, .inl lf))] sz)) 0 0 (va_A [(h0, .inr (3, [.ref aA, .ref e1, .ref e2, f_h0_3])), (aA, .inr (0, [f_aA_0, f_aA_1, .null, f_aA_3, f_aA_4, f_aA_5, f_aA_6, f_aA_7, f_aA_8])), (e1, .inl (cs 0, 40, .inl sf)), (e2, .inl (cs 0, 40, .inl lf))] sz) := by
  refine Met.ofW (cc := cX3_measureCell) (maxL := 2) (ret := none) (by decide) rfl ?_
  intro p e s m args below meth c s₁ B hml hv
  obtain ⟨rfl, hsz, hP, hK, hD0, hN⟩ := hv
  have hx := B.exec
  have hb := B.bytes
  have hr := B.returns
  have hts := atoms_spec (ws := Cond.code yX3_measureCell cX3_measureCell 2 none :: gW) B.pre
  have htl : ∀ w ∈ gW, w.before _ s = true := fun w h => hts w (List.mem_cons_of_mem _ h)
  have hown : s.vm.findClass RX3 = some m.cls := findClass_of_methodNamed B.named
  have hlocks := B.notSynchronized
  subst hsz
  have hD := hD0.self (sz := s.heap.size)
  generalize hAe : va_A [(h0, .inr (3, [.ref aA, .ref e1, .ref e2, f_h0_3])), (aA, .inr (0, [f_aA_0, f_aA_1, .null, f_aA_3, f_aA_4, f_aA_5, f_aA_6, f_aA_7, f_aA_8])), (e1, .inl (cs 0, 40, .inl sf)), (e2, .inl (cs 0, 40, .inl lf))] s.heap.size = A at hD ⊢
  have hA : ∀ q : Nat, s.heap.size ≤ q → A q := fun q h => by rw [← hAe]; exact Or.inr h
  have hS : va_S A s.heap s.heap [] := va_S.rf
  have hl := lv_entry ([.ref h0, .int a]) (n := 2) (Nat.le_of_ble_eq_true rfl)
  rw [lg_entry_eq]
  generalize (lg_sl ([.ref h0, .int a]) ++ List.replicate (2 - (lg_sl ([.ref h0, .int a])).length) Slot.unset).toArray = ls at hl ⊢
  have hl : lv_has ls 2 [(0, .ref h0), (1, .int a)] := hl
  refine lv_aload_n hx hb dX3_measureCell_0 rfl (lv_at hl 0 rfl) ?_
  refine va_get (ci := 3) (v := .ref e1) (C := RX3) (T := TX3) (N := 4) hx hb htl inX3 hown hK hP 0 rfl rfl 1 (by decide) (htl _ fl_RX3_9) (fun _ h9 => h9) rfl dX3_measureCell_1 ?_
  refine lv_iload_n hx hb dX3_measureCell_4 rfl (lv_at hl 1 rfl) ?_
  refine lv_aload_n hx hb dX3_measureCell_5 rfl (lv_at hl 0 rfl) ?_
  refine va_get (ci := 3) (v := .ref aA) (C := RX3) (T := TX3) (N := 4) hx hb htl inX3 hown hK hP 0 rfl rfl 0 (by decide) (htl _ fl_RX3_21) (fun _ h9 => h9) rfl dX3_measureCell_6 ?_
  refine lv_iload_n hx hb dX3_measureCell_9 rfl (lv_at hl 1 rfl) ?_
  refine lv_iconst (v := 3) hx hb dX3_measureCell_10 (by decide) ?_
  refine mi (wr := [(h0, .inr (3, [.ref aA, .ref e1, .ref e2, f_h0_3])), (e1, .inl (cs 0, 40, .inl sf)), (e2, .inl (cs 0, 40, .inl lf))]) (mkV (rest := [.int a, .ref e1]) ⟨hx, hb, hml, hown, htl⟩ hN hK hP hD (c_X0_saysOf l G cs aA a 3 f_aA_0 f_aA_1 f_aA_3 f_aA_4 f_aA_5 f_aA_6 f_aA_7 f_aA_8 _) [1] rfl rfl 0 0 rfl rfl (cV 2 htl lk_RX3_46 mI_X0_saysOf mS_X0_saysOf mN_RX0 mC_X0_saysOf ok_X0_saysOf rfl rfl ⟨(Nat.le_of_ble_eq_true rfl), (Nat.le_of_ble_eq_true rfl)⟩) rfl hl.1 rfl (Nat.le_of_ble_eq_true rfl) dX3_measureCell_11 ⟨(Nat.le_of_ble_eq_true rfl), (Nat.le_of_ble_eq_true rfl)⟩) hP hD hS hA [1] [0, 2, 3] rfl rfl rfl (by decide) (fun r u_11 H locs hw hP hD hS => ?_)
  have hP : va_P G vwCl [(h0, .inr (3, [.ref aA, .ref e1, .ref e2, f_h0_3])), (e1, .inl (cs 0, 40, .inl sf)), (e2, .inl (cs 0, 40, .inl lf)), (aA, .inr (0, [f_aA_0, f_aA_1, .null, .int a, .int (-1), .int 3, f_aA_6, f_aA_7, f_aA_8]))] H := hP
  have hD : va_D A [(h0, .inr (3, [.ref aA, .ref e1, .ref e2, f_h0_3])), (e1, .inl (cs 0, 40, .inl sf)), (e2, .inl (cs 0, 40, .inl lf)), (aA, .inr (0, [f_aA_0, f_aA_1, .null, .int a, .int (-1), .int 3, f_aA_6, f_aA_7, f_aA_8]))] := hD
  obtain rfl : r = 20 := hw.trans (by first | decide +kernel | rfl)
  refine va_iast hx hb hK hP hD hS 1 0 rfl rfl ha dX3_measureCell_14 (fun H locs hP hD hS => ?_)
  have hP : va_P G vwCl [(h0, .inr (3, [.ref aA, .ref e1, .ref e2, f_h0_3])), (e1, .inl (cs 0, 40, .inl (upd sf a.toNatClampNeg 20))), (e2, .inl (cs 0, 40, .inl lf)), (aA, .inr (0, [f_aA_0, f_aA_1, .null, .int a, .int (-1), .int 3, f_aA_6, f_aA_7, f_aA_8]))] H := hP
  have hD : va_D A [(h0, .inr (3, [.ref aA, .ref e1, .ref e2, f_h0_3])), (e1, .inl (cs 0, 40, .inl (upd sf a.toNatClampNeg 20))), (e2, .inl (cs 0, 40, .inl lf)), (aA, .inr (0, [f_aA_0, f_aA_1, .null, .int a, .int (-1), .int 3, f_aA_6, f_aA_7, f_aA_8]))] := hD
  refine lv_aload_n hx hb dX3_measureCell_15 rfl (lv_at hl 0 rfl) ?_
  refine va_get (ci := 3) (v := .ref e2) (C := RX3) (T := TX3) (N := 4) hx hb htl inX3 hown hK hP 0 rfl rfl 2 (by decide) (htl _ fl_RX3_15) (fun _ h9 => h9) rfl dX3_measureCell_16 ?_
  refine lv_iload_n hx hb dX3_measureCell_19 rfl (lv_at hl 1 rfl) ?_
  refine lv_aload_n hx hb dX3_measureCell_20 rfl (lv_at hl 0 rfl) ?_
  refine va_get (ci := 3) (v := .ref aA) (C := RX3) (T := TX3) (N := 4) hx hb htl inX3 hown hK hP 0 rfl rfl 0 (by decide) (htl _ fl_RX3_21) (fun _ h9 => h9) rfl dX3_measureCell_21 ?_
  refine lv_iload_n hx hb dX3_measureCell_24 rfl (lv_at hl 1 rfl) ?_
  refine lv_iconst (v := 3) hx hb dX3_measureCell_25 (by decide) ?_
  refine mi (wr := [(h0, .inr (3, [.ref aA, .ref e1, .ref e2, f_h0_3])), (e1, .inl (cs 0, 40, .inl (upd sf a.toNatClampNeg 20))), (e2, .inl (cs 0, 40, .inl lf))]) (mkV (rest := [.int a, .ref e2]) ⟨hx, hb, hml, hown, htl⟩ hN hK hP hD (c_X0_losesOf l G cs aA a 3 f_aA_0 f_aA_1 (.int a) (.int (-1)) (.int 3) f_aA_6 f_aA_7 f_aA_8 _) [3] rfl rfl 0 0 rfl rfl (cV 2 htl lk_RX3_50 mI_X0_losesOf mS_X0_losesOf mN_RX0 mC_X0_losesOf ok_X0_losesOf rfl rfl ⟨(Nat.le_of_ble_eq_true rfl), (Nat.le_of_ble_eq_true rfl)⟩) rfl hl.1 rfl (Nat.le_of_ble_eq_true rfl) dX3_measureCell_26 ⟨(Nat.le_of_ble_eq_true rfl), (Nat.le_of_ble_eq_true rfl)⟩) hP hD hS hA [3] [0, 1, 2] rfl rfl rfl (by decide) (fun r u_26 H locs hw hP hD hS => ?_)
  have hP : va_P G vwCl [(h0, .inr (3, [.ref aA, .ref e1, .ref e2, f_h0_3])), (e1, .inl (cs 0, 40, .inl (upd sf a.toNatClampNeg 20))), (e2, .inl (cs 0, 40, .inl lf)), (aA, .inr (0, [f_aA_0, f_aA_1, .null, .int a, .int (-1), .int 3, f_aA_6, f_aA_7, f_aA_8]))] H := hP
  have hD : va_D A [(h0, .inr (3, [.ref aA, .ref e1, .ref e2, f_h0_3])), (e1, .inl (cs 0, 40, .inl (upd sf a.toNatClampNeg 20))), (e2, .inl (cs 0, 40, .inl lf)), (aA, .inr (0, [f_aA_0, f_aA_1, .null, .int a, .int (-1), .int 3, f_aA_6, f_aA_7, f_aA_8]))] := hD
  obtain rfl : r = 2 := hw.trans (by first | decide +kernel | rfl)
  refine va_iast hx hb hK hP hD hS 2 0 rfl rfl ha dX3_measureCell_29 (fun H locs hP hD hS => ?_)
  have hP : va_P G vwCl [(h0, .inr (3, [.ref aA, .ref e1, .ref e2, f_h0_3])), (e1, .inl (cs 0, 40, .inl (upd sf a.toNatClampNeg 20))), (e2, .inl (cs 0, 40, .inl (upd lf a.toNatClampNeg 2))), (aA, .inr (0, [f_aA_0, f_aA_1, .null, .int a, .int (-1), .int 3, f_aA_6, f_aA_7, f_aA_8]))] H := hP
  have hD : va_D A [(h0, .inr (3, [.ref aA, .ref e1, .ref e2, f_h0_3])), (e1, .inl (cs 0, 40, .inl (upd sf a.toNatClampNeg 20))), (e2, .inl (cs 0, 40, .inl (upd lf a.toNatClampNeg 2))), (aA, .inr (0, [f_aA_0, f_aA_1, .null, .int a, .int (-1), .int 3, f_aA_6, f_aA_7, f_aA_8]))] := hD
  have hP9 := hP.pick (wc := [(h0, .inr (3, [.ref aA, .ref e1, .ref e2, f_h0_3])), (e1, .inl (cs 0, 40, .inl (upd sf a.toNatClampNeg 20))), (e2, .inl (cs 0, 40, .inl (upd lf a.toNatClampNeg 2))), (aA, .inr (0, [f_aA_0, f_aA_1, .null, .int a, .int (-1), .int 3, f_aA_6, f_aA_7, f_aA_8]))]) (is := [0, 1, 2, 3]) rfl
  have hD9 := hD.sub (ws' := [(h0, .inr (3, [.ref aA, .ref e1, .ref e2, f_h0_3])), (e1, .inl (cs 0, 40, .inl (upd sf a.toNatClampNeg 20))), (e2, .inl (cs 0, 40, .inl (upd lf a.toNatClampNeg 2))), (aA, .inr (0, [f_aA_0, f_aA_1, .null, .int a, .int (-1), .int 3, f_aA_6, f_aA_7, f_aA_8]))]) [0, 1, 2, 3] rfl rfl
  exact W.vret hx hb hr (fun t ht hW => ⟨⟨(), rfl, trivial, ⟨by rw [ht]; exact hP9, va_K.moved hW.alike hK, hD9⟩⟩, hS.F ht⟩) hS.2.2 dX3_measureCell_30

def sp_X3_isAsHeard : Int32 := 1
set_option maxHeartbeats 1000000 in
set_option maxRecDepth 100000 in
theorem c_X3_isAsHeard (l : Launch) (G : va_G) (cs : Nat → ClassId) (h0 : Nat) (h1 : Nat) (a : Int32) (f_h0_0 : Value) (f_h0_1 : Value) (f_h0_2 : Value) (f_h0_3 : Value) (f_h1_0 : Value) (f_h1_1 : Value) (f_h1_2 : Value) (f_h1_3 : Value) (f_h1_4 : Value) (f_h1_5 : Value) (f_h1_6 : Value) (f_h1_7 : Value) (f_h1_8 : Value) (f_h1_10 : Value) (f_h1_11 : Value) (f_h1_12 : Value) : Met l yX3_isAsHeard (Cond.code yX3_isAsHeard cX3_isAsHeard 4 (some .boolean) :: gW) ({ frames := 0, cells := 0, slots := 0, locals := 0 }) (va_Pc [.ref h0, .ref h1, .int a] (PrS G cs [(h0, .inr (3, [f_h0_0, f_h0_1, f_h0_2, f_h0_3])), (h1, .inr (4, [f_h1_0, f_h1_1, f_h1_2, f_h1_3, f_h1_4, f_h1_5, f_h1_6, f_h1_7, f_h1_8, .int 0, f_h1_10, f_h1_11, f_h1_12]))])) (vp_Si (fun r => r = sp_X3_isAsHeard ∧ narrow .boolean (.int r) = .int r)) 0 0 (fun _ => False) := by
  refine Met.ofW (cc := cX3_isAsHeard) (maxL := 4) (ret := (some .boolean)) (by decide) rfl ?_
  intro p e s m args below meth c s₁ B hml hv
  obtain ⟨rfl, hP, hK, hN⟩ := hv
  have hx := B.exec
  have hb := B.bytes
  have hr := B.returns
  have hts := atoms_spec (ws := Cond.code yX3_isAsHeard cX3_isAsHeard 4 (some .boolean) :: gW) B.pre
  have htl : ∀ w ∈ gW, w.before _ s = true := fun w h => hts w (List.mem_cons_of_mem _ h)
  have hown : s.vm.findClass RX3 = some m.cls := findClass_of_methodNamed B.named
  have hlocks := B.notSynchronized
  have hl := lv_entry ([.ref h0, .ref h1, .int a]) (n := 4) (Nat.le_of_ble_eq_true rfl)
  rw [lg_entry_eq]
  generalize (lg_sl ([.ref h0, .ref h1, .int a]) ++ List.replicate (4 - (lg_sl ([.ref h0, .ref h1, .int a])).length) Slot.unset).toArray = ls at hl ⊢
  have hl : lv_has ls 4 [(0, .ref h0), (1, .ref h1), (2, .int a)] := hl
  refine lv_iconst (v := 0) hx hb dX3_isAsHeard_0 (by decide) ?_
  refine lv_istore_n (lv' := [(3, .int 0), (0, .ref h0), (1, .ref h1), (2, .int a)]) hx hb dX3_isAsHeard_1 rfl hl (by decide) rfl (fun ls hl => ?_)
  refine lv_iload_n hx hb dX3_isAsHeard_2 rfl (lv_at hl 0 rfl) ?_
  refine lv_aload_n hx hb dX3_isAsHeard_3 rfl (lv_at hl 2 rfl) ?_
  refine va_get (ci := 4) (v := .int 0) (C := RX4) (T := TX4) (N := 13) hx hb htl inX4 hown hK hP 1 rfl rfl 9 (by decide) (htl _ fl_RX3_106) (fun _ h9 => h9) rfl dX3_isAsHeard_4 ?_
  refine lv_icmp_ge (tgt := 42) hx hb dX3_isAsHeard_7 (by decide) (fun _ => ?_) (fun h => absurd (by decide) h)
  refine lv_iconst (v := 1) hx hb dX3_isAsHeard_42 (by decide) ?_
  exact W.zret (ty := .boolean) (v := 1) hx hb hr (by decide) (fun t ht hW => ⟨1, rfl, ⟨rfl, (by decide)⟩, ht⟩) (fun q h => by cases h) dX3_isAsHeard_43

set_option maxHeartbeats 1000000 in
set_option maxRecDepth 100000 in
theorem lp_hidden (l : Launch) (G : va_G) (cs : Nat → ClassId) (h0 : Nat) (aW : Nat) (aA : Nat) (e1 : Nat) (e2 : Nat) (f_h0_3 : Value) (aR : Nat) (f_aW_1 : Value) (aF : Nat) (f_aW_3 : Value) (f_aW_4 : Value) (f_aW_5 : Value) (aK : Nat) (f_aR_1 : Value) (f_aR_2 : Value) (f_aF_0 : Value) (f_aF_1 : Value) (f_aF_2 : Value) (f_aF_3 : Value) (f_aF_4 : Value) (f_aF_5 : Value) (f_aF_6 : Value) (f_aF_7 : Value) (f_aF_8 : Value) (f_aF_10 : Value) (f_aF_11 : Value) (f_aF_12 : Value) (f_aA_0 : Value) (f_aA_1 : Value) (f_aA_2 : Value) (f_aA_3 : Value) (f_aA_4 : Value) (f_aA_5 : Value) (f_aA_6 : Value) (f_aA_7 : Value) (f_aA_8 : Value) {p : Program} {e : Env} {s : State} {m : MethodId} {args : Array Value} {below : List Frame} {meth : Method} {c : Code} {Q : State → Prop} {A : Nat → Prop} {H0 : Heap} (hx : p.tables.exec = Jvm.exec) (hb : c.code = cX3_hiddenCells) (hml : c.maxLocals = 5) (hown : s.vm.findClass RX3 = some m.cls) (htl : ∀ w ∈ gW, w.before args s = true) (hN : NW s) (hK : va_K G vwCl (tyL cs) s) (hA : ∀ q, H0.size ≤ q → A q) (K : ∀ (y3 : Value) (y4 : Value) (y5 : Value) (H : Heap) (locs : List Loc) (ls : Array Slot), va_P G vwCl [(h0, .inr (3, [.ref aA, .ref e1, .ref e2, f_h0_3])), (aW, .inr (10, [.ref aR, f_aW_1, .ref aF, f_aW_3, f_aW_4, f_aW_5, .int (-1)])), (aR, .inr (6, [.ref aK, f_aR_1, f_aR_2, .long 0])), (aK, .inl (cs 0, 40, .inl (fun _ => 0))), (aF, .inr (4, [f_aF_0, f_aF_1, f_aF_2, f_aF_3, f_aF_4, f_aF_5, f_aF_6, f_aF_7, f_aF_8, .int 0, f_aF_10, f_aF_11, f_aF_12])), (aA, .inr (0, [f_aA_0, .ref aW, .null, y3, y4, y5, f_aA_6, f_aA_7, f_aA_8])), (e1, .inl (cs 0, 40, .inl (fl (fun _ => 0) 40 20))), (e2, .inl (cs 0, 40, .inl (fl (fun _ => 0) 40 2)))] H → va_D A [(h0, .inr (3, [.ref aA, .ref e1, .ref e2, f_h0_3])), (aW, .inr (10, [.ref aR, f_aW_1, .ref aF, f_aW_3, f_aW_4, f_aW_5, .int (-1)])), (aR, .inr (6, [.ref aK, f_aR_1, f_aR_2, .long 0])), (aK, .inl (cs 0, 40, .inl (fun _ => 0))), (aF, .inr (4, [f_aF_0, f_aF_1, f_aF_2, f_aF_3, f_aF_4, f_aF_5, f_aF_6, f_aF_7, f_aF_8, .int 0, f_aF_10, f_aF_11, f_aF_12])), (aA, .inr (0, [f_aA_0, .ref aW, .null, y3, y4, y5, f_aA_6, f_aA_7, f_aA_8])), (e1, .inl (cs 0, 40, .inl (fl (fun _ => 0) 40 20))), (e2, .inl (cs 0, 40, .inl (fl (fun _ => 0) 40 2)))] → va_S A H0 H locs → lv_has ls 5 [(0, .ref h0), (1, .ref aW), (2, .long (hbt 40)), (4, .int (nI 40))] → W p l e (headSpec (Cond.code yX3_hiddenCells cX3_hiddenCells 5 (some .long) :: gW) ({ frames := 4, cells := 0, slots := 0, locals := 89 })).room s m args below meth c H locs 0 0 Q (F0 m 82 ls [])) : ∀ (n i : Nat), i + n = 40 → ∀ (y3 : Value) (y4 : Value) (y5 : Value) (H : Heap) (locs : List Loc) (ls : Array Slot), va_P G vwCl [(h0, .inr (3, [.ref aA, .ref e1, .ref e2, f_h0_3])), (aW, .inr (10, [.ref aR, f_aW_1, .ref aF, f_aW_3, f_aW_4, f_aW_5, .int (-1)])), (aR, .inr (6, [.ref aK, f_aR_1, f_aR_2, .long 0])), (aK, .inl (cs 0, 40, .inl (fun _ => 0))), (aF, .inr (4, [f_aF_0, f_aF_1, f_aF_2, f_aF_3, f_aF_4, f_aF_5, f_aF_6, f_aF_7, f_aF_8, .int 0, f_aF_10, f_aF_11, f_aF_12])), (aA, .inr (0, [f_aA_0, .ref aW, .null, y3, y4, y5, f_aA_6, f_aA_7, f_aA_8])), (e1, .inl (cs 0, 40, .inl (fl (fun _ => 0) i 20))), (e2, .inl (cs 0, 40, .inl (fl (fun _ => 0) i 2)))] H → va_D A [(h0, .inr (3, [.ref aA, .ref e1, .ref e2, f_h0_3])), (aW, .inr (10, [.ref aR, f_aW_1, .ref aF, f_aW_3, f_aW_4, f_aW_5, .int (-1)])), (aR, .inr (6, [.ref aK, f_aR_1, f_aR_2, .long 0])), (aK, .inl (cs 0, 40, .inl (fun _ => 0))), (aF, .inr (4, [f_aF_0, f_aF_1, f_aF_2, f_aF_3, f_aF_4, f_aF_5, f_aF_6, f_aF_7, f_aF_8, .int 0, f_aF_10, f_aF_11, f_aF_12])), (aA, .inr (0, [f_aA_0, .ref aW, .null, y3, y4, y5, f_aA_6, f_aA_7, f_aA_8])), (e1, .inl (cs 0, 40, .inl (fl (fun _ => 0) i 20))), (e2, .inl (cs 0, 40, .inl (fl (fun _ => 0) i 2)))] → va_S A H0 H locs → lv_has ls 5 [(0, .ref h0), (1, .ref aW), (2, .long (hbt i)), (4, .int (nI i))] → W p l e (headSpec (Cond.code yX3_hiddenCells cX3_hiddenCells 5 (some .long) :: gW) ({ frames := 4, cells := 0, slots := 0, locals := 89 })).room s m args below meth c H locs 0 0 Q (F0 m 17 ls []) := by
  intro n
  induction n with
  | zero =>
    intro i hi y3 y4 y5 H locs ls hP hD hS hl
    obtain rfl : i = 40 := by omega
    refine lv_iload hx hb dX3_hiddenCells_17 (lv_at hl 3 rfl) ?_
    refine lv_bipush (v := 40) hx hb dX3_hiddenCells_19 (by decide) ?_
    refine lv_icmp_ge (tgt := 82) hx hb dX3_hiddenCells_21 (by decide) (fun _ => ?_) (fun h => absurd (by decide) h)
    exact K y3 y4 y5 H locs ls (hP.pick (is := [0, 1, 2, 3, 4, 5, 6, 7]) rfl) (hD.sub [0, 1, 2, 3, 4, 5, 6, 7] rfl rfl) hS (lv_sub hl [0, 1, 2, 3] rfl)
  | succ n ih =>
    intro i hi y3 y4 y5 H locs ls hP hD hS hl
    refine lv_iload hx hb dX3_hiddenCells_17 (lv_at hl 3 rfl) ?_
    refine lv_bipush (v := 40) hx hb dX3_hiddenCells_19 (by decide) ?_
    refine lv_icmp_ge (tgt := 82) hx hb dX3_hiddenCells_21 (by decide) (fun h => absurd h (nI_ge (a := i) (b := 40) (by omega) (by decide))) (fun _ => ?_)
    refine lv_aload_n hx hb dX3_hiddenCells_24 rfl (lv_at hl 1 rfl) ?_
    refine va_get (ci := 10) (v := .ref aR) (C := RX10) (T := TX10) (N := 7) hx hb htl inX10 hown hK hP 1 rfl rfl 0 (by decide) (htl _ fl_RX3_31) (fun _ h9 => h9) rfl dX3_hiddenCells_25 ?_
    refine va_get (ci := 6) (v := .ref aK) (C := RX6) (T := TX6) (N := 4) hx hb htl inX6 hown hK hP 2 rfl rfl 0 (by decide) (htl _ fl_RX3_37) (fun _ h9 => h9) rfl dX3_hiddenCells_28 ?_
    refine lv_iload hx hb dX3_hiddenCells_31 (lv_at hl 3 rfl) ?_
    refine va_iald hx hb hK hP 3 0 rfl rfl (vp_in_nI (by omega) (by decide)) dX3_hiddenCells_33 ?_
    refine lv_topi (fun xv ex => ?_)
    obtain rfl : xv = 0 := ex.trans (by first | exact pk_us | rfl | decide)
    refine lv_iconst (v := 3) hx hb dX3_hiddenCells_34 (by decide) ?_
    refine lv_icmp_eq (tgt := 76) hx hb dX3_hiddenCells_35 (by decide) (fun h => absurd h (by decide)) (fun _ => ?_)
    refine lv_aload_n hx hb dX3_hiddenCells_38 rfl (lv_at hl 1 rfl) ?_
    refine va_get (ci := 10) (v := .ref aR) (C := RX10) (T := TX10) (N := 7) hx hb htl inX10 hown hK hP 1 rfl rfl 0 (by decide) (htl _ fl_RX3_31) (fun _ h9 => h9) rfl dX3_hiddenCells_39 ?_
    refine lv_iload hx hb dX3_hiddenCells_42 (lv_at hl 3 rfl) ?_
    refine vp_callSi (mkVr (rest := []) ⟨hx, hb, hml, hown, htl⟩ hN hK hP (c_X6_isDug l G cs aR (nI i) (.ref aK) f_aR_1 f_aR_2 0) [2] rfl 0 6 rfl rfl (cV 1 htl lk_RX3_98 mI_X6_isDug mS_X6_isDug mN_RX6 mC_X6_isDug ok_X6_isDug rfl rfl ⟨(Nat.le_of_ble_eq_true rfl), (Nat.le_of_ble_eq_true rfl)⟩) rfl hl.1 rfl (Nat.le_of_ble_eq_true rfl) dX3_hiddenCells_44 ⟨(Nat.le_of_ble_eq_true rfl), (Nat.le_of_ble_eq_true rfl)⟩) (fun r hw => ?_)
    obtain rfl : r = 0 := hw.1.trans (isDug_0 _)
    refine lv_if_ne (tgt := 76) hx hb dX3_hiddenCells_47 (by decide) (fun h => absurd (by decide) h) (fun _ => ?_)
    refine lv_aload_n hx hb dX3_hiddenCells_50 rfl (lv_at hl 0 rfl) ?_
    refine lv_iload hx hb dX3_hiddenCells_51 (lv_at hl 3 rfl) ?_
    refine mv (wr := [(aW, .inr (10, [.ref aR, f_aW_1, .ref aF, f_aW_3, f_aW_4, f_aW_5, .int (-1)])), (aR, .inr (6, [.ref aK, f_aR_1, f_aR_2, .long 0])), (aK, .inl (cs 0, 40, .inl (fun _ => 0))), (aF, .inr (4, [f_aF_0, f_aF_1, f_aF_2, f_aF_3, f_aF_4, f_aF_5, f_aF_6, f_aF_7, f_aF_8, .int 0, f_aF_10, f_aF_11, f_aF_12]))]) (mkV (rest := []) ⟨hx, hb, hml, hown, htl⟩ hN hK hP hD (c_X3_measureCell l G cs h0 (nI i) aA e1 e2 f_h0_3 f_aA_0 (.ref aW) y3 y4 y5 f_aA_6 f_aA_7 f_aA_8 ((fl (fun _ => 0) i 20)) ((fl (fun _ => 0) i 2)) _ (vp_in_nI (by omega) (by decide))) [0, 5, 6, 7] rfl rfl 0 3 rfl rfl (cV 1 htl lk_RX3_42 mI_X3_measureCell mS_X3_measureCell mN_RX3 mC_X3_measureCell ok_X3_measureCell rfl rfl ⟨(Nat.le_of_ble_eq_true rfl), (Nat.le_of_ble_eq_true rfl)⟩) rfl hl.1 rfl (Nat.le_of_ble_eq_true rfl) dX3_hiddenCells_53 ⟨(Nat.le_of_ble_eq_true rfl), (Nat.le_of_ble_eq_true rfl)⟩) hP hD hS hA [0, 5, 6, 7] [1, 2, 3, 4] rfl rfl rfl (by decide) (fun u_53 H locs hw hP hD hS => ?_)
    have hP : va_P G vwCl [(aW, .inr (10, [.ref aR, f_aW_1, .ref aF, f_aW_3, f_aW_4, f_aW_5, .int (-1)])), (aR, .inr (6, [.ref aK, f_aR_1, f_aR_2, .long 0])), (aK, .inl (cs 0, 40, .inl (fun _ => 0))), (aF, .inr (4, [f_aF_0, f_aF_1, f_aF_2, f_aF_3, f_aF_4, f_aF_5, f_aF_6, f_aF_7, f_aF_8, .int 0, f_aF_10, f_aF_11, f_aF_12])), (h0, .inr (3, [.ref aA, .ref e1, .ref e2, f_h0_3])), (e1, .inl (cs 0, 40, .inl (upd (fl (fun _ => 0) i 20) (nI i).toNatClampNeg 20))), (e2, .inl (cs 0, 40, .inl (upd (fl (fun _ => 0) i 2) (nI i).toNatClampNeg 2))), (aA, .inr (0, [f_aA_0, .ref aW, .null, .int (nI i), .int (-1), .int 3, f_aA_6, f_aA_7, f_aA_8]))] H := hP
    have hD : va_D A [(aW, .inr (10, [.ref aR, f_aW_1, .ref aF, f_aW_3, f_aW_4, f_aW_5, .int (-1)])), (aR, .inr (6, [.ref aK, f_aR_1, f_aR_2, .long 0])), (aK, .inl (cs 0, 40, .inl (fun _ => 0))), (aF, .inr (4, [f_aF_0, f_aF_1, f_aF_2, f_aF_3, f_aF_4, f_aF_5, f_aF_6, f_aF_7, f_aF_8, .int 0, f_aF_10, f_aF_11, f_aF_12])), (h0, .inr (3, [.ref aA, .ref e1, .ref e2, f_h0_3])), (e1, .inl (cs 0, 40, .inl (upd (fl (fun _ => 0) i 20) (nI i).toNatClampNeg 20))), (e2, .inl (cs 0, 40, .inl (upd (fl (fun _ => 0) i 2) (nI i).toNatClampNeg 2))), (aA, .inr (0, [f_aA_0, .ref aW, .null, .int (nI i), .int (-1), .int 3, f_aA_6, f_aA_7, f_aA_8]))] := hD
    refine lv_aload_n hx hb dX3_hiddenCells_56 rfl (lv_at hl 0 rfl) ?_
    refine lv_aload_n hx hb dX3_hiddenCells_57 rfl (lv_at hl 1 rfl) ?_
    refine va_get (ci := 10) (v := .ref aF) (C := RX10) (T := TX10) (N := 7) hx hb htl inX10 hown hK hP 0 rfl rfl 2 (by decide) (htl _ fl_RX3_56) (fun _ h9 => h9) rfl dX3_hiddenCells_58 ?_
    refine lv_iload hx hb dX3_hiddenCells_61 (lv_at hl 3 rfl) ?_
    refine vp_callSi (mkVr (rest := []) ⟨hx, hb, hml, hown, htl⟩ hN hK hP (c_X3_isAsHeard l G cs h0 aF (nI i) (.ref aA) (.ref e1) (.ref e2) f_h0_3 f_aF_0 f_aF_1 f_aF_2 f_aF_3 f_aF_4 f_aF_5 f_aF_6 f_aF_7 f_aF_8 f_aF_10 f_aF_11 f_aF_12) [4, 3] rfl 0 3 rfl rfl (cV 2 htl lk_RX3_102 mI_X3_isAsHeard mS_X3_isAsHeard mN_RX3 mC_X3_isAsHeard ok_X3_isAsHeard rfl rfl ⟨(Nat.le_of_ble_eq_true rfl), (Nat.le_of_ble_eq_true rfl)⟩) rfl hl.1 rfl (Nat.le_of_ble_eq_true rfl) dX3_hiddenCells_63 ⟨(Nat.le_of_ble_eq_true rfl), (Nat.le_of_ble_eq_true rfl)⟩) (fun r hw => ?_)
    obtain rfl : r = 1 := hw.1.trans (by first | decide +kernel | rfl)
    refine lv_if_eq (tgt := 76) hx hb dX3_hiddenCells_66 (by decide) (fun h => absurd h (by decide)) (fun _ => ?_)
    refine lv_lload_n hx hb dX3_hiddenCells_69 rfl (lv_at hl 2 rfl) ?_
    refine lv_lconst (v := 1) hx hb dX3_hiddenCells_70 (by decide) ?_
    refine lv_iload hx hb dX3_hiddenCells_71 (lv_at hl 3 rfl) ?_
    refine lv_lshl (v := ((1 : Int64) <<< ((nI i).toInt64 &&& 63))) hx hb dX3_hiddenCells_73 (by first | rfl | decide) ?_
    refine lv_lor hx hb dX3_hiddenCells_74 ?_
    refine lv_lstore_n (lv' := [(2, .long ((hbt i) ||| ((1 : Int64) <<< ((nI i).toInt64 &&& 63)))), (0, .ref h0), (1, .ref aW), (4, .int (nI i))]) hx hb dX3_hiddenCells_75 rfl hl (by decide) rfl (fun ls hl => ?_)
    refine lv_iinc (v := ((nI i) + 1)) (lv' := [(4, .int ((nI i) + 1)), (2, .long ((hbt i) ||| ((1 : Int64) <<< ((nI i).toInt64 &&& 63)))), (0, .ref h0), (1, .ref aW)]) hx hb dX3_hiddenCells_76 hl (k := 3) rfl (by first | rfl | decide) (by decide) rfl (fun ls hl => ?_)
    refine lv_goto (tgt := 17) hx hb dX3_hiddenCells_79 (by decide) ?_
    rw [fl_up (i := i) (by omega), fl_up (i := i) (by omega)] at hP hD
    rw [nI_1] at hl
    exact ih (i + 1) (by omega) (.int (nI i)) (.int (-1)) (.int 3) H locs ls (hP.pick (is := [4, 0, 1, 2, 3, 7, 5, 6]) rfl) (hD.sub [4, 0, 1, 2, 3, 7, 5, 6] rfl rfl) hS (lv_sub hl [2, 3, 1, 0] rfl)

def sp_X3_hiddenCells : Int64 := (hbt 40)
set_option maxHeartbeats 1000000 in
set_option maxRecDepth 100000 in
theorem c_X3_hiddenCells (l : Launch) (G : va_G) (cs : Nat → ClassId) (h0 : Nat) (aW : Nat) (aA : Nat) (e1 : Nat) (e2 : Nat) (f_h0_3 : Value) (aR : Nat) (f_aW_1 : Value) (aF : Nat) (f_aW_3 : Value) (f_aW_4 : Value) (f_aW_5 : Value) (aK : Nat) (f_aR_1 : Value) (f_aR_2 : Value) (f_aF_0 : Value) (f_aF_1 : Value) (f_aF_2 : Value) (f_aF_3 : Value) (f_aF_4 : Value) (f_aF_5 : Value) (f_aF_6 : Value) (f_aF_7 : Value) (f_aF_8 : Value) (f_aF_10 : Value) (f_aF_11 : Value) (f_aF_12 : Value) (f_aA_0 : Value) (f_aA_1 : Value) (f_aA_2 : Value) (f_aA_3 : Value) (f_aA_4 : Value) (f_aA_5 : Value) (f_aA_6 : Value) (f_aA_7 : Value) (f_aA_8 : Value) (sz : Nat) : Met l yX3_hiddenCells (Cond.code yX3_hiddenCells cX3_hiddenCells 5 (some .long) :: gW) ({ frames := 4, cells := 0, slots := 0, locals := 89 }) (va_Pc [.ref h0, .ref aW] (Pre G cs [(h0, .inr (3, [.ref aA, .ref e1, .ref e2, f_h0_3])), (aW, .inr (10, [.ref aR, f_aW_1, .ref aF, f_aW_3, f_aW_4, f_aW_5, .int (-1)])), (aR, .inr (6, [.ref aK, f_aR_1, f_aR_2, .long 0])), (aK, .inl (cs 0, 40, .inl (fun _ => 0))), (aF, .inr (4, [f_aF_0, f_aF_1, f_aF_2, f_aF_3, f_aF_4, f_aF_5, f_aF_6, f_aF_7, f_aF_8, .int 0, f_aF_10, f_aF_11, f_aF_12])), (aA, .inr (0, [f_aA_0, f_aA_1, f_aA_2, f_aA_3, f_aA_4, f_aA_5, f_aA_6, f_aA_7, f_aA_8])), (e1, .inl (cs 0, 40, .inl (fun _ => 0))), (e2, .inl (cs 0, 40, .inl (fun _ => 0)))] sz)) (va_Ql (fun r (u : Unit) => r = sp_X3_hiddenCells) (fun (u : Unit) t => Aft G cs (va_A [(h0, .inr (3, [.ref aA, .ref e1, .ref e2, f_h0_3])), (aW, .inr (10, [.ref aR, f_aW_1, .ref aF, f_aW_3, f_aW_4, f_aW_5, .int (-1)])), (aR, .inr (6, [.ref aK, f_aR_1, f_aR_2, .long 0])), (aK, .inl (cs 0, 40, .inl (fun _ => 0))), (aF, .inr (4, [f_aF_0, f_aF_1, f_aF_2, f_aF_3, f_aF_4, f_aF_5, f_aF_6, f_aF_7, f_aF_8, .int 0, f_aF_10, f_aF_11, f_aF_12])), (aA, .inr (0, [f_aA_0, f_aA_1, f_aA_2, f_aA_3, f_aA_4, f_aA_5, f_aA_6, f_aA_7, f_aA_8])), (e1, .inl (cs 0, 40, .inl (fun _ => 0))), (e2, .inl (cs 0, 40, .inl (fun _ => 0)))] sz) [(h0, .inr (3, [.ref aA, .ref e1, .ref e2, f_h0_3])), (e1, .inl (cs 0, 40, .inl (fl (fun _ => 0) 40 20))), (e2, .inl (cs 0, 40, .inl (fl (fun _ => 0) 40 2)))] t) (va_A [(h0, .inr (3, [.ref aA, .ref e1, .ref e2, f_h0_3])), (aW, .inr (10, [.ref aR, f_aW_1, .ref aF, f_aW_3, f_aW_4, f_aW_5, .int (-1)])), (aR, .inr (6, [.ref aK, f_aR_1, f_aR_2, .long 0])), (aK, .inl (cs 0, 40, .inl (fun _ => 0))), (aF, .inr (4, [f_aF_0, f_aF_1, f_aF_2, f_aF_3, f_aF_4, f_aF_5, f_aF_6, f_aF_7, f_aF_8, .int 0, f_aF_10, f_aF_11, f_aF_12])), (aA, .inr (0, [f_aA_0, f_aA_1, f_aA_2, f_aA_3, f_aA_4, f_aA_5, f_aA_6, f_aA_7, f_aA_8])), (e1, .inl (cs 0, 40, .inl (fun _ => 0))), (e2, .inl (cs 0, 40, .inl (fun _ => 0)))] sz)) 0 0 (va_A [(h0, .inr (3, [.ref aA, .ref e1, .ref e2, f_h0_3])), (aW, .inr (10, [.ref aR, f_aW_1, .ref aF, f_aW_3, f_aW_4, f_aW_5, .int (-1)])), (aR, .inr (6, [.ref aK, f_aR_1, f_aR_2, .long 0])), (aK, .inl (cs 0, 40, .inl (fun _ => 0))), (aF, .inr (4, [f_aF_0, f_aF_1, f_aF_2, f_aF_3, f_aF_4, f_aF_5, f_aF_6, f_aF_7, f_aF_8, .int 0, f_aF_10, f_aF_11, f_aF_12])), (aA, .inr (0, [f_aA_0, f_aA_1, f_aA_2, f_aA_3, f_aA_4, f_aA_5, f_aA_6, f_aA_7, f_aA_8])), (e1, .inl (cs 0, 40, .inl (fun _ => 0))), (e2, .inl (cs 0, 40, .inl (fun _ => 0)))] sz) := by
  refine Met.ofW (cc := cX3_hiddenCells) (maxL := 5) (ret := (some .long)) (by decide) rfl ?_
  intro p e s m args below meth c s₁ B hml hv
  obtain ⟨rfl, hsz, hP, hK, hD0, hN⟩ := hv
  have hx := B.exec
  have hb := B.bytes
  have hr := B.returns
  have hts := atoms_spec (ws := Cond.code yX3_hiddenCells cX3_hiddenCells 5 (some .long) :: gW) B.pre
  have htl : ∀ w ∈ gW, w.before _ s = true := fun w h => hts w (List.mem_cons_of_mem _ h)
  have hown : s.vm.findClass RX3 = some m.cls := findClass_of_methodNamed B.named
  have hlocks := B.notSynchronized
  subst hsz
  have hD := hD0.self (sz := s.heap.size)
  generalize hAe : va_A [(h0, .inr (3, [.ref aA, .ref e1, .ref e2, f_h0_3])), (aW, .inr (10, [.ref aR, f_aW_1, .ref aF, f_aW_3, f_aW_4, f_aW_5, .int (-1)])), (aR, .inr (6, [.ref aK, f_aR_1, f_aR_2, .long 0])), (aK, .inl (cs 0, 40, .inl (fun _ => 0))), (aF, .inr (4, [f_aF_0, f_aF_1, f_aF_2, f_aF_3, f_aF_4, f_aF_5, f_aF_6, f_aF_7, f_aF_8, .int 0, f_aF_10, f_aF_11, f_aF_12])), (aA, .inr (0, [f_aA_0, f_aA_1, f_aA_2, f_aA_3, f_aA_4, f_aA_5, f_aA_6, f_aA_7, f_aA_8])), (e1, .inl (cs 0, 40, .inl (fun _ => 0))), (e2, .inl (cs 0, 40, .inl (fun _ => 0)))] s.heap.size = A at hD ⊢
  have hA : ∀ q : Nat, s.heap.size ≤ q → A q := fun q h => by rw [← hAe]; exact Or.inr h
  have hS : va_S A s.heap s.heap [] := va_S.rf
  have hl := lv_entry ([.ref h0, .ref aW]) (n := 5) (Nat.le_of_ble_eq_true rfl)
  rw [lg_entry_eq]
  generalize (lg_sl ([.ref h0, .ref aW]) ++ List.replicate (5 - (lg_sl ([.ref h0, .ref aW])).length) Slot.unset).toArray = ls at hl ⊢
  have hl : lv_has ls 5 [(0, .ref h0), (1, .ref aW)] := hl
  refine lv_aload_n hx hb dX3_hiddenCells_0 rfl (lv_at hl 0 rfl) ?_
  refine va_get (ci := 3) (v := .ref aA) (C := RX3) (T := TX3) (N := 4) hx hb htl inX3 hown hK hP 0 rfl rfl 0 (by decide) (htl _ fl_RX3_21) (fun _ h9 => h9) rfl dX3_hiddenCells_1 ?_
  refine lv_aload_n hx hb dX3_hiddenCells_4 rfl (lv_at hl 1 rfl) ?_
  refine lv_aload_n hx hb dX3_hiddenCells_5 rfl (lv_at hl 1 rfl) ?_
  refine va_csr (mkVr (rest := [.ref aW, .ref aA]) ⟨hx, hb, hml, hown, htl⟩ hN hK hP (c_X10_lawInForce l G cs aW (.ref aR) f_aW_1 (.ref aF) f_aW_3 f_aW_4 f_aW_5) [1] rfl 0 10 rfl rfl (cV 0 htl lk_RX3_94 mI_X10_lawInForce mS_X10_lawInForce mN_RX10 mC_X10_lawInForce ok_X10_lawInForce rfl rfl ⟨(Nat.le_of_ble_eq_true rfl), (Nat.le_of_ble_eq_true rfl)⟩) rfl hl.1 rfl (Nat.le_of_ble_eq_true rfl) dX3_hiddenCells_6 ⟨(Nat.le_of_ble_eq_true rfl), (Nat.le_of_ble_eq_true rfl)⟩) (fun r hw => ?_)
  clear hw
  refine W.eq (g2 := F0 m 9 ls [.null, .ref aW, .ref aA]) rfl ?_
  refine mv (wr := [(h0, .inr (3, [.ref aA, .ref e1, .ref e2, f_h0_3])), (aW, .inr (10, [.ref aR, f_aW_1, .ref aF, f_aW_3, f_aW_4, f_aW_5, .int (-1)])), (aR, .inr (6, [.ref aK, f_aR_1, f_aR_2, .long 0])), (aK, .inl (cs 0, 40, .inl (fun _ => 0))), (aF, .inr (4, [f_aF_0, f_aF_1, f_aF_2, f_aF_3, f_aF_4, f_aF_5, f_aF_6, f_aF_7, f_aF_8, .int 0, f_aF_10, f_aF_11, f_aF_12])), (e1, .inl (cs 0, 40, .inl (fun _ => 0))), (e2, .inl (cs 0, 40, .inl (fun _ => 0)))]) (mkV (rest := []) ⟨hx, hb, hml, hown, htl⟩ hN hK hP hD (c_X0_turnTo l G cs aA aW f_aA_0 f_aA_1 f_aA_2 f_aA_3 f_aA_4 f_aA_5 f_aA_6 f_aA_7 f_aA_8 _) [5] rfl rfl 0 0 rfl rfl (cV 2 htl lk_RX3_25 mI_X0_turnTo mS_X0_turnTo mN_RX0 mC_X0_turnTo ok_X0_turnTo rfl rfl ⟨(Nat.le_of_ble_eq_true rfl), (Nat.le_of_ble_eq_true rfl)⟩) rfl hl.1 rfl (Nat.le_of_ble_eq_true rfl) dX3_hiddenCells_9 ⟨(Nat.le_of_ble_eq_true rfl), (Nat.le_of_ble_eq_true rfl)⟩) hP hD hS hA [5] [0, 1, 2, 3, 4, 6, 7] rfl rfl rfl (by decide) (fun u_9 H locs hw hP hD hS => ?_)
  have hP : va_P G vwCl [(h0, .inr (3, [.ref aA, .ref e1, .ref e2, f_h0_3])), (aW, .inr (10, [.ref aR, f_aW_1, .ref aF, f_aW_3, f_aW_4, f_aW_5, .int (-1)])), (aR, .inr (6, [.ref aK, f_aR_1, f_aR_2, .long 0])), (aK, .inl (cs 0, 40, .inl (fun _ => 0))), (aF, .inr (4, [f_aF_0, f_aF_1, f_aF_2, f_aF_3, f_aF_4, f_aF_5, f_aF_6, f_aF_7, f_aF_8, .int 0, f_aF_10, f_aF_11, f_aF_12])), (e1, .inl (cs 0, 40, .inl (fun _ => 0))), (e2, .inl (cs 0, 40, .inl (fun _ => 0))), (aA, .inr (0, [f_aA_0, .ref aW, .null, f_aA_3, f_aA_4, f_aA_5, f_aA_6, f_aA_7, f_aA_8]))] H := hP
  have hD : va_D A [(h0, .inr (3, [.ref aA, .ref e1, .ref e2, f_h0_3])), (aW, .inr (10, [.ref aR, f_aW_1, .ref aF, f_aW_3, f_aW_4, f_aW_5, .int (-1)])), (aR, .inr (6, [.ref aK, f_aR_1, f_aR_2, .long 0])), (aK, .inl (cs 0, 40, .inl (fun _ => 0))), (aF, .inr (4, [f_aF_0, f_aF_1, f_aF_2, f_aF_3, f_aF_4, f_aF_5, f_aF_6, f_aF_7, f_aF_8, .int 0, f_aF_10, f_aF_11, f_aF_12])), (e1, .inl (cs 0, 40, .inl (fun _ => 0))), (e2, .inl (cs 0, 40, .inl (fun _ => 0))), (aA, .inr (0, [f_aA_0, .ref aW, .null, f_aA_3, f_aA_4, f_aA_5, f_aA_6, f_aA_7, f_aA_8]))] := hD
  refine lv_lconst (v := 0) hx hb dX3_hiddenCells_12 (by decide) ?_
  refine lv_lstore_n (lv' := [(2, .long 0), (0, .ref h0), (1, .ref aW)]) hx hb dX3_hiddenCells_13 rfl hl (by decide) rfl (fun ls hl => ?_)
  refine lv_iconst (v := 0) hx hb dX3_hiddenCells_14 (by decide) ?_
  refine lv_istore (lv' := [(4, .int 0), (2, .long 0), (0, .ref h0), (1, .ref aW)]) hx hb dX3_hiddenCells_15 hl (by decide) rfl (fun ls hl => ?_)
  have hP : va_P G vwCl [(h0, .inr (3, [.ref aA, .ref e1, .ref e2, f_h0_3])), (aW, .inr (10, [.ref aR, f_aW_1, .ref aF, f_aW_3, f_aW_4, f_aW_5, .int (-1)])), (aR, .inr (6, [.ref aK, f_aR_1, f_aR_2, .long 0])), (aK, .inl (cs 0, 40, .inl (fun _ => 0))), (aF, .inr (4, [f_aF_0, f_aF_1, f_aF_2, f_aF_3, f_aF_4, f_aF_5, f_aF_6, f_aF_7, f_aF_8, .int 0, f_aF_10, f_aF_11, f_aF_12])), (e1, .inl (cs 0, 40, .inl (fl (fun _ => 0) 0 20))), (e2, .inl (cs 0, 40, .inl (fl (fun _ => 0) 0 2))), (aA, .inr (0, [f_aA_0, .ref aW, .null, f_aA_3, f_aA_4, f_aA_5, f_aA_6, f_aA_7, f_aA_8]))] H := by simp only [fl_0]; exact hP
  have hD : va_D A [(h0, .inr (3, [.ref aA, .ref e1, .ref e2, f_h0_3])), (aW, .inr (10, [.ref aR, f_aW_1, .ref aF, f_aW_3, f_aW_4, f_aW_5, .int (-1)])), (aR, .inr (6, [.ref aK, f_aR_1, f_aR_2, .long 0])), (aK, .inl (cs 0, 40, .inl (fun _ => 0))), (aF, .inr (4, [f_aF_0, f_aF_1, f_aF_2, f_aF_3, f_aF_4, f_aF_5, f_aF_6, f_aF_7, f_aF_8, .int 0, f_aF_10, f_aF_11, f_aF_12])), (e1, .inl (cs 0, 40, .inl (fl (fun _ => 0) 0 20))), (e2, .inl (cs 0, 40, .inl (fl (fun _ => 0) 0 2))), (aA, .inr (0, [f_aA_0, .ref aW, .null, f_aA_3, f_aA_4, f_aA_5, f_aA_6, f_aA_7, f_aA_8]))] := by simp only [fl_0]; exact hD
  refine lp_hidden l G cs h0 aW aA e1 e2 f_h0_3 aR f_aW_1 aF f_aW_3 f_aW_4 f_aW_5 aK f_aR_1 f_aR_2 f_aF_0 f_aF_1 f_aF_2 f_aF_3 f_aF_4 f_aF_5 f_aF_6 f_aF_7 f_aF_8 f_aF_10 f_aF_11 f_aF_12 f_aA_0 f_aA_1 f_aA_2 f_aA_3 f_aA_4 f_aA_5 f_aA_6 f_aA_7 f_aA_8 hx hb hml hown htl hN hK hA (fun y3 y4 y5 H locs ls hP hD hS hl => ?_) 40 0 rfl f_aA_3 f_aA_4 f_aA_5 _ _ _ (hP.pick (is := [0, 1, 2, 3, 4, 7, 5, 6]) rfl) (hD.sub [0, 1, 2, 3, 4, 7, 5, 6] rfl rfl) hS (lv_sub hl [2, 3, 1, 0] rfl)
  refine lv_lload_n hx hb dX3_hiddenCells_82 rfl (lv_at hl 2 rfl) ?_
  have hP9 := hP.pick (wc := [(h0, .inr (3, [.ref aA, .ref e1, .ref e2, f_h0_3])), (e1, .inl (cs 0, 40, .inl (fl (fun _ => 0) 40 20))), (e2, .inl (cs 0, 40, .inl (fl (fun _ => 0) 40 2)))]) (is := [0, 6, 7]) rfl
  have hD9 := hD.sub (ws' := [(h0, .inr (3, [.ref aA, .ref e1, .ref e2, f_h0_3])), (e1, .inl (cs 0, 40, .inl (fl (fun _ => 0) 40 20))), (e2, .inl (cs 0, 40, .inl (fl (fun _ => 0) 40 2)))]) [0, 6, 7] rfl rfl
  exact W.lret (v := (hbt 40)) hx hb hr (fun t ht hW => ⟨⟨(hbt 40), (), rfl, rfl, ⟨by rw [ht]; exact hP9, va_K.moved hW.alike hK, hD9⟩⟩, hS.F ht⟩) hS.2.2 dX3_hiddenCells_83

def sp_X3_loudness (a : Int32) (b : Int32) : Int32 := (20 - ((sp_X11_stepsTo a b) * 2))
set_option maxHeartbeats 1000000 in
set_option maxRecDepth 100000 in
theorem c_X3_loudness (l : Launch) (G : va_G) (cs : Nat → ClassId) (h0 : Nat) (a : Int32) (b : Int32) (f_h0_0 : Value) (e1 : Nat) (e2 : Nat) (f_h0_3 : Value) (ha : vp_in a 40) : Met l yX3_loudness (Cond.code yX3_loudness cX3_loudness 3 (some .int) :: gW) ({ frames := 2, cells := 0, slots := 0, locals := 45 }) (va_Pc [.ref h0, .int a, .int b] (PrS G cs [(h0, .inr (3, [f_h0_0, .ref e1, .ref e2, f_h0_3])), (e1, .inl (cs 0, 40, .inl (fl (fun _ => 0) 40 20))), (e2, .inl (cs 0, 40, .inl (fl (fun _ => 0) 40 2)))])) (vp_Si (fun r => r = sp_X3_loudness a b)) 0 0 (fun _ => False) := by
  refine Met.ofW (cc := cX3_loudness) (maxL := 3) (ret := (some .int)) (by decide) rfl ?_
  intro p e s m args below meth c s₁ B hml hv
  obtain ⟨rfl, hP, hK, hN⟩ := hv
  have hx := B.exec
  have hb := B.bytes
  have hr := B.returns
  have hts := atoms_spec (ws := Cond.code yX3_loudness cX3_loudness 3 (some .int) :: gW) B.pre
  have htl : ∀ w ∈ gW, w.before _ s = true := fun w h => hts w (List.mem_cons_of_mem _ h)
  have hown : s.vm.findClass RX3 = some m.cls := findClass_of_methodNamed B.named
  have hlocks := B.notSynchronized
  have hl := lv_entry ([.ref h0, .int a, .int b]) (n := 3) (Nat.le_of_ble_eq_true rfl)
  rw [lg_entry_eq]
  generalize (lg_sl ([.ref h0, .int a, .int b]) ++ List.replicate (3 - (lg_sl ([.ref h0, .int a, .int b])).length) Slot.unset).toArray = ls at hl ⊢
  have hl : lv_has ls 3 [(0, .ref h0), (1, .int a), (2, .int b)] := hl
  refine lv_aload_n hx hb dX3_loudness_0 rfl (lv_at hl 0 rfl) ?_
  refine va_get (ci := 3) (v := .ref e1) (C := RX3) (T := TX3) (N := 4) hx hb htl inX3 hown hK hP 0 rfl rfl 1 (by decide) (htl _ fl_RX3_9) (fun _ h9 => h9) rfl dX3_loudness_1 ?_
  refine lv_iload_n hx hb dX3_loudness_4 rfl (lv_at hl 1 rfl) ?_
  refine va_iald hx hb hK hP 1 0 rfl rfl ha dX3_loudness_5 ?_
  refine lv_topi (fun xv ex => ?_)
  obtain rfl : xv = 20 := ex.trans (fl_in ha)
  refine lv_iload_n hx hb dX3_loudness_6 rfl (lv_at hl 1 rfl) ?_
  refine lv_iload_n hx hb dX3_loudness_7 rfl (lv_at hl 2 rfl) ?_
  refine vp_callSi (mkSN (rest := [.int 20]) ⟨hx, hb, hml, hown, htl⟩ hN hK (c_X11_stepsTo l G cs a b) (cSN 2 htl hN nl_RX3_53 mT_X11_stepsTo mN_RX11 mC_X11_stepsTo ok_X11_stepsTo rfl rfl ⟨(Nat.le_of_ble_eq_true rfl), (Nat.le_of_ble_eq_true rfl)⟩) rfl hl.1 rfl (Nat.le_of_ble_eq_true rfl) dX3_loudness_8 ⟨(Nat.le_of_ble_eq_true rfl), (Nat.le_of_ble_eq_true rfl)⟩) (fun r hw => ?_)
  subst hw
  refine lv_aload_n hx hb dX3_loudness_11 rfl (lv_at hl 0 rfl) ?_
  refine va_get (ci := 3) (v := .ref e2) (C := RX3) (T := TX3) (N := 4) hx hb htl inX3 hown hK hP 0 rfl rfl 2 (by decide) (htl _ fl_RX3_15) (fun _ h9 => h9) rfl dX3_loudness_12 ?_
  refine lv_iload_n hx hb dX3_loudness_15 rfl (lv_at hl 1 rfl) ?_
  refine va_iald hx hb hK hP 2 0 rfl rfl ha dX3_loudness_16 ?_
  refine lv_topi (fun xv ex => ?_)
  obtain rfl : xv = 2 := ex.trans (fl_in ha)
  refine lv_imul hx hb dX3_loudness_17 ?_
  refine lv_isub hx hb dX3_loudness_18 ?_
  exact W.iret (v := (20 - ((sp_X11_stepsTo a b) * 2))) hx hb hr (fun t ht hW => ⟨(20 - ((sp_X11_stepsTo a b) * 2)), rfl, rfl, ht⟩) (fun q h => by cases h) dX3_loudness_19

theorem nr_in (v : Int32) : vp_in (sp_X11_nearest v 0 99) 100 := by
  unfold sp_X11_nearest
  rw [vp_in_iff]
  have e0 : (0 : Int32).toInt = 0 := by decide
  have e9 : (99 : Int32).toInt = 99 := by decide
  by_cases h1 : v < 99
  · rw [if_pos h1]
    by_cases h2 : (0 : Int32) < v
    · rw [if_pos h2]
      rw [Int32.lt_iff_toInt_lt] at h1 h2
      omega
    · rw [if_neg h2]
      rw [e0]
      omega
  · rw [if_neg h1, if_pos (by decide), e9]
    omega
theorem hb_bit : ∀ i, i < 40 → ¬ (lg_cmp (((1099511627775 : Int64) >>> ((nI i).toInt64 &&& 63)) &&& 1) 0) = 0 := by decide +kernel
def maV (x : Int32) (i : Nat) : Int32 := sp_X11_nearest (sp_X3_loudness (nI i) x) 0 99
def maF (x : Int32) (f : Nat → Int32) : Nat → Nat → Int32
  | 0 => f
  | i + 1 => upd (maF x f i) (maV x i).toNatClampNeg (maF x f i (maV x i).toNatClampNeg + 1)
def maM (x : Int32) (f : Nat → Int32) : Nat → Int32
  | 0 => 0
  | i + 1 => if maM x f i < maF x f i (maV x i).toNatClampNeg + 1 then maF x f i (maV x i).toNatClampNeg + 1 else maM x f i
theorem ma_ag (x : Int32) (f g : Nat → Int32) (h : ∀ k, k < 100 → f k = g k) : ∀ i, (∀ k, k < 100 → maF x f i k = maF x g i k) ∧ maM x f i = maM x g i := by
  intro i
  induction i with
  | zero => exact ⟨h, rfl⟩
  | succ i ih =>
    have hv : (maV x i).toNatClampNeg < 100 := Nat.not_le.mp fun q => nr_in _ (Or.inr q)
    refine ⟨fun k hk => ?_, ?_⟩
    · show upd _ _ _ k = upd _ _ _ k
      unfold upd
      by_cases e : k = (maV x i).toNatClampNeg
      · rw [if_pos e, if_pos e, ih.1 _ hv]
      · rw [if_neg e, if_neg e, ih.1 _ hk]
    · show (if maM x f i < maF x f i (maV x i).toNatClampNeg + 1 then maF x f i (maV x i).toNatClampNeg + 1 else maM x f i) = (if maM x g i < maF x g i (maV x i).toNatClampNeg + 1 then maF x g i (maV x i).toNatClampNeg + 1 else maM x g i)
      rw [ih.2, ih.1 _ hv]
theorem ma_c (x : Int32) (f : Nat → Int32) : maM x (fl f 100 0) 40 = maM x (fun _ => 0) 40 :=
  (ma_ag x _ _ (fun k hk => by unfold fl; rw [if_pos hk]) 40).2

set_option maxHeartbeats 1000000 in
set_option maxRecDepth 100000 in
theorem lp_alike (l : Launch) (G : va_G) (cs : Nat → ClassId) (h0 : Nat) (x : Int32) (f_h0_0 : Value) (e1 : Nat) (e2 : Nat) (e3 : Nat) (af : Nat → Int32) {p : Program} {e : Env} {s : State} {m : MethodId} {args : Array Value} {below : List Frame} {meth : Method} {c : Code} {Q : State → Prop} {A : Nat → Prop} {H0 : Heap} (hx : p.tables.exec = Jvm.exec) (hb : c.code = cX3_mostAlike) (hml : c.maxLocals = 7) (hown : s.vm.findClass RX3 = some m.cls) (htl : ∀ w ∈ gW, w.before args s = true) (hN : NW s) (hK : va_K G vwCl (tyL cs) s) (hA : ∀ q, H0.size ≤ q → A q) (K : ∀ (H : Heap) (locs : List Loc) (ls : Array Slot), va_P G vwCl [(h0, .inr (3, [f_h0_0, .ref e1, .ref e2, .ref e3])), (e1, .inl (cs 0, 40, .inl (fl (fun _ => 0) 40 20))), (e2, .inl (cs 0, 40, .inl (fl (fun _ => 0) 40 2))), (e3, .inl (cs 0, 100, .inl (maF x ((fl af 100 0)) 40)))] H → va_D A [(h0, .inr (3, [f_h0_0, .ref e1, .ref e2, .ref e3])), (e1, .inl (cs 0, 40, .inl (fl (fun _ => 0) 40 20))), (e2, .inl (cs 0, 40, .inl (fl (fun _ => 0) 40 2))), (e3, .inl (cs 0, 100, .inl (maF x ((fl af 100 0)) 40)))] → va_S A H0 H locs → lv_has ls 7 [(0, .ref h0), (1, .long 1099511627775), (3, .int x), (4, .int (maM x (fl af 100 0) 40)), (5, .int (nI 40))] → W p l e (headSpec (Cond.code yX3_mostAlike cX3_mostAlike 7 (some .int) :: gW) ({ frames := 3, cells := 0, slots := 0, locals := 67 })).room s m args below meth c H locs 0 0 Q (F0 m 78 ls [])) : ∀ (n i : Nat), i + n = 40 → ∀ (H : Heap) (locs : List Loc) (ls : Array Slot), va_P G vwCl [(h0, .inr (3, [f_h0_0, .ref e1, .ref e2, .ref e3])), (e1, .inl (cs 0, 40, .inl (fl (fun _ => 0) 40 20))), (e2, .inl (cs 0, 40, .inl (fl (fun _ => 0) 40 2))), (e3, .inl (cs 0, 100, .inl (maF x ((fl af 100 0)) i)))] H → va_D A [(h0, .inr (3, [f_h0_0, .ref e1, .ref e2, .ref e3])), (e1, .inl (cs 0, 40, .inl (fl (fun _ => 0) 40 20))), (e2, .inl (cs 0, 40, .inl (fl (fun _ => 0) 40 2))), (e3, .inl (cs 0, 100, .inl (maF x ((fl af 100 0)) i)))] → va_S A H0 H locs → lv_has ls 7 [(0, .ref h0), (1, .long 1099511627775), (3, .int x), (4, .int (maM x (fl af 100 0) i)), (5, .int (nI i))] → W p l e (headSpec (Cond.code yX3_mostAlike cX3_mostAlike 7 (some .int) :: gW) ({ frames := 3, cells := 0, slots := 0, locals := 67 })).room s m args below meth c H locs 0 0 Q (F0 m 14 ls []) := by
  intro n
  induction n with
  | zero =>
    intro i hi H locs ls hP hD hS hl
    obtain rfl : i = 40 := by omega
    refine lv_iload hx hb dX3_mostAlike_14 (lv_at hl 4 rfl) ?_
    refine lv_bipush (v := 40) hx hb dX3_mostAlike_16 (by decide) ?_
    refine lv_icmp_ge (tgt := 78) hx hb dX3_mostAlike_18 (by decide) (fun _ => ?_) (fun h => absurd (by decide) h)
    exact K H locs ls (hP.pick (is := [0, 1, 2, 3]) rfl) (hD.sub [0, 1, 2, 3] rfl rfl) hS (lv_sub hl [0, 1, 2, 3, 4] rfl)
  | succ n ih =>
    intro i hi H locs ls hP hD hS hl
    refine lv_iload hx hb dX3_mostAlike_14 (lv_at hl 4 rfl) ?_
    refine lv_bipush (v := 40) hx hb dX3_mostAlike_16 (by decide) ?_
    refine lv_icmp_ge (tgt := 78) hx hb dX3_mostAlike_18 (by decide) (fun h => absurd h (nI_ge (a := i) (b := 40) (by omega) (by decide))) (fun _ => ?_)
    refine lv_lload_n hx hb dX3_mostAlike_21 rfl (lv_at hl 1 rfl) ?_
    refine lv_iload hx hb dX3_mostAlike_22 (lv_at hl 4 rfl) ?_
    refine lv_lshr (v := ((1099511627775 : Int64) >>> ((nI i).toInt64 &&& 63))) hx hb dX3_mostAlike_24 (by first | rfl | decide) ?_
    refine lv_lconst (v := 1) hx hb dX3_mostAlike_25 (by decide) ?_
    refine lv_land hx hb dX3_mostAlike_26 ?_
    refine lv_lconst (v := 0) hx hb dX3_mostAlike_27 (by decide) ?_
    refine W.lcmp hx hb dX3_mostAlike_28 ?_
    refine lv_if_eq (tgt := 72) hx hb dX3_mostAlike_29 (by decide) (fun h => absurd h (hb_bit i (by omega))) (fun _ => ?_)
    refine lv_aload_n hx hb dX3_mostAlike_32 rfl (lv_at hl 0 rfl) ?_
    refine lv_iload hx hb dX3_mostAlike_33 (lv_at hl 4 rfl) ?_
    refine lv_iload_n hx hb dX3_mostAlike_35 rfl (lv_at hl 2 rfl) ?_
    refine vp_callSi (mkVr (rest := []) ⟨hx, hb, hml, hown, htl⟩ hN hK hP (c_X3_loudness l G cs h0 (nI i) x f_h0_0 e1 e2 (.ref e3) (vp_in_nI (by omega) (by decide))) [0, 1, 2] rfl 0 3 rfl rfl (cV 2 htl lk_RX3_68 mI_X3_loudness mS_X3_loudness mN_RX3 mC_X3_loudness ok_X3_loudness rfl rfl ⟨(Nat.le_of_ble_eq_true rfl), (Nat.le_of_ble_eq_true rfl)⟩) rfl hl.1 rfl (Nat.le_of_ble_eq_true rfl) dX3_mostAlike_36 ⟨(Nat.le_of_ble_eq_true rfl), (Nat.le_of_ble_eq_true rfl)⟩) (fun r hw => ?_)
    subst hw
    refine lv_iconst (v := 0) hx hb dX3_mostAlike_39 (by decide) ?_
    refine lv_bipush (v := 99) hx hb dX3_mostAlike_40 (by decide) ?_
    refine vp_callSi (mkSN (rest := []) ⟨hx, hb, hml, hown, htl⟩ hN hK (c_X11_nearest l G cs (sp_X3_loudness (nI i) x) 0 99) (cSN 3 htl hN nl_RX3_126 mT_X11_nearest mN_RX11 mC_X11_nearest ok_X11_nearest rfl rfl ⟨(Nat.le_of_ble_eq_true rfl), (Nat.le_of_ble_eq_true rfl)⟩) rfl hl.1 rfl (Nat.le_of_ble_eq_true rfl) dX3_mostAlike_42 ⟨(Nat.le_of_ble_eq_true rfl), (Nat.le_of_ble_eq_true rfl)⟩) (fun r hw => ?_)
    subst hw
    refine lv_istore (lv' := [(6, .int (sp_X11_nearest (sp_X3_loudness (nI i) x) 0 99)), (0, .ref h0), (1, .long 1099511627775), (3, .int x), (4, .int (maM x (fl af 100 0) i)), (5, .int (nI i))]) hx hb dX3_mostAlike_45 hl (by decide) rfl (fun ls hl => ?_)
    refine lv_aload_n hx hb dX3_mostAlike_47 rfl (lv_at hl 1 rfl) ?_
    refine va_get (ci := 3) (v := .ref e3) (C := RX3) (T := TX3) (N := 4) hx hb htl inX3 hown hK hP 0 rfl rfl 3 (by decide) (htl _ fl_RX3_18) (fun _ h9 => h9) rfl dX3_mostAlike_48 ?_
    refine lv_iload hx hb dX3_mostAlike_51 (lv_at hl 0 rfl) ?_
    refine lv_dup2_11 hx hb dX3_mostAlike_53 rfl rfl ?_
    refine va_iald hx hb hK hP 3 0 rfl rfl (nr_in _) dX3_mostAlike_54 ?_
    refine lv_iconst (v := 1) hx hb dX3_mostAlike_55 (by decide) ?_
    refine lv_iadd hx hb dX3_mostAlike_56 ?_
    refine va_iast hx hb hK hP hD hS 3 0 rfl rfl (nr_in _) dX3_mostAlike_57 (fun H locs hP hD hS => ?_)
    have hP : va_P G vwCl [(h0, .inr (3, [f_h0_0, .ref e1, .ref e2, .ref e3])), (e1, .inl (cs 0, 40, .inl (fl (fun _ => 0) 40 20))), (e2, .inl (cs 0, 40, .inl (fl (fun _ => 0) 40 2))), (e3, .inl (cs 0, 100, .inl (upd (maF x ((fl af 100 0)) i) (sp_X11_nearest (sp_X3_loudness (nI i) x) 0 99).toNatClampNeg (((maF x ((fl af 100 0)) i) (sp_X11_nearest (sp_X3_loudness (nI i) x) 0 99).toNatClampNeg) + 1))))] H := hP
    have hD : va_D A [(h0, .inr (3, [f_h0_0, .ref e1, .ref e2, .ref e3])), (e1, .inl (cs 0, 40, .inl (fl (fun _ => 0) 40 20))), (e2, .inl (cs 0, 40, .inl (fl (fun _ => 0) 40 2))), (e3, .inl (cs 0, 100, .inl (upd (maF x ((fl af 100 0)) i) (sp_X11_nearest (sp_X3_loudness (nI i) x) 0 99).toNatClampNeg (((maF x ((fl af 100 0)) i) (sp_X11_nearest (sp_X3_loudness (nI i) x) 0 99).toNatClampNeg) + 1))))] := hD
    refine lv_iload hx hb dX3_mostAlike_58 (lv_at hl 4 rfl) ?_
    refine lv_aload_n hx hb dX3_mostAlike_60 rfl (lv_at hl 1 rfl) ?_
    refine va_get (ci := 3) (v := .ref e3) (C := RX3) (T := TX3) (N := 4) hx hb htl inX3 hown hK hP 0 rfl rfl 3 (by decide) (htl _ fl_RX3_18) (fun _ h9 => h9) rfl dX3_mostAlike_61 ?_
    refine lv_iload hx hb dX3_mostAlike_64 (lv_at hl 0 rfl) ?_
    refine va_iald hx hb hK hP 3 0 rfl rfl (nr_in _) dX3_mostAlike_66 ?_
    refine lv_topi (fun xv ex => ?_)
    obtain rfl : xv = (((maF x ((fl af 100 0)) i) (sp_X11_nearest (sp_X3_loudness (nI i) x) 0 99).toNatClampNeg) + 1) := ex.trans (by first | exact pk_us | rfl | decide)
    refine va_mmax hx hb (hml.trans hl.1.symm) hown (htl _ lk_RX3_112) (htl _ lb_s_imax) (htl _ lb_i) (htl _ lb_c_imax) (Nat.le_of_ble_eq_true rfl) (Nat.le_of_ble_eq_true rfl) (Nat.le_of_ble_eq_true rfl) (Nat.le_of_ble_eq_true rfl) dX3_mostAlike_67 ?_
    refine lv_istore (lv' := [(4, .int (if (maM x (fl af 100 0) i) < (((maF x ((fl af 100 0)) i) (sp_X11_nearest (sp_X3_loudness (nI i) x) 0 99).toNatClampNeg) + 1) then (((maF x ((fl af 100 0)) i) (sp_X11_nearest (sp_X3_loudness (nI i) x) 0 99).toNatClampNeg) + 1) else (maM x (fl af 100 0) i))), (6, .int (sp_X11_nearest (sp_X3_loudness (nI i) x) 0 99)), (0, .ref h0), (1, .long 1099511627775), (3, .int x), (5, .int (nI i))]) hx hb dX3_mostAlike_70 hl (by decide) rfl (fun ls hl => ?_)
    refine lv_iinc (v := ((nI i) + 1)) (lv' := [(5, .int ((nI i) + 1)), (4, .int (if (maM x (fl af 100 0) i) < (((maF x ((fl af 100 0)) i) (sp_X11_nearest (sp_X3_loudness (nI i) x) 0 99).toNatClampNeg) + 1) then (((maF x ((fl af 100 0)) i) (sp_X11_nearest (sp_X3_loudness (nI i) x) 0 99).toNatClampNeg) + 1) else (maM x (fl af 100 0) i))), (6, .int (sp_X11_nearest (sp_X3_loudness (nI i) x) 0 99)), (0, .ref h0), (1, .long 1099511627775), (3, .int x)]) hx hb dX3_mostAlike_72 hl (k := 5) rfl (by first | rfl | decide) (by decide) rfl (fun ls hl => ?_)
    refine lv_goto (tgt := 14) hx hb dX3_mostAlike_75 (by decide) ?_
    rw [nI_1] at hl
    exact ih (i + 1) (by omega) H locs ls (hP.pick (is := [0, 1, 2, 3]) rfl) (hD.sub [0, 1, 2, 3] rfl rfl) hS (lv_sub hl [3, 4, 5, 1, 0] rfl)

def sp_X3_mostAlike (x : Int32) (af : Nat → Int32) : Int32 := (maM x (fl af 100 0) 40)
set_option maxHeartbeats 1000000 in
set_option maxRecDepth 100000 in
theorem c_X3_mostAlike (l : Launch) (G : va_G) (cs : Nat → ClassId) (h0 : Nat) (x : Int32) (f_h0_0 : Value) (e1 : Nat) (e2 : Nat) (e3 : Nat) (af : Nat → Int32) (sz : Nat) : Met l yX3_mostAlike (Cond.code yX3_mostAlike cX3_mostAlike 7 (some .int) :: gW) ({ frames := 3, cells := 0, slots := 0, locals := 67 }) (va_Pc [.ref h0, .long 1099511627775, .int x] (Pre G cs [(h0, .inr (3, [f_h0_0, .ref e1, .ref e2, .ref e3])), (e1, .inl (cs 0, 40, .inl (fl (fun _ => 0) 40 20))), (e2, .inl (cs 0, 40, .inl (fl (fun _ => 0) 40 2))), (e3, .inl (cs 0, 100, .inl af))] sz)) (va_Qi (fun r (u : Unit) => r = sp_X3_mostAlike x af) (fun (u : Unit) t => Aft G cs (va_A [(h0, .inr (3, [f_h0_0, .ref e1, .ref e2, .ref e3])), (e1, .inl (cs 0, 40, .inl (fl (fun _ => 0) 40 20))), (e2, .inl (cs 0, 40, .inl (fl (fun _ => 0) 40 2))), (e3, .inl (cs 0, 100, .inl af))] sz) [(h0, .inr (3, [f_h0_0, .ref e1, .ref e2, .ref e3])), (e1, .inl (cs 0, 40, .inl (fl (fun _ => 0) 40 20))), (e2, .inl (cs 0, 40, .inl (fl (fun _ => 0) 40 2))), (e3, .inl (cs 0, 100, .inl (maF x ((fl af 100 0)) 40)))] t) (va_A [(h0, .inr (3, [f_h0_0, .ref e1, .ref e2, .ref e3])), (e1, .inl (cs 0, 40, .inl (fl (fun _ => 0) 40 20))), (e2, .inl (cs 0, 40, .inl (fl (fun _ => 0) 40 2))), (e3, .inl (cs 0, 100, .inl af))] sz)) 0 0 (va_A [(h0, .inr (3, [f_h0_0, .ref e1, .ref e2, .ref e3])), (e1, .inl (cs 0, 40, .inl (fl (fun _ => 0) 40 20))), (e2, .inl (cs 0, 40, .inl (fl (fun _ => 0) 40 2))), (e3, .inl (cs 0, 100, .inl af))] sz) := by
  refine Met.ofW (cc := cX3_mostAlike) (maxL := 7) (ret := (some .int)) (by decide) rfl ?_
  intro p e s m args below meth c s₁ B hml hv
  obtain ⟨rfl, hsz, hP, hK, hD0, hN⟩ := hv
  have hx := B.exec
  have hb := B.bytes
  have hr := B.returns
  have hts := atoms_spec (ws := Cond.code yX3_mostAlike cX3_mostAlike 7 (some .int) :: gW) B.pre
  have htl : ∀ w ∈ gW, w.before _ s = true := fun w h => hts w (List.mem_cons_of_mem _ h)
  have hown : s.vm.findClass RX3 = some m.cls := findClass_of_methodNamed B.named
  have hlocks := B.notSynchronized
  subst hsz
  have hD := hD0.self (sz := s.heap.size)
  generalize hAe : va_A [(h0, .inr (3, [f_h0_0, .ref e1, .ref e2, .ref e3])), (e1, .inl (cs 0, 40, .inl (fl (fun _ => 0) 40 20))), (e2, .inl (cs 0, 40, .inl (fl (fun _ => 0) 40 2))), (e3, .inl (cs 0, 100, .inl af))] s.heap.size = A at hD ⊢
  have hA : ∀ q : Nat, s.heap.size ≤ q → A q := fun q h => by rw [← hAe]; exact Or.inr h
  have hS : va_S A s.heap s.heap [] := va_S.rf
  have hl := lv_entry ([.ref h0, .long 1099511627775, .int x]) (n := 7) (Nat.le_of_ble_eq_true rfl)
  rw [lg_entry_eq]
  generalize (lg_sl ([.ref h0, .long 1099511627775, .int x]) ++ List.replicate (7 - (lg_sl ([.ref h0, .long 1099511627775, .int x])).length) Slot.unset).toArray = ls at hl ⊢
  have hl : lv_has ls 7 [(0, .ref h0), (1, .long 1099511627775), (3, .int x)] := hl
  refine lv_aload_n hx hb dX3_mostAlike_0 rfl (lv_at hl 0 rfl) ?_
  refine va_get (ci := 3) (v := .ref e3) (C := RX3) (T := TX3) (N := 4) hx hb htl inX3 hown hK hP 0 rfl rfl 3 (by decide) (htl _ fl_RX3_18) (fun _ h9 => h9) rfl dX3_mostAlike_1 ?_
  refine lv_iconst (v := 0) hx hb dX3_mostAlike_4 (by decide) ?_
  refine mv (wr := [(h0, .inr (3, [f_h0_0, .ref e1, .ref e2, .ref e3])), (e1, .inl (cs 0, 40, .inl (fl (fun _ => 0) 40 20))), (e2, .inl (cs 0, 40, .inl (fl (fun _ => 0) 40 2)))]) (mkS (rest := []) ⟨hx, hb, hml, hown, htl⟩ hN hK hP hD (c_J_fill100 l G cs e3 0 (af) _) [3] rfl rfl (cS 2 htl lk_RX3_120 mT_J7_fill_53178 mN_RJ7 mC_J7_fill_53178 ok_J7_fill_53178 rfl rfl ⟨(Nat.le_of_ble_eq_true rfl), (Nat.le_of_ble_eq_true rfl)⟩) rfl hl.1 rfl (Nat.le_of_ble_eq_true rfl) dX3_mostAlike_5 ⟨(Nat.le_of_ble_eq_true rfl), (Nat.le_of_ble_eq_true rfl)⟩) hP hD hS hA [3] [0, 1, 2] rfl rfl rfl (by decide) (fun u_5 H locs hw hP hD hS => ?_)
  have hP : va_P G vwCl [(h0, .inr (3, [f_h0_0, .ref e1, .ref e2, .ref e3])), (e1, .inl (cs 0, 40, .inl (fl (fun _ => 0) 40 20))), (e2, .inl (cs 0, 40, .inl (fl (fun _ => 0) 40 2))), (e3, .inl (cs 0, 100, .inl (fl af 100 0)))] H := hP
  have hD : va_D A [(h0, .inr (3, [f_h0_0, .ref e1, .ref e2, .ref e3])), (e1, .inl (cs 0, 40, .inl (fl (fun _ => 0) 40 20))), (e2, .inl (cs 0, 40, .inl (fl (fun _ => 0) 40 2))), (e3, .inl (cs 0, 100, .inl (fl af 100 0)))] := hD
  refine lv_iconst (v := 0) hx hb dX3_mostAlike_8 (by decide) ?_
  refine lv_istore (lv' := [(4, .int 0), (0, .ref h0), (1, .long 1099511627775), (3, .int x)]) hx hb dX3_mostAlike_9 hl (by decide) rfl (fun ls hl => ?_)
  refine lv_iconst (v := 0) hx hb dX3_mostAlike_11 (by decide) ?_
  refine lv_istore (lv' := [(5, .int 0), (4, .int 0), (0, .ref h0), (1, .long 1099511627775), (3, .int x)]) hx hb dX3_mostAlike_12 hl (by decide) rfl (fun ls hl => ?_)
  refine lp_alike l G cs h0 x f_h0_0 e1 e2 e3 af hx hb hml hown htl hN hK hA (fun H locs ls hP hD hS hl => ?_) 40 0 rfl _ _ _ (hP.pick (is := [0, 1, 2, 3]) rfl) (hD.sub [0, 1, 2, 3] rfl rfl) hS (lv_sub hl [2, 3, 4, 1, 0] rfl)
  refine lv_iload hx hb dX3_mostAlike_78 (lv_at hl 3 rfl) ?_
  have hP9 := hP.pick (wc := [(h0, .inr (3, [f_h0_0, .ref e1, .ref e2, .ref e3])), (e1, .inl (cs 0, 40, .inl (fl (fun _ => 0) 40 20))), (e2, .inl (cs 0, 40, .inl (fl (fun _ => 0) 40 2))), (e3, .inl (cs 0, 100, .inl (maF x ((fl af 100 0)) 40)))]) (is := [0, 1, 2, 3]) rfl
  have hD9 := hD.sub (ws' := [(h0, .inr (3, [f_h0_0, .ref e1, .ref e2, .ref e3])), (e1, .inl (cs 0, 40, .inl (fl (fun _ => 0) 40 20))), (e2, .inl (cs 0, 40, .inl (fl (fun _ => 0) 40 2))), (e3, .inl (cs 0, 100, .inl (maF x ((fl af 100 0)) 40)))]) [0, 1, 2, 3] rfl rfl
  exact W.iret (v := (maM x (fl af 100 0) 40)) hx hb hr (fun t ht hW => ⟨⟨(maM x (fl af 100 0) 40), (), rfl, rfl, ⟨by rw [ht]; exact hP9, va_K.moved hW.alike hK, hD9⟩⟩, hS.F ht⟩) hS.2.2 dX3_mostAlike_80

def sp_X11_hidden : Int64 := 1099511627775
set_option maxHeartbeats 1000000 in
set_option maxRecDepth 100000 in
theorem c_X11_hidden (l : Launch) (G : va_G) (cs : Nat → ClassId) (h0 : Nat) (f_h0_0 : Value) (aS : Nat) (f_h0_2 : Value) (f_h0_3 : Value) (f_h0_4 : Value) (f_h0_5 : Value) (f_h0_6 : Value) (aE : Nat) (f_h0_8 : Value) (f_h0_9 : Value) (f_h0_10 : Value) (f_h0_11 : Value) (h1 : Nat) (lr : Int32) (aA : Nat) (e1 : Nat) (e2 : Nat) (f_aE_3 : Value) (aW : Nat) (aD : Nat) (f_aS_2 : Value) (f_aS_3 : Value) (f_aS_4 : Value) (aR : Nat) (f_aW_1 : Value) (aF : Nat) (f_aW_3 : Value) (f_aW_4 : Value) (f_aW_5 : Value) (aK : Nat) (f_aR_1 : Value) (f_aR_2 : Value) (f_aF_0 : Value) (f_aF_1 : Value) (f_aF_2 : Value) (f_aF_3 : Value) (f_aF_4 : Value) (f_aF_5 : Value) (f_aF_6 : Value) (f_aF_7 : Value) (f_aF_8 : Value) (f_aF_10 : Value) (f_aF_11 : Value) (f_aF_12 : Value) (f_aA_0 : Value) (f_aA_1 : Value) (f_aA_2 : Value) (f_aA_3 : Value) (f_aA_4 : Value) (f_aA_5 : Value) (f_aA_6 : Value) (f_aA_7 : Value) (f_aA_8 : Value) (sz : Nat) : Met l yX11_hidden (Cond.code yX11_hidden cX11_hidden 1 (some .long) :: gW) ({ frames := 5, cells := 0, slots := 0, locals := 113 }) (va_Pc [.ref h0] (Pre G cs [(h0, .inr (11, [f_h0_0, .ref aS, f_h0_2, f_h0_3, f_h0_4, f_h0_5, f_h0_6, .ref aE, f_h0_8, f_h0_9, f_h0_10, f_h0_11, .ref h1, .int lr])), (aE, .inr (3, [.ref aA, .ref e1, .ref e2, f_aE_3])), (aS, .inr (7, [.ref aW, .ref aD, f_aS_2, f_aS_3, f_aS_4])), (aW, .inr (10, [.ref aR, f_aW_1, .ref aF, f_aW_3, f_aW_4, f_aW_5, .int (-1)])), (aR, .inr (6, [.ref aK, f_aR_1, f_aR_2, .long 0])), (aK, .inl (cs 0, 40, .inl (fun _ => 0))), (aF, .inr (4, [f_aF_0, f_aF_1, f_aF_2, f_aF_3, f_aF_4, f_aF_5, f_aF_6, f_aF_7, f_aF_8, .int 0, f_aF_10, f_aF_11, f_aF_12])), (aA, .inr (0, [f_aA_0, f_aA_1, f_aA_2, f_aA_3, f_aA_4, f_aA_5, f_aA_6, f_aA_7, f_aA_8])), (e1, .inl (cs 0, 40, .inl (fun _ => 0))), (e2, .inl (cs 0, 40, .inl (fun _ => 0)))] sz)) (va_Ql (fun r (u : Unit) => r = sp_X11_hidden) (fun (u : Unit) t => Aft G cs (va_A [(h0, .inr (11, [f_h0_0, .ref aS, f_h0_2, f_h0_3, f_h0_4, f_h0_5, f_h0_6, .ref aE, f_h0_8, f_h0_9, f_h0_10, f_h0_11, .ref h1, .int lr])), (aE, .inr (3, [.ref aA, .ref e1, .ref e2, f_aE_3])), (aS, .inr (7, [.ref aW, .ref aD, f_aS_2, f_aS_3, f_aS_4])), (aW, .inr (10, [.ref aR, f_aW_1, .ref aF, f_aW_3, f_aW_4, f_aW_5, .int (-1)])), (aR, .inr (6, [.ref aK, f_aR_1, f_aR_2, .long 0])), (aK, .inl (cs 0, 40, .inl (fun _ => 0))), (aF, .inr (4, [f_aF_0, f_aF_1, f_aF_2, f_aF_3, f_aF_4, f_aF_5, f_aF_6, f_aF_7, f_aF_8, .int 0, f_aF_10, f_aF_11, f_aF_12])), (aA, .inr (0, [f_aA_0, f_aA_1, f_aA_2, f_aA_3, f_aA_4, f_aA_5, f_aA_6, f_aA_7, f_aA_8])), (e1, .inl (cs 0, 40, .inl (fun _ => 0))), (e2, .inl (cs 0, 40, .inl (fun _ => 0)))] sz) [] t) (va_A [(h0, .inr (11, [f_h0_0, .ref aS, f_h0_2, f_h0_3, f_h0_4, f_h0_5, f_h0_6, .ref aE, f_h0_8, f_h0_9, f_h0_10, f_h0_11, .ref h1, .int lr])), (aE, .inr (3, [.ref aA, .ref e1, .ref e2, f_aE_3])), (aS, .inr (7, [.ref aW, .ref aD, f_aS_2, f_aS_3, f_aS_4])), (aW, .inr (10, [.ref aR, f_aW_1, .ref aF, f_aW_3, f_aW_4, f_aW_5, .int (-1)])), (aR, .inr (6, [.ref aK, f_aR_1, f_aR_2, .long 0])), (aK, .inl (cs 0, 40, .inl (fun _ => 0))), (aF, .inr (4, [f_aF_0, f_aF_1, f_aF_2, f_aF_3, f_aF_4, f_aF_5, f_aF_6, f_aF_7, f_aF_8, .int 0, f_aF_10, f_aF_11, f_aF_12])), (aA, .inr (0, [f_aA_0, f_aA_1, f_aA_2, f_aA_3, f_aA_4, f_aA_5, f_aA_6, f_aA_7, f_aA_8])), (e1, .inl (cs 0, 40, .inl (fun _ => 0))), (e2, .inl (cs 0, 40, .inl (fun _ => 0)))] sz)) 0 0 (va_A [(h0, .inr (11, [f_h0_0, .ref aS, f_h0_2, f_h0_3, f_h0_4, f_h0_5, f_h0_6, .ref aE, f_h0_8, f_h0_9, f_h0_10, f_h0_11, .ref h1, .int lr])), (aE, .inr (3, [.ref aA, .ref e1, .ref e2, f_aE_3])), (aS, .inr (7, [.ref aW, .ref aD, f_aS_2, f_aS_3, f_aS_4])), (aW, .inr (10, [.ref aR, f_aW_1, .ref aF, f_aW_3, f_aW_4, f_aW_5, .int (-1)])), (aR, .inr (6, [.ref aK, f_aR_1, f_aR_2, .long 0])), (aK, .inl (cs 0, 40, .inl (fun _ => 0))), (aF, .inr (4, [f_aF_0, f_aF_1, f_aF_2, f_aF_3, f_aF_4, f_aF_5, f_aF_6, f_aF_7, f_aF_8, .int 0, f_aF_10, f_aF_11, f_aF_12])), (aA, .inr (0, [f_aA_0, f_aA_1, f_aA_2, f_aA_3, f_aA_4, f_aA_5, f_aA_6, f_aA_7, f_aA_8])), (e1, .inl (cs 0, 40, .inl (fun _ => 0))), (e2, .inl (cs 0, 40, .inl (fun _ => 0)))] sz) := by
  refine Met.ofW (cc := cX11_hidden) (maxL := 1) (ret := (some .long)) (by decide) rfl ?_
  intro p e s m args below meth c s₁ B hml hv
  obtain ⟨rfl, hsz, hP, hK, hD0, hN⟩ := hv
  have hx := B.exec
  have hb := B.bytes
  have hr := B.returns
  have hts := atoms_spec (ws := Cond.code yX11_hidden cX11_hidden 1 (some .long) :: gW) B.pre
  have htl : ∀ w ∈ gW, w.before _ s = true := fun w h => hts w (List.mem_cons_of_mem _ h)
  have hown : s.vm.findClass RX11 = some m.cls := findClass_of_methodNamed B.named
  have hlocks := B.notSynchronized
  subst hsz
  have hD := hD0.self (sz := s.heap.size)
  generalize hAe : va_A [(h0, .inr (11, [f_h0_0, .ref aS, f_h0_2, f_h0_3, f_h0_4, f_h0_5, f_h0_6, .ref aE, f_h0_8, f_h0_9, f_h0_10, f_h0_11, .ref h1, .int lr])), (aE, .inr (3, [.ref aA, .ref e1, .ref e2, f_aE_3])), (aS, .inr (7, [.ref aW, .ref aD, f_aS_2, f_aS_3, f_aS_4])), (aW, .inr (10, [.ref aR, f_aW_1, .ref aF, f_aW_3, f_aW_4, f_aW_5, .int (-1)])), (aR, .inr (6, [.ref aK, f_aR_1, f_aR_2, .long 0])), (aK, .inl (cs 0, 40, .inl (fun _ => 0))), (aF, .inr (4, [f_aF_0, f_aF_1, f_aF_2, f_aF_3, f_aF_4, f_aF_5, f_aF_6, f_aF_7, f_aF_8, .int 0, f_aF_10, f_aF_11, f_aF_12])), (aA, .inr (0, [f_aA_0, f_aA_1, f_aA_2, f_aA_3, f_aA_4, f_aA_5, f_aA_6, f_aA_7, f_aA_8])), (e1, .inl (cs 0, 40, .inl (fun _ => 0))), (e2, .inl (cs 0, 40, .inl (fun _ => 0)))] s.heap.size = A at hD ⊢
  have hA : ∀ q : Nat, s.heap.size ≤ q → A q := fun q h => by rw [← hAe]; exact Or.inr h
  have hS : va_S A s.heap s.heap [] := va_S.rf
  have hl := lv_entry ([.ref h0]) (n := 1) (Nat.le_of_ble_eq_true rfl)
  rw [lg_entry_eq]
  generalize (lg_sl ([.ref h0]) ++ List.replicate (1 - (lg_sl ([.ref h0])).length) Slot.unset).toArray = ls at hl ⊢
  have hl : lv_has ls 1 [(0, .ref h0)] := hl
  refine lv_aload_n hx hb dX11_hidden_0 rfl (lv_at hl 0 rfl) ?_
  refine va_get (ci := 11) (v := .ref aE) (C := RX11) (T := TX11) (N := 14) hx hb htl inX11 hown hK hP 0 rfl rfl 7 (by decide) (htl _ fl_RX11_56) (fun _ h9 => h9) rfl dX11_hidden_1 ?_
  refine lv_aload_n hx hb dX11_hidden_4 rfl (lv_at hl 0 rfl) ?_
  refine va_get (ci := 11) (v := .ref aS) (C := RX11) (T := TX11) (N := 14) hx hb htl inX11 hown hK hP 0 rfl rfl 1 (by decide) (htl _ fl_RX11_21) (fun _ h9 => h9) rfl dX11_hidden_5 ?_
  refine va_get (ci := 7) (v := .ref aW) (C := RX7) (T := TX7) (N := 5) hx hb htl inX7 hown hK hP 2 rfl rfl 0 (by decide) (htl _ fl_RX11_78) (fun _ h9 => h9) rfl dX11_hidden_8 ?_
  refine ml (wr := [(h0, .inr (11, [f_h0_0, .ref aS, f_h0_2, f_h0_3, f_h0_4, f_h0_5, f_h0_6, .ref aE, f_h0_8, f_h0_9, f_h0_10, f_h0_11, .ref h1, .int lr])), (aS, .inr (7, [.ref aW, .ref aD, f_aS_2, f_aS_3, f_aS_4]))]) (mkV (rest := []) ⟨hx, hb, hml, hown, htl⟩ hN hK hP hD (c_X3_hiddenCells l G cs aE aW aA e1 e2 f_aE_3 aR f_aW_1 aF f_aW_3 f_aW_4 f_aW_5 aK f_aR_1 f_aR_2 f_aF_0 f_aF_1 f_aF_2 f_aF_3 f_aF_4 f_aF_5 f_aF_6 f_aF_7 f_aF_8 f_aF_10 f_aF_11 f_aF_12 f_aA_0 f_aA_1 f_aA_2 f_aA_3 f_aA_4 f_aA_5 f_aA_6 f_aA_7 f_aA_8 _) [1, 3, 4, 5, 6, 7, 8, 9] rfl rfl 0 3 rfl rfl (cV 1 htl lk_RX11_338 mI_X3_hiddenCells mS_X3_hiddenCells mN_RX3 mC_X3_hiddenCells ok_X3_hiddenCells rfl rfl ⟨(Nat.le_of_ble_eq_true rfl), (Nat.le_of_ble_eq_true rfl)⟩) rfl hl.1 rfl (Nat.le_of_ble_eq_true rfl) dX11_hidden_11 ⟨(Nat.le_of_ble_eq_true rfl), (Nat.le_of_ble_eq_true rfl)⟩) hP hD hS hA [1, 3, 4, 5, 6, 7, 8, 9] [0, 2] rfl rfl rfl (by decide) (fun r u_11 H locs hw hP hD hS => ?_)
  have hP : va_P G vwCl [(h0, .inr (11, [f_h0_0, .ref aS, f_h0_2, f_h0_3, f_h0_4, f_h0_5, f_h0_6, .ref aE, f_h0_8, f_h0_9, f_h0_10, f_h0_11, .ref h1, .int lr])), (aS, .inr (7, [.ref aW, .ref aD, f_aS_2, f_aS_3, f_aS_4])), (aE, .inr (3, [.ref aA, .ref e1, .ref e2, f_aE_3])), (e1, .inl (cs 0, 40, .inl (fl (fun _ => 0) 40 20))), (e2, .inl (cs 0, 40, .inl (fl (fun _ => 0) 40 2)))] H := hP
  have hD : va_D A [(h0, .inr (11, [f_h0_0, .ref aS, f_h0_2, f_h0_3, f_h0_4, f_h0_5, f_h0_6, .ref aE, f_h0_8, f_h0_9, f_h0_10, f_h0_11, .ref h1, .int lr])), (aS, .inr (7, [.ref aW, .ref aD, f_aS_2, f_aS_3, f_aS_4])), (aE, .inr (3, [.ref aA, .ref e1, .ref e2, f_aE_3])), (e1, .inl (cs 0, 40, .inl (fl (fun _ => 0) 40 20))), (e2, .inl (cs 0, 40, .inl (fl (fun _ => 0) 40 2)))] := hD
  obtain rfl : r = 1099511627775 := hw.trans (by first | decide +kernel | rfl)
  exact W.lret (v := 1099511627775) hx hb hr (fun t ht hW => ⟨⟨1099511627775, (), rfl, rfl, ⟨fun k q h => by simp at h, va_K.moved hW.alike hK, ⟨fun i j p q h => by simp at h, fun k q h => by simp at h⟩⟩⟩, hS.F ht⟩) hS.2.2 dX11_hidden_14

def sp_X11_next (a : Int32) : Int32 := if (sp_X11_isWithin a 2) = 0 then (-1) else (if a = 0 then 0 else 6)
set_option maxHeartbeats 1000000 in
set_option maxRecDepth 100000 in
theorem c_X11_next (l : Launch) (G : va_G) (cs : Nat → ClassId) (h0 : Nat) (a : Int32) (f_h0_0 : Value) (aS : Nat) (f_h0_2 : Value) (f_h0_3 : Value) (f_h0_4 : Value) (f_h0_5 : Value) (f_h0_6 : Value) (aE : Nat) (f_h0_8 : Value) (f_h0_9 : Value) (f_h0_10 : Value) (f_h0_11 : Value) (h1 : Nat) (lr : Int32) (aA : Nat) (e1 : Nat) (e2 : Nat) (e3 : Nat) (aW : Nat) (aD : Nat) (f_aS_2 : Value) (f_aS_3 : Value) (f_aS_4 : Value) (aR : Nat) (f_aW_1 : Value) (aF : Nat) (f_aW_3 : Value) (f_aW_4 : Value) (f_aW_5 : Value) (aK : Nat) (f_aR_1 : Value) (f_aR_2 : Value) (f_aF_0 : Value) (f_aF_1 : Value) (f_aF_2 : Value) (f_aF_3 : Value) (f_aF_4 : Value) (f_aF_5 : Value) (f_aF_6 : Value) (f_aF_7 : Value) (f_aF_8 : Value) (f_aF_10 : Value) (f_aF_11 : Value) (f_aF_12 : Value) (f_aA_0 : Value) (f_aA_1 : Value) (f_aA_2 : Value) (f_aA_3 : Value) (f_aA_4 : Value) (f_aA_5 : Value) (f_aA_6 : Value) (f_aA_7 : Value) (f_aA_8 : Value) (sz : Nat) : Met l yX11_next (Cond.code yX11_next cX11_next 8 (some .int) :: gW) ({ frames := 5, cells := 0, slots := 0, locals := 113 }) (va_Pc [.ref h0, .int a] (Pre G cs [(h0, .inr (11, [f_h0_0, .ref aS, f_h0_2, f_h0_3, f_h0_4, f_h0_5, f_h0_6, .ref aE, f_h0_8, f_h0_9, f_h0_10, f_h0_11, .ref h1, .int lr])), (aE, .inr (3, [.ref aA, .ref e1, .ref e2, .ref e3])), (aS, .inr (7, [.ref aW, .ref aD, f_aS_2, f_aS_3, f_aS_4])), (aW, .inr (10, [.ref aR, f_aW_1, .ref aF, f_aW_3, f_aW_4, f_aW_5, .int (-1)])), (aR, .inr (6, [.ref aK, f_aR_1, f_aR_2, .long 0])), (aK, .inl (cs 0, 40, .inl (fun _ => 0))), (aF, .inr (4, [f_aF_0, f_aF_1, f_aF_2, f_aF_3, f_aF_4, f_aF_5, f_aF_6, f_aF_7, f_aF_8, .int 0, f_aF_10, f_aF_11, f_aF_12])), (aA, .inr (0, [f_aA_0, f_aA_1, f_aA_2, f_aA_3, f_aA_4, f_aA_5, f_aA_6, f_aA_7, f_aA_8])), (e1, .inl (cs 0, 40, .inl (fun _ => 0))), (e2, .inl (cs 0, 40, .inl (fun _ => 0))), (e3, .inl (cs 0, 100, .inl (fun _ => 0)))] sz)) (va_Qi (fun r (u : Unit) => r = sp_X11_next a) (fun (u : Unit) t => Aft G cs (va_A [(h0, .inr (11, [f_h0_0, .ref aS, f_h0_2, f_h0_3, f_h0_4, f_h0_5, f_h0_6, .ref aE, f_h0_8, f_h0_9, f_h0_10, f_h0_11, .ref h1, .int lr])), (aE, .inr (3, [.ref aA, .ref e1, .ref e2, .ref e3])), (aS, .inr (7, [.ref aW, .ref aD, f_aS_2, f_aS_3, f_aS_4])), (aW, .inr (10, [.ref aR, f_aW_1, .ref aF, f_aW_3, f_aW_4, f_aW_5, .int (-1)])), (aR, .inr (6, [.ref aK, f_aR_1, f_aR_2, .long 0])), (aK, .inl (cs 0, 40, .inl (fun _ => 0))), (aF, .inr (4, [f_aF_0, f_aF_1, f_aF_2, f_aF_3, f_aF_4, f_aF_5, f_aF_6, f_aF_7, f_aF_8, .int 0, f_aF_10, f_aF_11, f_aF_12])), (aA, .inr (0, [f_aA_0, f_aA_1, f_aA_2, f_aA_3, f_aA_4, f_aA_5, f_aA_6, f_aA_7, f_aA_8])), (e1, .inl (cs 0, 40, .inl (fun _ => 0))), (e2, .inl (cs 0, 40, .inl (fun _ => 0))), (e3, .inl (cs 0, 100, .inl (fun _ => 0)))] sz) [] t) (va_A [(h0, .inr (11, [f_h0_0, .ref aS, f_h0_2, f_h0_3, f_h0_4, f_h0_5, f_h0_6, .ref aE, f_h0_8, f_h0_9, f_h0_10, f_h0_11, .ref h1, .int lr])), (aE, .inr (3, [.ref aA, .ref e1, .ref e2, .ref e3])), (aS, .inr (7, [.ref aW, .ref aD, f_aS_2, f_aS_3, f_aS_4])), (aW, .inr (10, [.ref aR, f_aW_1, .ref aF, f_aW_3, f_aW_4, f_aW_5, .int (-1)])), (aR, .inr (6, [.ref aK, f_aR_1, f_aR_2, .long 0])), (aK, .inl (cs 0, 40, .inl (fun _ => 0))), (aF, .inr (4, [f_aF_0, f_aF_1, f_aF_2, f_aF_3, f_aF_4, f_aF_5, f_aF_6, f_aF_7, f_aF_8, .int 0, f_aF_10, f_aF_11, f_aF_12])), (aA, .inr (0, [f_aA_0, f_aA_1, f_aA_2, f_aA_3, f_aA_4, f_aA_5, f_aA_6, f_aA_7, f_aA_8])), (e1, .inl (cs 0, 40, .inl (fun _ => 0))), (e2, .inl (cs 0, 40, .inl (fun _ => 0))), (e3, .inl (cs 0, 100, .inl (fun _ => 0)))] sz)) 0 0 (va_A [(h0, .inr (11, [f_h0_0, .ref aS, f_h0_2, f_h0_3, f_h0_4, f_h0_5, f_h0_6, .ref aE, f_h0_8, f_h0_9, f_h0_10, f_h0_11, .ref h1, .int lr])), (aE, .inr (3, [.ref aA, .ref e1, .ref e2, .ref e3])), (aS, .inr (7, [.ref aW, .ref aD, f_aS_2, f_aS_3, f_aS_4])), (aW, .inr (10, [.ref aR, f_aW_1, .ref aF, f_aW_3, f_aW_4, f_aW_5, .int (-1)])), (aR, .inr (6, [.ref aK, f_aR_1, f_aR_2, .long 0])), (aK, .inl (cs 0, 40, .inl (fun _ => 0))), (aF, .inr (4, [f_aF_0, f_aF_1, f_aF_2, f_aF_3, f_aF_4, f_aF_5, f_aF_6, f_aF_7, f_aF_8, .int 0, f_aF_10, f_aF_11, f_aF_12])), (aA, .inr (0, [f_aA_0, f_aA_1, f_aA_2, f_aA_3, f_aA_4, f_aA_5, f_aA_6, f_aA_7, f_aA_8])), (e1, .inl (cs 0, 40, .inl (fun _ => 0))), (e2, .inl (cs 0, 40, .inl (fun _ => 0))), (e3, .inl (cs 0, 100, .inl (fun _ => 0)))] sz) := by
  refine Met.ofW (cc := cX11_next) (maxL := 8) (ret := (some .int)) (by decide) rfl ?_
  intro p e s m args below meth c s₁ B hml hv
  obtain ⟨rfl, hsz, hP, hK, hD0, hN⟩ := hv
  have hx := B.exec
  have hb := B.bytes
  have hr := B.returns
  have hts := atoms_spec (ws := Cond.code yX11_next cX11_next 8 (some .int) :: gW) B.pre
  have htl : ∀ w ∈ gW, w.before _ s = true := fun w h => hts w (List.mem_cons_of_mem _ h)
  have hown : s.vm.findClass RX11 = some m.cls := findClass_of_methodNamed B.named
  have hlocks := B.notSynchronized
  subst hsz
  have hD := hD0.self (sz := s.heap.size)
  generalize hAe : va_A [(h0, .inr (11, [f_h0_0, .ref aS, f_h0_2, f_h0_3, f_h0_4, f_h0_5, f_h0_6, .ref aE, f_h0_8, f_h0_9, f_h0_10, f_h0_11, .ref h1, .int lr])), (aE, .inr (3, [.ref aA, .ref e1, .ref e2, .ref e3])), (aS, .inr (7, [.ref aW, .ref aD, f_aS_2, f_aS_3, f_aS_4])), (aW, .inr (10, [.ref aR, f_aW_1, .ref aF, f_aW_3, f_aW_4, f_aW_5, .int (-1)])), (aR, .inr (6, [.ref aK, f_aR_1, f_aR_2, .long 0])), (aK, .inl (cs 0, 40, .inl (fun _ => 0))), (aF, .inr (4, [f_aF_0, f_aF_1, f_aF_2, f_aF_3, f_aF_4, f_aF_5, f_aF_6, f_aF_7, f_aF_8, .int 0, f_aF_10, f_aF_11, f_aF_12])), (aA, .inr (0, [f_aA_0, f_aA_1, f_aA_2, f_aA_3, f_aA_4, f_aA_5, f_aA_6, f_aA_7, f_aA_8])), (e1, .inl (cs 0, 40, .inl (fun _ => 0))), (e2, .inl (cs 0, 40, .inl (fun _ => 0))), (e3, .inl (cs 0, 100, .inl (fun _ => 0)))] s.heap.size = A at hD ⊢
  have hA : ∀ q : Nat, s.heap.size ≤ q → A q := fun q h => by rw [← hAe]; exact Or.inr h
  have hS : va_S A s.heap s.heap [] := va_S.rf
  have hl := lv_entry ([.ref h0, .int a]) (n := 8) (Nat.le_of_ble_eq_true rfl)
  rw [lg_entry_eq]
  generalize (lg_sl ([.ref h0, .int a]) ++ List.replicate (8 - (lg_sl ([.ref h0, .int a])).length) Slot.unset).toArray = ls at hl ⊢
  have hl : lv_has ls 8 [(0, .ref h0), (1, .int a)] := hl
  refine lv_iload_n hx hb dX11_next_0 rfl (lv_at hl 1 rfl) ?_
  refine lv_iconst (v := 2) hx hb dX11_next_1 (by decide) ?_
  refine vp_callSi (mkSr (rest := []) ⟨hx, hb, hml, hown, htl⟩ hN hK (c_X11_isWithin l G cs a 2) (cS 2 htl lk_RX11_82 mT_X11_isWithin mN_RX11 mC_X11_isWithin ok_X11_isWithin rfl rfl ⟨(Nat.le_of_ble_eq_true rfl), (Nat.le_of_ble_eq_true rfl)⟩) rfl hl.1 rfl (Nat.le_of_ble_eq_true rfl) dX11_next_2 ⟨(Nat.le_of_ble_eq_true rfl), (Nat.le_of_ble_eq_true rfl)⟩) (fun r hw => ?_)
  obtain ⟨rfl, hz_1⟩ := hw
  refine lv_if_eq (tgt := 25) hx hb dX11_next_5 (by decide) (fun c_5 => ?_) (fun c_5 => ?_)
  · refine lv_lconst (v := 0) hx hb dX11_next_25 (by decide) ?_
    refine lv_lstore_n (lv' := [(2, .long 0), (0, .ref h0), (1, .int a)]) hx hb dX11_next_26 rfl hl (by decide) rfl (fun ls hl => ?_)
    refine lv_lload_n hx hb dX11_next_27 rfl (lv_at hl 0 rfl) ?_
    refine lv_lconst (v := 0) hx hb dX11_next_28 (by decide) ?_
    refine W.lcmp hx hb dX11_next_29 ?_
    refine lv_topi (fun xv ex => ?_)
    obtain rfl : xv = 0 := ex.trans (by first | rfl | decide)
    refine lv_if_ne (tgt := 35) hx hb dX11_next_30 (by decide) (fun h => absurd (by decide) h) (fun _ => ?_)
    refine lv_iconst (v := (-1)) hx hb dX11_next_33 (by decide) ?_
    exact W.iret (v := (-1)) hx hb hr (fun t ht hW => ⟨⟨(-1), (), rfl, (by unfold sp_X11_next; rw [if_pos c_5]), ⟨fun k q h => by simp at h, va_K.moved hW.alike hK, ⟨fun i j p q h => by simp at h, fun k q h => by simp at h⟩⟩⟩, hS.F ht⟩) hS.2.2 dX11_next_34
  · refine lv_aload_n hx hb dX11_next_8 rfl (lv_at hl 0 rfl) ?_
    refine va_get (ci := 11) (v := .ref aE) (C := RX11) (T := TX11) (N := 14) hx hb htl inX11 hown hK hP 0 rfl rfl 7 (by decide) (htl _ fl_RX11_56) (fun _ h9 => h9) rfl dX11_next_9 ?_
    refine lv_aload_n hx hb dX11_next_12 rfl (lv_at hl 0 rfl) ?_
    refine va_get (ci := 11) (v := .ref aS) (C := RX11) (T := TX11) (N := 14) hx hb htl inX11 hown hK hP 0 rfl rfl 1 (by decide) (htl _ fl_RX11_21) (fun _ h9 => h9) rfl dX11_next_13 ?_
    refine va_get (ci := 7) (v := .ref aW) (C := RX7) (T := TX7) (N := 5) hx hb htl inX7 hown hK hP 2 rfl rfl 0 (by decide) (htl _ fl_RX11_78) (fun _ h9 => h9) rfl dX11_next_16 ?_
    refine ml (wr := [(h0, .inr (11, [f_h0_0, .ref aS, f_h0_2, f_h0_3, f_h0_4, f_h0_5, f_h0_6, .ref aE, f_h0_8, f_h0_9, f_h0_10, f_h0_11, .ref h1, .int lr])), (aS, .inr (7, [.ref aW, .ref aD, f_aS_2, f_aS_3, f_aS_4])), (e3, .inl (cs 0, 100, .inl (fun _ => 0)))]) (mkV (rest := []) ⟨hx, hb, hml, hown, htl⟩ hN hK hP hD (c_X3_hiddenCells l G cs aE aW aA e1 e2 (.ref e3) aR f_aW_1 aF f_aW_3 f_aW_4 f_aW_5 aK f_aR_1 f_aR_2 f_aF_0 f_aF_1 f_aF_2 f_aF_3 f_aF_4 f_aF_5 f_aF_6 f_aF_7 f_aF_8 f_aF_10 f_aF_11 f_aF_12 f_aA_0 f_aA_1 f_aA_2 f_aA_3 f_aA_4 f_aA_5 f_aA_6 f_aA_7 f_aA_8 _) [1, 3, 4, 5, 6, 7, 8, 9] rfl rfl 0 3 rfl rfl (cV 1 htl lk_RX11_338 mI_X3_hiddenCells mS_X3_hiddenCells mN_RX3 mC_X3_hiddenCells ok_X3_hiddenCells rfl rfl ⟨(Nat.le_of_ble_eq_true rfl), (Nat.le_of_ble_eq_true rfl)⟩) rfl hl.1 rfl (Nat.le_of_ble_eq_true rfl) dX11_next_19 ⟨(Nat.le_of_ble_eq_true rfl), (Nat.le_of_ble_eq_true rfl)⟩) hP hD hS hA [1, 3, 4, 5, 6, 7, 8, 9] [0, 2, 10] rfl rfl rfl (by decide) (fun r u_19 H locs hw hP hD hS => ?_)
    have hP : va_P G vwCl [(h0, .inr (11, [f_h0_0, .ref aS, f_h0_2, f_h0_3, f_h0_4, f_h0_5, f_h0_6, .ref aE, f_h0_8, f_h0_9, f_h0_10, f_h0_11, .ref h1, .int lr])), (aS, .inr (7, [.ref aW, .ref aD, f_aS_2, f_aS_3, f_aS_4])), (e3, .inl (cs 0, 100, .inl (fun _ => 0))), (aE, .inr (3, [.ref aA, .ref e1, .ref e2, .ref e3])), (e1, .inl (cs 0, 40, .inl (fl (fun _ => 0) 40 20))), (e2, .inl (cs 0, 40, .inl (fl (fun _ => 0) 40 2)))] H := hP
    have hD : va_D A [(h0, .inr (11, [f_h0_0, .ref aS, f_h0_2, f_h0_3, f_h0_4, f_h0_5, f_h0_6, .ref aE, f_h0_8, f_h0_9, f_h0_10, f_h0_11, .ref h1, .int lr])), (aS, .inr (7, [.ref aW, .ref aD, f_aS_2, f_aS_3, f_aS_4])), (e3, .inl (cs 0, 100, .inl (fun _ => 0))), (aE, .inr (3, [.ref aA, .ref e1, .ref e2, .ref e3])), (e1, .inl (cs 0, 40, .inl (fl (fun _ => 0) 40 20))), (e2, .inl (cs 0, 40, .inl (fl (fun _ => 0) 40 2)))] := hD
    obtain rfl : r = 1099511627775 := hw.trans (by first | decide +kernel | rfl)
    refine lv_goto (tgt := 26) hx hb dX11_next_22 (by decide) ?_
    refine lv_lstore_n (lv' := [(2, .long 1099511627775), (0, .ref h0), (1, .int a)]) hx hb dX11_next_26 rfl hl (by decide) rfl (fun ls hl => ?_)
    refine lv_lload_n hx hb dX11_next_27 rfl (lv_at hl 0 rfl) ?_
    refine lv_lconst (v := 0) hx hb dX11_next_28 (by decide) ?_
    refine W.lcmp hx hb dX11_next_29 ?_
    refine lv_topi (fun xv ex => ?_)
    obtain rfl : xv = 1 := ex.trans (by first | rfl | decide)
    refine lv_if_ne (tgt := 35) hx hb dX11_next_30 (by decide) (fun _ => ?_) (fun h => absurd h (by decide))
    refine lv_iconst (v := 0) hx hb dX11_next_35 (by decide) ?_
    refine lv_istore (lv' := [(4, .int 0), (2, .long 1099511627775), (0, .ref h0), (1, .int a)]) hx hb dX11_next_36 hl (by decide) rfl (fun ls hl => ?_)
    refine lv_aload_n hx hb dX11_next_38 rfl (lv_at hl 2 rfl) ?_
    refine va_get (ci := 11) (v := .ref aE) (C := RX11) (T := TX11) (N := 14) hx hb htl inX11 hown hK hP 0 rfl rfl 7 (by decide) (htl _ fl_RX11_56) (fun _ h9 => h9) rfl dX11_next_39 ?_
    refine lv_lload_n hx hb dX11_next_42 rfl (lv_at hl 1 rfl) ?_
    refine lv_iconst (v := 0) hx hb dX11_next_43 (by decide) ?_
    refine mi (wr := [(h0, .inr (11, [f_h0_0, .ref aS, f_h0_2, f_h0_3, f_h0_4, f_h0_5, f_h0_6, .ref aE, f_h0_8, f_h0_9, f_h0_10, f_h0_11, .ref h1, .int lr])), (aS, .inr (7, [.ref aW, .ref aD, f_aS_2, f_aS_3, f_aS_4]))]) (mkV (rest := []) ⟨hx, hb, hml, hown, htl⟩ hN hK hP hD (c_X3_mostAlike l G cs aE 0 (.ref aA) e1 e2 e3 ((fun _ => 0)) _) [3, 4, 5, 2] rfl rfl 0 3 rfl rfl (cV 2 htl lk_RX11_342 mI_X3_mostAlike mS_X3_mostAlike mN_RX3 mC_X3_mostAlike ok_X3_mostAlike rfl rfl ⟨(Nat.le_of_ble_eq_true rfl), (Nat.le_of_ble_eq_true rfl)⟩) rfl hl.1 rfl (Nat.le_of_ble_eq_true rfl) dX11_next_44 ⟨(Nat.le_of_ble_eq_true rfl), (Nat.le_of_ble_eq_true rfl)⟩) hP hD hS hA [3, 4, 5, 2] [0, 1] rfl rfl rfl (by decide) (fun r u_44 H locs hw hP hD hS => ?_)
    have hP : va_P G vwCl [(h0, .inr (11, [f_h0_0, .ref aS, f_h0_2, f_h0_3, f_h0_4, f_h0_5, f_h0_6, .ref aE, f_h0_8, f_h0_9, f_h0_10, f_h0_11, .ref h1, .int lr])), (aS, .inr (7, [.ref aW, .ref aD, f_aS_2, f_aS_3, f_aS_4])), (aE, .inr (3, [.ref aA, .ref e1, .ref e2, .ref e3])), (e1, .inl (cs 0, 40, .inl (fl (fun _ => 0) 40 20))), (e2, .inl (cs 0, 40, .inl (fl (fun _ => 0) 40 2))), (e3, .inl (cs 0, 100, .inl (maF 0 ((fl (fun _ => 0) 100 0)) 40)))] H := hP
    have hD : va_D A [(h0, .inr (11, [f_h0_0, .ref aS, f_h0_2, f_h0_3, f_h0_4, f_h0_5, f_h0_6, .ref aE, f_h0_8, f_h0_9, f_h0_10, f_h0_11, .ref h1, .int lr])), (aS, .inr (7, [.ref aW, .ref aD, f_aS_2, f_aS_3, f_aS_4])), (aE, .inr (3, [.ref aA, .ref e1, .ref e2, .ref e3])), (e1, .inl (cs 0, 40, .inl (fl (fun _ => 0) 40 20))), (e2, .inl (cs 0, 40, .inl (fl (fun _ => 0) 40 2))), (e3, .inl (cs 0, 100, .inl (maF 0 ((fl (fun _ => 0) 100 0)) 40)))] := hD
    obtain rfl : r = 6 := hw.trans ((ma_c _ _).trans (by decide +kernel))
    refine lv_istore (lv' := [(5, .int 6), (4, .int 0), (2, .long 1099511627775), (0, .ref h0), (1, .int a)]) hx hb dX11_next_47 hl (by decide) rfl (fun ls hl => ?_)
    refine lv_iconst (v := 1) hx hb dX11_next_49 (by decide) ?_
    refine lv_istore (lv' := [(6, .int 1), (5, .int 6), (4, .int 0), (2, .long 1099511627775), (0, .ref h0), (1, .int a)]) hx hb dX11_next_50 hl (by decide) rfl (fun ls hl => ?_)
    refine lv_iload hx hb dX11_next_52 (lv_at hl 0 rfl) ?_
    refine lv_bipush (v := 8) hx hb dX11_next_54 (by decide) ?_
    refine lv_icmp_ge (tgt := 92) hx hb dX11_next_56 (by decide) (fun h => absurd h (by decide)) (fun _ => ?_)
    refine lv_aload_n hx hb dX11_next_59 rfl (lv_at hl 4 rfl) ?_
    refine va_get (ci := 11) (v := .ref aE) (C := RX11) (T := TX11) (N := 14) hx hb htl inX11 hown hK hP 0 rfl rfl 7 (by decide) (htl _ fl_RX11_56) (fun _ h9 => h9) rfl dX11_next_60 ?_
    refine lv_lload_n hx hb dX11_next_63 rfl (lv_at hl 3 rfl) ?_
    refine lv_iload hx hb dX11_next_64 (lv_at hl 0 rfl) ?_
    refine mi (wr := [(h0, .inr (11, [f_h0_0, .ref aS, f_h0_2, f_h0_3, f_h0_4, f_h0_5, f_h0_6, .ref aE, f_h0_8, f_h0_9, f_h0_10, f_h0_11, .ref h1, .int lr])), (aS, .inr (7, [.ref aW, .ref aD, f_aS_2, f_aS_3, f_aS_4]))]) (mkV (rest := []) ⟨hx, hb, hml, hown, htl⟩ hN hK hP hD (c_X3_mostAlike l G cs aE 1 (.ref aA) e1 e2 e3 ((maF 0 ((fl (fun _ => 0) 100 0)) 40)) _) [2, 3, 4, 5] rfl rfl 0 3 rfl rfl (cV 2 htl lk_RX11_342 mI_X3_mostAlike mS_X3_mostAlike mN_RX3 mC_X3_mostAlike ok_X3_mostAlike rfl rfl ⟨(Nat.le_of_ble_eq_true rfl), (Nat.le_of_ble_eq_true rfl)⟩) rfl hl.1 rfl (Nat.le_of_ble_eq_true rfl) dX11_next_66 ⟨(Nat.le_of_ble_eq_true rfl), (Nat.le_of_ble_eq_true rfl)⟩) hP hD hS hA [2, 3, 4, 5] [0, 1] rfl rfl rfl (by decide) (fun r u_66 H locs hw hP hD hS => ?_)
    have hP : va_P G vwCl [(h0, .inr (11, [f_h0_0, .ref aS, f_h0_2, f_h0_3, f_h0_4, f_h0_5, f_h0_6, .ref aE, f_h0_8, f_h0_9, f_h0_10, f_h0_11, .ref h1, .int lr])), (aS, .inr (7, [.ref aW, .ref aD, f_aS_2, f_aS_3, f_aS_4])), (aE, .inr (3, [.ref aA, .ref e1, .ref e2, .ref e3])), (e1, .inl (cs 0, 40, .inl (fl (fun _ => 0) 40 20))), (e2, .inl (cs 0, 40, .inl (fl (fun _ => 0) 40 2))), (e3, .inl (cs 0, 100, .inl (maF 1 ((fl (maF 0 ((fl (fun _ => 0) 100 0)) 40) 100 0)) 40)))] H := hP
    have hD : va_D A [(h0, .inr (11, [f_h0_0, .ref aS, f_h0_2, f_h0_3, f_h0_4, f_h0_5, f_h0_6, .ref aE, f_h0_8, f_h0_9, f_h0_10, f_h0_11, .ref h1, .int lr])), (aS, .inr (7, [.ref aW, .ref aD, f_aS_2, f_aS_3, f_aS_4])), (aE, .inr (3, [.ref aA, .ref e1, .ref e2, .ref e3])), (e1, .inl (cs 0, 40, .inl (fl (fun _ => 0) 40 20))), (e2, .inl (cs 0, 40, .inl (fl (fun _ => 0) 40 2))), (e3, .inl (cs 0, 100, .inl (maF 1 ((fl (maF 0 ((fl (fun _ => 0) 100 0)) 40) 100 0)) 40)))] := hD
    obtain rfl : r = 6 := hw.trans ((ma_c _ _).trans (by decide +kernel))
    refine lv_istore (lv' := [(7, .int 6), (6, .int 1), (5, .int 6), (4, .int 0), (2, .long 1099511627775), (0, .ref h0), (1, .int a)]) hx hb dX11_next_69 hl (by decide) rfl (fun ls hl => ?_)
    refine lv_iload hx hb dX11_next_71 (lv_at hl 0 rfl) ?_
    refine lv_iload hx hb dX11_next_73 (lv_at hl 2 rfl) ?_
    refine lv_icmp_ge (tgt := 86) hx hb dX11_next_75 (by decide) (fun _ => ?_) (fun h => absurd (by decide) h)
    refine lv_iinc (v := 2) (lv' := [(6, .int 2), (7, .int 6), (5, .int 6), (4, .int 0), (2, .long 1099511627775), (0, .ref h0), (1, .int a)]) hx hb dX11_next_86 hl (k := 1) rfl (by first | rfl | decide) (by decide) rfl (fun ls hl => ?_)
    refine lv_goto (tgt := 52) hx hb dX11_next_89 (by decide) ?_
    refine lv_iload hx hb dX11_next_52 (lv_at hl 0 rfl) ?_
    refine lv_bipush (v := 8) hx hb dX11_next_54 (by decide) ?_
    refine lv_icmp_ge (tgt := 92) hx hb dX11_next_56 (by decide) (fun h => absurd h (by decide)) (fun _ => ?_)
    refine lv_aload_n hx hb dX11_next_59 rfl (lv_at hl 5 rfl) ?_
    refine va_get (ci := 11) (v := .ref aE) (C := RX11) (T := TX11) (N := 14) hx hb htl inX11 hown hK hP 0 rfl rfl 7 (by decide) (htl _ fl_RX11_56) (fun _ h9 => h9) rfl dX11_next_60 ?_
    refine lv_lload_n hx hb dX11_next_63 rfl (lv_at hl 4 rfl) ?_
    refine lv_iload hx hb dX11_next_64 (lv_at hl 0 rfl) ?_
    refine mi (wr := [(h0, .inr (11, [f_h0_0, .ref aS, f_h0_2, f_h0_3, f_h0_4, f_h0_5, f_h0_6, .ref aE, f_h0_8, f_h0_9, f_h0_10, f_h0_11, .ref h1, .int lr])), (aS, .inr (7, [.ref aW, .ref aD, f_aS_2, f_aS_3, f_aS_4]))]) (mkV (rest := []) ⟨hx, hb, hml, hown, htl⟩ hN hK hP hD (c_X3_mostAlike l G cs aE 2 (.ref aA) e1 e2 e3 ((maF 1 ((fl (maF 0 ((fl (fun _ => 0) 100 0)) 40) 100 0)) 40)) _) [2, 3, 4, 5] rfl rfl 0 3 rfl rfl (cV 2 htl lk_RX11_342 mI_X3_mostAlike mS_X3_mostAlike mN_RX3 mC_X3_mostAlike ok_X3_mostAlike rfl rfl ⟨(Nat.le_of_ble_eq_true rfl), (Nat.le_of_ble_eq_true rfl)⟩) rfl hl.1 rfl (Nat.le_of_ble_eq_true rfl) dX11_next_66 ⟨(Nat.le_of_ble_eq_true rfl), (Nat.le_of_ble_eq_true rfl)⟩) hP hD hS hA [2, 3, 4, 5] [0, 1] rfl rfl rfl (by decide) (fun r u_66 H locs hw hP hD hS => ?_)
    have hP : va_P G vwCl [(h0, .inr (11, [f_h0_0, .ref aS, f_h0_2, f_h0_3, f_h0_4, f_h0_5, f_h0_6, .ref aE, f_h0_8, f_h0_9, f_h0_10, f_h0_11, .ref h1, .int lr])), (aS, .inr (7, [.ref aW, .ref aD, f_aS_2, f_aS_3, f_aS_4])), (aE, .inr (3, [.ref aA, .ref e1, .ref e2, .ref e3])), (e1, .inl (cs 0, 40, .inl (fl (fun _ => 0) 40 20))), (e2, .inl (cs 0, 40, .inl (fl (fun _ => 0) 40 2))), (e3, .inl (cs 0, 100, .inl (maF 2 ((fl (maF 1 ((fl (maF 0 ((fl (fun _ => 0) 100 0)) 40) 100 0)) 40) 100 0)) 40)))] H := hP
    have hD : va_D A [(h0, .inr (11, [f_h0_0, .ref aS, f_h0_2, f_h0_3, f_h0_4, f_h0_5, f_h0_6, .ref aE, f_h0_8, f_h0_9, f_h0_10, f_h0_11, .ref h1, .int lr])), (aS, .inr (7, [.ref aW, .ref aD, f_aS_2, f_aS_3, f_aS_4])), (aE, .inr (3, [.ref aA, .ref e1, .ref e2, .ref e3])), (e1, .inl (cs 0, 40, .inl (fl (fun _ => 0) 40 20))), (e2, .inl (cs 0, 40, .inl (fl (fun _ => 0) 40 2))), (e3, .inl (cs 0, 100, .inl (maF 2 ((fl (maF 1 ((fl (maF 0 ((fl (fun _ => 0) 100 0)) 40) 100 0)) 40) 100 0)) 40)))] := hD
    obtain rfl : r = 7 := hw.trans ((ma_c _ _).trans (by decide +kernel))
    refine lv_istore (lv' := [(7, .int 7), (6, .int 2), (5, .int 6), (4, .int 0), (2, .long 1099511627775), (0, .ref h0), (1, .int a)]) hx hb dX11_next_69 hl (by decide) rfl (fun ls hl => ?_)
    refine lv_iload hx hb dX11_next_71 (lv_at hl 0 rfl) ?_
    refine lv_iload hx hb dX11_next_73 (lv_at hl 2 rfl) ?_
    refine lv_icmp_ge (tgt := 86) hx hb dX11_next_75 (by decide) (fun _ => ?_) (fun h => absurd (by decide) h)
    refine lv_iinc (v := 3) (lv' := [(6, .int 3), (7, .int 7), (5, .int 6), (4, .int 0), (2, .long 1099511627775), (0, .ref h0), (1, .int a)]) hx hb dX11_next_86 hl (k := 1) rfl (by first | rfl | decide) (by decide) rfl (fun ls hl => ?_)
    refine lv_goto (tgt := 52) hx hb dX11_next_89 (by decide) ?_
    refine lv_iload hx hb dX11_next_52 (lv_at hl 0 rfl) ?_
    refine lv_bipush (v := 8) hx hb dX11_next_54 (by decide) ?_
    refine lv_icmp_ge (tgt := 92) hx hb dX11_next_56 (by decide) (fun h => absurd h (by decide)) (fun _ => ?_)
    refine lv_aload_n hx hb dX11_next_59 rfl (lv_at hl 5 rfl) ?_
    refine va_get (ci := 11) (v := .ref aE) (C := RX11) (T := TX11) (N := 14) hx hb htl inX11 hown hK hP 0 rfl rfl 7 (by decide) (htl _ fl_RX11_56) (fun _ h9 => h9) rfl dX11_next_60 ?_
    refine lv_lload_n hx hb dX11_next_63 rfl (lv_at hl 4 rfl) ?_
    refine lv_iload hx hb dX11_next_64 (lv_at hl 0 rfl) ?_
    refine mi (wr := [(h0, .inr (11, [f_h0_0, .ref aS, f_h0_2, f_h0_3, f_h0_4, f_h0_5, f_h0_6, .ref aE, f_h0_8, f_h0_9, f_h0_10, f_h0_11, .ref h1, .int lr])), (aS, .inr (7, [.ref aW, .ref aD, f_aS_2, f_aS_3, f_aS_4]))]) (mkV (rest := []) ⟨hx, hb, hml, hown, htl⟩ hN hK hP hD (c_X3_mostAlike l G cs aE 3 (.ref aA) e1 e2 e3 ((maF 2 ((fl (maF 1 ((fl (maF 0 ((fl (fun _ => 0) 100 0)) 40) 100 0)) 40) 100 0)) 40)) _) [2, 3, 4, 5] rfl rfl 0 3 rfl rfl (cV 2 htl lk_RX11_342 mI_X3_mostAlike mS_X3_mostAlike mN_RX3 mC_X3_mostAlike ok_X3_mostAlike rfl rfl ⟨(Nat.le_of_ble_eq_true rfl), (Nat.le_of_ble_eq_true rfl)⟩) rfl hl.1 rfl (Nat.le_of_ble_eq_true rfl) dX11_next_66 ⟨(Nat.le_of_ble_eq_true rfl), (Nat.le_of_ble_eq_true rfl)⟩) hP hD hS hA [2, 3, 4, 5] [0, 1] rfl rfl rfl (by decide) (fun r u_66 H locs hw hP hD hS => ?_)
    have hP : va_P G vwCl [(h0, .inr (11, [f_h0_0, .ref aS, f_h0_2, f_h0_3, f_h0_4, f_h0_5, f_h0_6, .ref aE, f_h0_8, f_h0_9, f_h0_10, f_h0_11, .ref h1, .int lr])), (aS, .inr (7, [.ref aW, .ref aD, f_aS_2, f_aS_3, f_aS_4])), (aE, .inr (3, [.ref aA, .ref e1, .ref e2, .ref e3])), (e1, .inl (cs 0, 40, .inl (fl (fun _ => 0) 40 20))), (e2, .inl (cs 0, 40, .inl (fl (fun _ => 0) 40 2))), (e3, .inl (cs 0, 100, .inl (maF 3 ((fl (maF 2 ((fl (maF 1 ((fl (maF 0 ((fl (fun _ => 0) 100 0)) 40) 100 0)) 40) 100 0)) 40) 100 0)) 40)))] H := hP
    have hD : va_D A [(h0, .inr (11, [f_h0_0, .ref aS, f_h0_2, f_h0_3, f_h0_4, f_h0_5, f_h0_6, .ref aE, f_h0_8, f_h0_9, f_h0_10, f_h0_11, .ref h1, .int lr])), (aS, .inr (7, [.ref aW, .ref aD, f_aS_2, f_aS_3, f_aS_4])), (aE, .inr (3, [.ref aA, .ref e1, .ref e2, .ref e3])), (e1, .inl (cs 0, 40, .inl (fl (fun _ => 0) 40 20))), (e2, .inl (cs 0, 40, .inl (fl (fun _ => 0) 40 2))), (e3, .inl (cs 0, 100, .inl (maF 3 ((fl (maF 2 ((fl (maF 1 ((fl (maF 0 ((fl (fun _ => 0) 100 0)) 40) 100 0)) 40) 100 0)) 40) 100 0)) 40)))] := hD
    obtain rfl : r = 8 := hw.trans ((ma_c _ _).trans (by decide +kernel))
    refine lv_istore (lv' := [(7, .int 8), (6, .int 3), (5, .int 6), (4, .int 0), (2, .long 1099511627775), (0, .ref h0), (1, .int a)]) hx hb dX11_next_69 hl (by decide) rfl (fun ls hl => ?_)
    refine lv_iload hx hb dX11_next_71 (lv_at hl 0 rfl) ?_
    refine lv_iload hx hb dX11_next_73 (lv_at hl 2 rfl) ?_
    refine lv_icmp_ge (tgt := 86) hx hb dX11_next_75 (by decide) (fun _ => ?_) (fun h => absurd (by decide) h)
    refine lv_iinc (v := 4) (lv' := [(6, .int 4), (7, .int 8), (5, .int 6), (4, .int 0), (2, .long 1099511627775), (0, .ref h0), (1, .int a)]) hx hb dX11_next_86 hl (k := 1) rfl (by first | rfl | decide) (by decide) rfl (fun ls hl => ?_)
    refine lv_goto (tgt := 52) hx hb dX11_next_89 (by decide) ?_
    refine lv_iload hx hb dX11_next_52 (lv_at hl 0 rfl) ?_
    refine lv_bipush (v := 8) hx hb dX11_next_54 (by decide) ?_
    refine lv_icmp_ge (tgt := 92) hx hb dX11_next_56 (by decide) (fun h => absurd h (by decide)) (fun _ => ?_)
    refine lv_aload_n hx hb dX11_next_59 rfl (lv_at hl 5 rfl) ?_
    refine va_get (ci := 11) (v := .ref aE) (C := RX11) (T := TX11) (N := 14) hx hb htl inX11 hown hK hP 0 rfl rfl 7 (by decide) (htl _ fl_RX11_56) (fun _ h9 => h9) rfl dX11_next_60 ?_
    refine lv_lload_n hx hb dX11_next_63 rfl (lv_at hl 4 rfl) ?_
    refine lv_iload hx hb dX11_next_64 (lv_at hl 0 rfl) ?_
    refine mi (wr := [(h0, .inr (11, [f_h0_0, .ref aS, f_h0_2, f_h0_3, f_h0_4, f_h0_5, f_h0_6, .ref aE, f_h0_8, f_h0_9, f_h0_10, f_h0_11, .ref h1, .int lr])), (aS, .inr (7, [.ref aW, .ref aD, f_aS_2, f_aS_3, f_aS_4]))]) (mkV (rest := []) ⟨hx, hb, hml, hown, htl⟩ hN hK hP hD (c_X3_mostAlike l G cs aE 4 (.ref aA) e1 e2 e3 ((maF 3 ((fl (maF 2 ((fl (maF 1 ((fl (maF 0 ((fl (fun _ => 0) 100 0)) 40) 100 0)) 40) 100 0)) 40) 100 0)) 40)) _) [2, 3, 4, 5] rfl rfl 0 3 rfl rfl (cV 2 htl lk_RX11_342 mI_X3_mostAlike mS_X3_mostAlike mN_RX3 mC_X3_mostAlike ok_X3_mostAlike rfl rfl ⟨(Nat.le_of_ble_eq_true rfl), (Nat.le_of_ble_eq_true rfl)⟩) rfl hl.1 rfl (Nat.le_of_ble_eq_true rfl) dX11_next_66 ⟨(Nat.le_of_ble_eq_true rfl), (Nat.le_of_ble_eq_true rfl)⟩) hP hD hS hA [2, 3, 4, 5] [0, 1] rfl rfl rfl (by decide) (fun r u_66 H locs hw hP hD hS => ?_)
    have hP : va_P G vwCl [(h0, .inr (11, [f_h0_0, .ref aS, f_h0_2, f_h0_3, f_h0_4, f_h0_5, f_h0_6, .ref aE, f_h0_8, f_h0_9, f_h0_10, f_h0_11, .ref h1, .int lr])), (aS, .inr (7, [.ref aW, .ref aD, f_aS_2, f_aS_3, f_aS_4])), (aE, .inr (3, [.ref aA, .ref e1, .ref e2, .ref e3])), (e1, .inl (cs 0, 40, .inl (fl (fun _ => 0) 40 20))), (e2, .inl (cs 0, 40, .inl (fl (fun _ => 0) 40 2))), (e3, .inl (cs 0, 100, .inl (maF 4 ((fl (maF 3 ((fl (maF 2 ((fl (maF 1 ((fl (maF 0 ((fl (fun _ => 0) 100 0)) 40) 100 0)) 40) 100 0)) 40) 100 0)) 40) 100 0)) 40)))] H := hP
    have hD : va_D A [(h0, .inr (11, [f_h0_0, .ref aS, f_h0_2, f_h0_3, f_h0_4, f_h0_5, f_h0_6, .ref aE, f_h0_8, f_h0_9, f_h0_10, f_h0_11, .ref h1, .int lr])), (aS, .inr (7, [.ref aW, .ref aD, f_aS_2, f_aS_3, f_aS_4])), (aE, .inr (3, [.ref aA, .ref e1, .ref e2, .ref e3])), (e1, .inl (cs 0, 40, .inl (fl (fun _ => 0) 40 20))), (e2, .inl (cs 0, 40, .inl (fl (fun _ => 0) 40 2))), (e3, .inl (cs 0, 100, .inl (maF 4 ((fl (maF 3 ((fl (maF 2 ((fl (maF 1 ((fl (maF 0 ((fl (fun _ => 0) 100 0)) 40) 100 0)) 40) 100 0)) 40) 100 0)) 40) 100 0)) 40)))] := hD
    obtain rfl : r = 8 := hw.trans ((ma_c _ _).trans (by decide +kernel))
    refine lv_istore (lv' := [(7, .int 8), (6, .int 4), (5, .int 6), (4, .int 0), (2, .long 1099511627775), (0, .ref h0), (1, .int a)]) hx hb dX11_next_69 hl (by decide) rfl (fun ls hl => ?_)
    refine lv_iload hx hb dX11_next_71 (lv_at hl 0 rfl) ?_
    refine lv_iload hx hb dX11_next_73 (lv_at hl 2 rfl) ?_
    refine lv_icmp_ge (tgt := 86) hx hb dX11_next_75 (by decide) (fun _ => ?_) (fun h => absurd (by decide) h)
    refine lv_iinc (v := 5) (lv' := [(6, .int 5), (7, .int 8), (5, .int 6), (4, .int 0), (2, .long 1099511627775), (0, .ref h0), (1, .int a)]) hx hb dX11_next_86 hl (k := 1) rfl (by first | rfl | decide) (by decide) rfl (fun ls hl => ?_)
    refine lv_goto (tgt := 52) hx hb dX11_next_89 (by decide) ?_
    refine lv_iload hx hb dX11_next_52 (lv_at hl 0 rfl) ?_
    refine lv_bipush (v := 8) hx hb dX11_next_54 (by decide) ?_
    refine lv_icmp_ge (tgt := 92) hx hb dX11_next_56 (by decide) (fun h => absurd h (by decide)) (fun _ => ?_)
    refine lv_aload_n hx hb dX11_next_59 rfl (lv_at hl 5 rfl) ?_
    refine va_get (ci := 11) (v := .ref aE) (C := RX11) (T := TX11) (N := 14) hx hb htl inX11 hown hK hP 0 rfl rfl 7 (by decide) (htl _ fl_RX11_56) (fun _ h9 => h9) rfl dX11_next_60 ?_
    refine lv_lload_n hx hb dX11_next_63 rfl (lv_at hl 4 rfl) ?_
    refine lv_iload hx hb dX11_next_64 (lv_at hl 0 rfl) ?_
    refine mi (wr := [(h0, .inr (11, [f_h0_0, .ref aS, f_h0_2, f_h0_3, f_h0_4, f_h0_5, f_h0_6, .ref aE, f_h0_8, f_h0_9, f_h0_10, f_h0_11, .ref h1, .int lr])), (aS, .inr (7, [.ref aW, .ref aD, f_aS_2, f_aS_3, f_aS_4]))]) (mkV (rest := []) ⟨hx, hb, hml, hown, htl⟩ hN hK hP hD (c_X3_mostAlike l G cs aE 5 (.ref aA) e1 e2 e3 ((maF 4 ((fl (maF 3 ((fl (maF 2 ((fl (maF 1 ((fl (maF 0 ((fl (fun _ => 0) 100 0)) 40) 100 0)) 40) 100 0)) 40) 100 0)) 40) 100 0)) 40)) _) [2, 3, 4, 5] rfl rfl 0 3 rfl rfl (cV 2 htl lk_RX11_342 mI_X3_mostAlike mS_X3_mostAlike mN_RX3 mC_X3_mostAlike ok_X3_mostAlike rfl rfl ⟨(Nat.le_of_ble_eq_true rfl), (Nat.le_of_ble_eq_true rfl)⟩) rfl hl.1 rfl (Nat.le_of_ble_eq_true rfl) dX11_next_66 ⟨(Nat.le_of_ble_eq_true rfl), (Nat.le_of_ble_eq_true rfl)⟩) hP hD hS hA [2, 3, 4, 5] [0, 1] rfl rfl rfl (by decide) (fun r u_66 H locs hw hP hD hS => ?_)
    have hP : va_P G vwCl [(h0, .inr (11, [f_h0_0, .ref aS, f_h0_2, f_h0_3, f_h0_4, f_h0_5, f_h0_6, .ref aE, f_h0_8, f_h0_9, f_h0_10, f_h0_11, .ref h1, .int lr])), (aS, .inr (7, [.ref aW, .ref aD, f_aS_2, f_aS_3, f_aS_4])), (aE, .inr (3, [.ref aA, .ref e1, .ref e2, .ref e3])), (e1, .inl (cs 0, 40, .inl (fl (fun _ => 0) 40 20))), (e2, .inl (cs 0, 40, .inl (fl (fun _ => 0) 40 2))), (e3, .inl (cs 0, 100, .inl (maF 5 ((fl (maF 4 ((fl (maF 3 ((fl (maF 2 ((fl (maF 1 ((fl (maF 0 ((fl (fun _ => 0) 100 0)) 40) 100 0)) 40) 100 0)) 40) 100 0)) 40) 100 0)) 40) 100 0)) 40)))] H := hP
    have hD : va_D A [(h0, .inr (11, [f_h0_0, .ref aS, f_h0_2, f_h0_3, f_h0_4, f_h0_5, f_h0_6, .ref aE, f_h0_8, f_h0_9, f_h0_10, f_h0_11, .ref h1, .int lr])), (aS, .inr (7, [.ref aW, .ref aD, f_aS_2, f_aS_3, f_aS_4])), (aE, .inr (3, [.ref aA, .ref e1, .ref e2, .ref e3])), (e1, .inl (cs 0, 40, .inl (fl (fun _ => 0) 40 20))), (e2, .inl (cs 0, 40, .inl (fl (fun _ => 0) 40 2))), (e3, .inl (cs 0, 100, .inl (maF 5 ((fl (maF 4 ((fl (maF 3 ((fl (maF 2 ((fl (maF 1 ((fl (maF 0 ((fl (fun _ => 0) 100 0)) 40) 100 0)) 40) 100 0)) 40) 100 0)) 40) 100 0)) 40) 100 0)) 40)))] := hD
    obtain rfl : r = 7 := hw.trans ((ma_c _ _).trans (by decide +kernel))
    refine lv_istore (lv' := [(7, .int 7), (6, .int 5), (5, .int 6), (4, .int 0), (2, .long 1099511627775), (0, .ref h0), (1, .int a)]) hx hb dX11_next_69 hl (by decide) rfl (fun ls hl => ?_)
    refine lv_iload hx hb dX11_next_71 (lv_at hl 0 rfl) ?_
    refine lv_iload hx hb dX11_next_73 (lv_at hl 2 rfl) ?_
    refine lv_icmp_ge (tgt := 86) hx hb dX11_next_75 (by decide) (fun _ => ?_) (fun h => absurd (by decide) h)
    refine lv_iinc (v := 6) (lv' := [(6, .int 6), (7, .int 7), (5, .int 6), (4, .int 0), (2, .long 1099511627775), (0, .ref h0), (1, .int a)]) hx hb dX11_next_86 hl (k := 1) rfl (by first | rfl | decide) (by decide) rfl (fun ls hl => ?_)
    refine lv_goto (tgt := 52) hx hb dX11_next_89 (by decide) ?_
    refine lv_iload hx hb dX11_next_52 (lv_at hl 0 rfl) ?_
    refine lv_bipush (v := 8) hx hb dX11_next_54 (by decide) ?_
    refine lv_icmp_ge (tgt := 92) hx hb dX11_next_56 (by decide) (fun h => absurd h (by decide)) (fun _ => ?_)
    refine lv_aload_n hx hb dX11_next_59 rfl (lv_at hl 5 rfl) ?_
    refine va_get (ci := 11) (v := .ref aE) (C := RX11) (T := TX11) (N := 14) hx hb htl inX11 hown hK hP 0 rfl rfl 7 (by decide) (htl _ fl_RX11_56) (fun _ h9 => h9) rfl dX11_next_60 ?_
    refine lv_lload_n hx hb dX11_next_63 rfl (lv_at hl 4 rfl) ?_
    refine lv_iload hx hb dX11_next_64 (lv_at hl 0 rfl) ?_
    refine mi (wr := [(h0, .inr (11, [f_h0_0, .ref aS, f_h0_2, f_h0_3, f_h0_4, f_h0_5, f_h0_6, .ref aE, f_h0_8, f_h0_9, f_h0_10, f_h0_11, .ref h1, .int lr])), (aS, .inr (7, [.ref aW, .ref aD, f_aS_2, f_aS_3, f_aS_4]))]) (mkV (rest := []) ⟨hx, hb, hml, hown, htl⟩ hN hK hP hD (c_X3_mostAlike l G cs aE 6 (.ref aA) e1 e2 e3 ((maF 5 ((fl (maF 4 ((fl (maF 3 ((fl (maF 2 ((fl (maF 1 ((fl (maF 0 ((fl (fun _ => 0) 100 0)) 40) 100 0)) 40) 100 0)) 40) 100 0)) 40) 100 0)) 40) 100 0)) 40)) _) [2, 3, 4, 5] rfl rfl 0 3 rfl rfl (cV 2 htl lk_RX11_342 mI_X3_mostAlike mS_X3_mostAlike mN_RX3 mC_X3_mostAlike ok_X3_mostAlike rfl rfl ⟨(Nat.le_of_ble_eq_true rfl), (Nat.le_of_ble_eq_true rfl)⟩) rfl hl.1 rfl (Nat.le_of_ble_eq_true rfl) dX11_next_66 ⟨(Nat.le_of_ble_eq_true rfl), (Nat.le_of_ble_eq_true rfl)⟩) hP hD hS hA [2, 3, 4, 5] [0, 1] rfl rfl rfl (by decide) (fun r u_66 H locs hw hP hD hS => ?_)
    have hP : va_P G vwCl [(h0, .inr (11, [f_h0_0, .ref aS, f_h0_2, f_h0_3, f_h0_4, f_h0_5, f_h0_6, .ref aE, f_h0_8, f_h0_9, f_h0_10, f_h0_11, .ref h1, .int lr])), (aS, .inr (7, [.ref aW, .ref aD, f_aS_2, f_aS_3, f_aS_4])), (aE, .inr (3, [.ref aA, .ref e1, .ref e2, .ref e3])), (e1, .inl (cs 0, 40, .inl (fl (fun _ => 0) 40 20))), (e2, .inl (cs 0, 40, .inl (fl (fun _ => 0) 40 2))), (e3, .inl (cs 0, 100, .inl (maF 6 ((fl (maF 5 ((fl (maF 4 ((fl (maF 3 ((fl (maF 2 ((fl (maF 1 ((fl (maF 0 ((fl (fun _ => 0) 100 0)) 40) 100 0)) 40) 100 0)) 40) 100 0)) 40) 100 0)) 40) 100 0)) 40) 100 0)) 40)))] H := hP
    have hD : va_D A [(h0, .inr (11, [f_h0_0, .ref aS, f_h0_2, f_h0_3, f_h0_4, f_h0_5, f_h0_6, .ref aE, f_h0_8, f_h0_9, f_h0_10, f_h0_11, .ref h1, .int lr])), (aS, .inr (7, [.ref aW, .ref aD, f_aS_2, f_aS_3, f_aS_4])), (aE, .inr (3, [.ref aA, .ref e1, .ref e2, .ref e3])), (e1, .inl (cs 0, 40, .inl (fl (fun _ => 0) 40 20))), (e2, .inl (cs 0, 40, .inl (fl (fun _ => 0) 40 2))), (e3, .inl (cs 0, 100, .inl (maF 6 ((fl (maF 5 ((fl (maF 4 ((fl (maF 3 ((fl (maF 2 ((fl (maF 1 ((fl (maF 0 ((fl (fun _ => 0) 100 0)) 40) 100 0)) 40) 100 0)) 40) 100 0)) 40) 100 0)) 40) 100 0)) 40) 100 0)) 40)))] := hD
    obtain rfl : r = 6 := hw.trans ((ma_c _ _).trans (by decide +kernel))
    refine lv_istore (lv' := [(7, .int 6), (6, .int 6), (5, .int 6), (4, .int 0), (2, .long 1099511627775), (0, .ref h0), (1, .int a)]) hx hb dX11_next_69 hl (by decide) rfl (fun ls hl => ?_)
    refine lv_iload hx hb dX11_next_71 (lv_at hl 0 rfl) ?_
    refine lv_iload hx hb dX11_next_73 (lv_at hl 2 rfl) ?_
    refine lv_icmp_ge (tgt := 86) hx hb dX11_next_75 (by decide) (fun _ => ?_) (fun h => absurd (by decide) h)
    refine lv_iinc (v := 7) (lv' := [(6, .int 7), (7, .int 6), (5, .int 6), (4, .int 0), (2, .long 1099511627775), (0, .ref h0), (1, .int a)]) hx hb dX11_next_86 hl (k := 1) rfl (by first | rfl | decide) (by decide) rfl (fun ls hl => ?_)
    refine lv_goto (tgt := 52) hx hb dX11_next_89 (by decide) ?_
    refine lv_iload hx hb dX11_next_52 (lv_at hl 0 rfl) ?_
    refine lv_bipush (v := 8) hx hb dX11_next_54 (by decide) ?_
    refine lv_icmp_ge (tgt := 92) hx hb dX11_next_56 (by decide) (fun h => absurd h (by decide)) (fun _ => ?_)
    refine lv_aload_n hx hb dX11_next_59 rfl (lv_at hl 5 rfl) ?_
    refine va_get (ci := 11) (v := .ref aE) (C := RX11) (T := TX11) (N := 14) hx hb htl inX11 hown hK hP 0 rfl rfl 7 (by decide) (htl _ fl_RX11_56) (fun _ h9 => h9) rfl dX11_next_60 ?_
    refine lv_lload_n hx hb dX11_next_63 rfl (lv_at hl 4 rfl) ?_
    refine lv_iload hx hb dX11_next_64 (lv_at hl 0 rfl) ?_
    refine mi (wr := [(h0, .inr (11, [f_h0_0, .ref aS, f_h0_2, f_h0_3, f_h0_4, f_h0_5, f_h0_6, .ref aE, f_h0_8, f_h0_9, f_h0_10, f_h0_11, .ref h1, .int lr])), (aS, .inr (7, [.ref aW, .ref aD, f_aS_2, f_aS_3, f_aS_4]))]) (mkV (rest := []) ⟨hx, hb, hml, hown, htl⟩ hN hK hP hD (c_X3_mostAlike l G cs aE 7 (.ref aA) e1 e2 e3 ((maF 6 ((fl (maF 5 ((fl (maF 4 ((fl (maF 3 ((fl (maF 2 ((fl (maF 1 ((fl (maF 0 ((fl (fun _ => 0) 100 0)) 40) 100 0)) 40) 100 0)) 40) 100 0)) 40) 100 0)) 40) 100 0)) 40) 100 0)) 40)) _) [2, 3, 4, 5] rfl rfl 0 3 rfl rfl (cV 2 htl lk_RX11_342 mI_X3_mostAlike mS_X3_mostAlike mN_RX3 mC_X3_mostAlike ok_X3_mostAlike rfl rfl ⟨(Nat.le_of_ble_eq_true rfl), (Nat.le_of_ble_eq_true rfl)⟩) rfl hl.1 rfl (Nat.le_of_ble_eq_true rfl) dX11_next_66 ⟨(Nat.le_of_ble_eq_true rfl), (Nat.le_of_ble_eq_true rfl)⟩) hP hD hS hA [2, 3, 4, 5] [0, 1] rfl rfl rfl (by decide) (fun r u_66 H locs hw hP hD hS => ?_)
    have hP : va_P G vwCl [(h0, .inr (11, [f_h0_0, .ref aS, f_h0_2, f_h0_3, f_h0_4, f_h0_5, f_h0_6, .ref aE, f_h0_8, f_h0_9, f_h0_10, f_h0_11, .ref h1, .int lr])), (aS, .inr (7, [.ref aW, .ref aD, f_aS_2, f_aS_3, f_aS_4])), (aE, .inr (3, [.ref aA, .ref e1, .ref e2, .ref e3])), (e1, .inl (cs 0, 40, .inl (fl (fun _ => 0) 40 20))), (e2, .inl (cs 0, 40, .inl (fl (fun _ => 0) 40 2))), (e3, .inl (cs 0, 100, .inl (maF 7 ((fl (maF 6 ((fl (maF 5 ((fl (maF 4 ((fl (maF 3 ((fl (maF 2 ((fl (maF 1 ((fl (maF 0 ((fl (fun _ => 0) 100 0)) 40) 100 0)) 40) 100 0)) 40) 100 0)) 40) 100 0)) 40) 100 0)) 40) 100 0)) 40) 100 0)) 40)))] H := hP
    have hD : va_D A [(h0, .inr (11, [f_h0_0, .ref aS, f_h0_2, f_h0_3, f_h0_4, f_h0_5, f_h0_6, .ref aE, f_h0_8, f_h0_9, f_h0_10, f_h0_11, .ref h1, .int lr])), (aS, .inr (7, [.ref aW, .ref aD, f_aS_2, f_aS_3, f_aS_4])), (aE, .inr (3, [.ref aA, .ref e1, .ref e2, .ref e3])), (e1, .inl (cs 0, 40, .inl (fl (fun _ => 0) 40 20))), (e2, .inl (cs 0, 40, .inl (fl (fun _ => 0) 40 2))), (e3, .inl (cs 0, 100, .inl (maF 7 ((fl (maF 6 ((fl (maF 5 ((fl (maF 4 ((fl (maF 3 ((fl (maF 2 ((fl (maF 1 ((fl (maF 0 ((fl (fun _ => 0) 100 0)) 40) 100 0)) 40) 100 0)) 40) 100 0)) 40) 100 0)) 40) 100 0)) 40) 100 0)) 40) 100 0)) 40)))] := hD
    obtain rfl : r = 6 := hw.trans ((ma_c _ _).trans (by decide +kernel))
    refine lv_istore (lv' := [(7, .int 6), (6, .int 7), (5, .int 6), (4, .int 0), (2, .long 1099511627775), (0, .ref h0), (1, .int a)]) hx hb dX11_next_69 hl (by decide) rfl (fun ls hl => ?_)
    refine lv_iload hx hb dX11_next_71 (lv_at hl 0 rfl) ?_
    refine lv_iload hx hb dX11_next_73 (lv_at hl 2 rfl) ?_
    refine lv_icmp_ge (tgt := 86) hx hb dX11_next_75 (by decide) (fun _ => ?_) (fun h => absurd (by decide) h)
    refine lv_iinc (v := 8) (lv' := [(6, .int 8), (7, .int 6), (5, .int 6), (4, .int 0), (2, .long 1099511627775), (0, .ref h0), (1, .int a)]) hx hb dX11_next_86 hl (k := 1) rfl (by first | rfl | decide) (by decide) rfl (fun ls hl => ?_)
    refine lv_goto (tgt := 52) hx hb dX11_next_89 (by decide) ?_
    refine lv_iload hx hb dX11_next_52 (lv_at hl 0 rfl) ?_
    refine lv_bipush (v := 8) hx hb dX11_next_54 (by decide) ?_
    refine lv_icmp_ge (tgt := 92) hx hb dX11_next_56 (by decide) (fun _ => ?_) (fun h => absurd (by decide) h)
    refine lv_iload_n hx hb dX11_next_92 rfl (lv_at hl 6 rfl) ?_
    refine lv_if_ne (tgt := 101) hx hb dX11_next_93 (by decide) (fun c_93 => ?_) (fun c_93 => ?_)
    · refine lv_iload hx hb dX11_next_101 (lv_at hl 2 rfl) ?_
      exact W.iret (v := 6) hx hb hr (fun t ht hW => ⟨⟨6, (), rfl, (by unfold sp_X11_next; rw [if_neg c_5, if_neg c_93]), ⟨fun k q h => by simp at h, va_K.moved hW.alike hK, ⟨fun i j p q h => by simp at h, fun k q h => by simp at h⟩⟩⟩, hS.F ht⟩) hS.2.2 dX11_next_103
    · refine lv_iload hx hb dX11_next_96 (lv_at hl 3 rfl) ?_
      refine lv_goto (tgt := 103) hx hb dX11_next_98 (by decide) ?_
      exact W.iret (v := 0) hx hb hr (fun t ht hW => ⟨⟨0, (), rfl, (by unfold sp_X11_next; rw [if_neg c_5, if_pos c_93]), ⟨fun k q h => by simp at h, va_K.moved hW.alike hK, ⟨fun i j p q h => by simp at h, fun k q h => by simp at h⟩⟩⟩, hS.F ht⟩) hS.2.2 dX11_next_103
