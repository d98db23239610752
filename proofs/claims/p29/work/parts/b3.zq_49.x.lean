/-! what stands outside of a method's cells: the Texts of the laws, the word list's String -/
theorem XT.to {G : va_G} {TT : Nat → Prop} {xe : XE} {A B : Nat → Prop} {s U : State} {H : Heap} {locs : List Loc} (h : XT G TT xe A s) (hU : U.heap = H) (hW : s.WarmedH U.vm) (hS : va_S A s.heap H locs) (hB : ∀ q, B q → A q) : XT G TT xe B U := by
  obtain ⟨h1, h2, h3, h4, h5⟩ := h
  refine ⟨fun v hv => ?_, ?_, vk_R.warm hW h3, ?_, ?_⟩
  · obtain ⟨n1, vs, p1⟩ := h1 v hv
    refine ⟨fun q => n1 (hB v q), vs, fun k q hk => ?_⟩
    have hq : q = (v, Sum.inr (8, vs)) := by
      cases k with
      | zero => simpa using hk.symm
      | succ k => simp at hk
    subst hq
    have p2 := p1 0 _ rfl
    rw [hU]
    exact p2.kept (hS.2.1 v p2.lt n1)
  · rw [hU]; exact ((h2.kept hS.2.1).moved hW.alike).narrow hB
  · rw [hU]; exact ((h4.kept hS.2.1).moved hW.alike).narrow hB
  · rw [hU]; exact ((h5.kept hS.2.1).moved hW.alike).narrow hB
theorem XT.calling {G : va_G} {TT : Nat → Prop} {xe : XE} {A : Nat → Prop} {U : State} {g : JFrame} {mk : MethodId} {a : Array Value} (h : XT G TT xe A U) : XT G TT xe A (U.calling g mk a) := by
  obtain ⟨h1, h2, h3, h4, h5⟩ := h
  exact ⟨h1, h2.moved (U := U.calling g mk a) (Vm.Alike.refl U.vm), vk_R.same (u := U) rfl h3, h4.moved (U := U.calling g mk a) (Vm.Alike.refl U.vm), h5.moved (U := U.calling g mk a) (Vm.Alike.refl U.vm)⟩
/-- one Text more -/
theorem XT.add {G : va_G} {TT : Nat → Prop} {xe : XE} {B : Nat → Prop} {U : State} (h : XT G TT xe B U) {t : Nat} {vs : List Value} (ht : ¬ B t) (hp : va_P G vwCl [(t, Sum.inr (8, vs))] U.heap) : XT G (fun v => TT v ∨ v = t) xe B U :=
  ⟨fun v hv => by
    rcases hv with hv | rfl
    · exact h.1 v hv
    · exact ⟨ht, vs, hp⟩, h.2⟩
theorem notA {G : va_G} {cs : Nat → ClassId} {wv wc : va_W} {A : Nat → Prop} {H : Heap} (hP : va_P G vwCl wv H) (hD : va_D A wv) {isC : List Nat} (hC : isC.map (fun i => wv[i]?) = wc.map some) (q : Nat) {t : Nat} {e : va_E} (hq : wv[q]? = some (t, e)) (hx : q ∉ isC) : ¬ va_A wc H.size t := by
  rintro (⟨k, e2, hk⟩ | h)
  · have h1 : (isC.map (fun i => wv[i]?))[k]? = some (some (t, e2)) := by rw [hC, List.getElem?_map, hk]; rfl
    rw [List.getElem?_map] at h1
    cases hi : isC[k]? with
    | none => rw [hi] at h1; cases h1
    | some i =>
      rw [hi] at h1
      have h2 : wv[i]? = some (t, e2) := by simpa using h1
      have h3 := hD.1 i q _ _ h2 hq rfl
      exact hx (h3 ▸ List.mem_of_getElem? hi)
  · have := (hP q _ hq).lt
    omega
def PreX (G : va_G) (cs : Nat → ClassId) (ws : va_W) (sz : Nat) (TT : Nat → Prop) (xe : XE) (U : State) : Prop := Pre G cs ws sz U ∧ XT G TT xe (va_A ws sz) U
def PrX (G : va_G) (cs : Nat → ClassId) (ws : va_W) (TT : Nat → Prop) (xe : XE) (U : State) : Prop := PrS G cs ws U ∧ XT G TT xe (fun _ => False) U
theorem PreX.blind {G : va_G} {cs : Nat → ClassId} {ws : va_W} {sz : Nat} {TT : Nat → Prop} {xe : XE} {av : List Value} : FrameBlind (va_Pc av (PreX G cs ws sz TT xe)) := fun a U g mk q => by
  obtain ⟨q0, q1, q2⟩ := q
  exact ⟨q0, (Pre.blind (av := av) a U g mk ⟨q0, q1⟩).2, q2.calling⟩
theorem PrX.blind {G : va_G} {cs : Nat → ClassId} {ws : va_W} {TT : Nat → Prop} {xe : XE} {av : List Value} : FrameBlind (va_Pc av (PrX G cs ws TT xe)) := fun a U g mk q => by
  obtain ⟨q0, q1, q2⟩ := q
  exact ⟨q0, (PrS.blind (av := av) a U g mk ⟨q0, q1⟩).2, q2.calling⟩
section MKX
variable {p : Program} {l : Launch} {e : Env} {R : Room} {s : State} {m : MethodId} {args : Array Value} {below : List Frame} {meth : Method} {c : Code} {H H0 : Heap} {locs : List Loc} {cells slots : Nat} {Q : State → Prop}
variable {y : MethodName} {bytes cc : ByteArray} {maxL nL mc ms n index : Nat} {ret : Option FieldType} {ws wcs : List Cond} {rm : Room} {Qc : Array Value → State → Outcome → State → Prop} {free : Addr → Prop} {own C : String} {b : Addr} {As rest st0 : List Value} {pc : Nat} {ls : Array Slot}
variable {G : va_G} {cs : Nat → ClassId} {wv wc wr : va_W} {A A0 : Nat → Prop} {fs : List Value} {T : u_T} {NC : Nat} {TT TU : Nat → Prop} {xe : XE}
theorem mkVX (F : CallFix p m c cc nL s args gW own) (hN : NW s) (hK : va_K G vwCl (tyL cs) s) (hP : va_P G vwCl wv H) (hD : va_D A wv) (hX : ∀ U : State, U.heap = H → s.WarmedH U.vm → XT G TT xe (va_A wc H.size) U) (hM : Met l y wcs rm (va_Pc (.ref b :: As) (PreX G cs wc H.size TT xe)) Qc mc ms free) (isC : List Nat) (hC : isC.map (fun i => wv[i]?) = wc.map some) (hn : va_nd isC = true) (q0 ci : Nat) (he : wc[q0]? = some (b, Sum.inr (ci, fs))) (hc : vwCl[ci]? = some (C, T, NC))
    (cw : CallW R s args own C index y bytes maxL ret wcs rm mc ms n) (ha : As.length = n) (hsz : ls.size = nL) (hst : st0 = As.reverse ++ .ref b :: rest) (hW : (rest.map fun v => v.category).sum ≤ 8) (hdg : decode cc pc = .ok (.invokevirtual index, 3)) (hf : cells + mc ≤ R.cells ∧ slots + ms ≤ R.slots) :
    va_Run p l e R s m args below meth c H locs cells slots mc ms (F0 m pc ls st0) rest (Qc (Value.ref b :: As).toArray) free :=
  va_runV F hM cw ⟨PreX.blind, va_recv hK (hP.pick hC) hc he, fun _ hU hW => ⟨rfl, Pre.to hU hW (hP.pick hC) hK (hD.sub isC hn hC) hN, hX _ hU hW⟩⟩ rfl ha hsz hst (lv_room hW) hdg hf
theorem mkVrX (F : CallFix p m c cc nL s args gW own) (hN : NW s) (hK : va_K G vwCl (tyL cs) s) (hP : va_P G vwCl wv H) (hX : ∀ U : State, U.heap = H → s.WarmedH U.vm → XT G TT xe (fun _ => False) U) (hM : Met l y wcs rm (va_Pc (.ref b :: As) (PrX G cs wc TT xe)) Qc mc ms free) (isC : List Nat) (hC : isC.map (fun i => wv[i]?) = wc.map some) (q0 ci : Nat) (he : wc[q0]? = some (b, Sum.inr (ci, fs))) (hc : vwCl[ci]? = some (C, T, NC))
    (cw : CallW R s args own C index y bytes maxL ret wcs rm mc ms n) (ha : As.length = n) (hsz : ls.size = nL) (hst : st0 = As.reverse ++ .ref b :: rest) (hW : (rest.map fun v => v.category).sum ≤ 8) (hdg : decode cc pc = .ok (.invokevirtual index, 3)) (hf : cells + mc ≤ R.cells ∧ slots + ms ≤ R.slots) :
    CallRun p l e R s m args below meth c H locs cells slots mc ms (F0 m pc ls st0) rest (Qc (Value.ref b :: As).toArray) free :=
  va_Run.run (va_runV F hM cw ⟨PrX.blind, va_recv hK (hP.pick hC) hc he, fun _ hU hW => ⟨rfl, PrS.to hU hW (hP.pick hC) hK hN, hX _ hU hW⟩⟩ rfl ha hsz hst (lv_room hW) hdg hf)
/-- a call of the word list's String -/
theorem mkZr (F : CallFix p m c cc nL s args gW own) (hN : NW s) (hK : va_K G vwCl (tyL cs) s) (hX : ∀ U : State, U.heap = H → s.WarmedH U.vm → XT G TT xe (fun _ => False) U) (hX0 : XT G TU xe A s) (hS : va_S A s.heap H locs) (hM : Met l y wcs rm (va_Pc (.ref (xe.1 0) :: As) (PrX G cs [] TT xe)) Qc mc ms free)
    (cw : CallW R s args own "java/lang/String" index y bytes maxL ret wcs rm mc ms n) (ha : As.length = n) (hsz : ls.size = nL) (hst : st0 = As.reverse ++ .ref (xe.1 0) :: rest) (hW : (rest.map fun v => v.category).sum ≤ 8) (hdg : decode cc pc = .ok (.invokevirtual index, 3)) (hf : cells + mc ≤ R.cells ∧ slots + ms ≤ R.slots) :
    CallRun p l e R s m args below meth c H locs cells slots mc ms (F0 m pc ls st0) rest (Qc (Value.ref (xe.1 0) :: As).toArray) free :=
  va_Run.run (va_runV F hM cw ⟨PrX.blind, vk_recv hX0.2.1 (by decide) hS, fun _ hU hW => ⟨rfl, PrS.to hU hW (fun k q h => by simp at h) hK hN, hX _ hU hW⟩⟩ rfl ha hsz hst (lv_room hW) hdg hf)
theorem mkSrX (F : CallFix p m c cc nL s args gW own) (hN : NW s) (hK : va_K G vwCl (tyL cs) s) (hX : ∀ U : State, U.heap = H → s.WarmedH U.vm → XT G TT xe (fun _ => False) U)
    (hM : Met l y wcs rm (va_Pc As (PrX G cs [] TT xe)) Qc mc ms free) (cw : CallB R s args own index y bytes maxL ret wcs rm mc ms n ∧ (Cond.static y).before args s = true) (ha : As.length = n) (hsz : ls.size = nL) (hst : st0 = As.reverse ++ rest) (hW : (rest.map fun v => v.category).sum ≤ 8) (hdg : decode cc pc = .ok (.invokestatic index, 3)) (hf : cells + mc ≤ R.cells ∧ slots + ms ≤ R.slots) :
    CallRun p l e R s m args below meth c H locs cells slots mc ms (F0 m pc ls st0) rest (Qc As.toArray) free :=
  va_Run.run (va_runS F hM cw ⟨PrX.blind, fun _ hU hW => ⟨rfl, PrS.to hU hW (fun k q h => by simp at h) hK hN, hX _ hU hW⟩⟩ rfl ha hsz hst (lv_room hW) hdg hf)
end MKX
section AST
variable {p : Program} {l : Launch} {e : Env} {R : Room} {s : State} {m : MethodId} {args : Array Value} {below : List Frame} {meth : Method} {c : Code} {H : Heap} {locs : List Loc} {cells slots : Nat} {Q : State → Prop}
variable {cc : ByteArray} {pc : Nat} {ls : Array Slot} {rest : List Value} {G : va_G} {cs : Nat → ClassId} {A : Nat → Prop} {a : Nat} {ws : va_W} {TT : Nat → Prop} {xe : XE}
/-- a law is laid into its place: one that stands outside -/
theorem astT (hexec : p.tables.exec = Jvm.exec) (hb : c.code = cc) (hK : va_K G vwCl (tyL cs) s) (hP : va_P G vwCl ws H) (hD : va_D A ws) (hS : va_S A s.heap H locs) (hX : XT G TT xe A s) (q0 t0 : Nat) {cA : ClassId} {n : Nat} {f : Nat → Option Nat} {r : Option Nat} (ha : ws[q0]? = some (a, Sum.inl (cA, n, Sum.inr (Sum.inr (Sum.inr (Sum.inr f)))))) (ht : (tyL cs)[t0]? = some (cA, .object "ListenWells$Text")) (hr : ∀ v, r = some v → TT v) {i : Int32} (hin : vp_in i n) (hdg : decode cc pc = .ok (.aastore, 1))
    (kk : ∀ (H1 : Heap) (locs1 : List Loc), va_P G vwCl (ws.set q0 (a, Sum.inl (cA, n, Sum.inr (Sum.inr (Sum.inr (Sum.inr (va_up f i.toNatClampNeg r))))))) H1 → va_D A (ws.set q0 (a, Sum.inl (cA, n, Sum.inr (Sum.inr (Sum.inr (Sum.inr (va_up f i.toNatClampNeg r))))))) → va_S A s.heap H1 locs1 → W p l e R s m args below meth c H1 locs1 cells slots Q (F0 m (pc + 1) ls rest)) : W p l e R s m args below meth c H locs cells slots Q (F0 m pc ls (va_rf r :: .int i :: .ref a :: rest)) := by
  cases r with
  | none => exact va_astqN hexec hb hK hP hD hS q0 t0 ha ht hin hdg kk
  | some v =>
    obtain ⟨n1, vs, p1⟩ := hX.1 v (hr v rfl)
    have p2 : va_P G vwCl [(v, Sum.inr (8, vs))] H := fun k q hk => by
      have hq : q = (v, Sum.inr (8, vs)) := by
        cases k with
        | zero => simpa using hk.symm
        | succ k => simp at hk
      subst hq
      have p3 := p1 0 _ rfl
      exact p3.kept (hS.2.1 v p3.lt n1)
    refine va_astqM hexec hb hK hP hD hS q0 t0 ha ht (va_rAny hK p2 (q0 := 0) rfl (r := (RX8, TX8, 4)) rfl (fun comp c0 h1 h2 => ?_)) hin hdg kk
    have h3 : some c0 = some comp := h2.symm.trans h1
    injection h3 with h4
    rw [h4]
    exact va_asg _ _
end AST
