/-! the common pieces of the walks: one list of words, one list of array classes -/
abbrev tyL (cs : Nat → ClassId) : List (ClassId × FieldType) := [(cs 0, .int), (cs 1, .long), (cs 2, .boolean), (cs 3, .object "ListenWells$Text"), (cs 4, .object "ListenWells$World")]
def NW (U : State) : Prop := (∀ w ∈ nW, va_Nw w U) ∧ va_AO "ListenWells$Text" U ∧ va_AO "ListenWells$World" U
theorem NW.warm {s U : State} (hW : s.WarmedH U.vm) (h : NW s) : NW U := by
  refine ⟨fun w hw => ?_, h.2.1.moved hW.alike, h.2.2.moved hW.alike⟩
  have h1 := h.1 w hw
  simp only [nW, List.mem_cons, List.not_mem_nil, or_false] at hw
  rcases hw with rfl | rfl | rfl | rfl | rfl | rfl | rfl | rfl | rfl | rfl | rfl | rfl | rfl <;> exact va_Nw.warmM hW h1
theorem NW.calling {U : State} {g : JFrame} {mk : MethodId} {a : Array Value} (h : NW U) : NW (U.calling g mk a) := by
  refine ⟨fun w hw => ?_, h.2.1.moved (Vm.Alike.refl U.vm), h.2.2.moved (Vm.Alike.refl U.vm)⟩
  have h1 := h.1 w hw
  refine va_Nw.same (u := U) (U := U.calling g mk a) ?_ rfl h1
  simp only [nW, List.mem_cons, List.not_mem_nil, or_false] at hw
  rcases hw with rfl | rfl | rfl | rfl | rfl | rfl | rfl | rfl | rfl | rfl | rfl | rfl | rfl <;> rfl
/-- a method's start: its cells, apart, the heap's size -/
def Pre (G : va_G) (cs : Nat → ClassId) (ws : va_W) (sz : Nat) (U : State) : Prop := U.heap.size = sz ∧ va_P G vwCl ws U.heap ∧ va_K G vwCl (tyL cs) U ∧ va_D (fun _ => True) ws ∧ NW U
/-- the same for a method that only reads -/
def PrS (G : va_G) (cs : Nat → ClassId) (ws : va_W) (U : State) : Prop := va_P G vwCl ws U.heap ∧ va_K G vwCl (tyL cs) U ∧ NW U
/-- a method's end -/
def Aft (G : va_G) (cs : Nat → ClassId) (A : Nat → Prop) (ws : va_W) (t : State) : Prop := va_P G vwCl ws t.heap ∧ va_K G vwCl (tyL cs) t ∧ va_D A ws
theorem Pre.blind {G : va_G} {cs : Nat → ClassId} {ws : va_W} {sz : Nat} {av : List Value} : FrameBlind (va_Pc av (Pre G cs ws sz)) := fun a U g mk q => by
  obtain ⟨q0, q1, qP, qK, qD, qN⟩ := q
  exact ⟨q0, q1, qP, va_K.moved (u := U) (U := U.calling g mk a) (Vm.Alike.refl U.vm) qK, qD, qN.calling⟩
theorem PrS.blind {G : va_G} {cs : Nat → ClassId} {ws : va_W} {av : List Value} : FrameBlind (va_Pc av (PrS G cs ws)) := fun a U g mk q => by
  obtain ⟨q0, qP, qK, qN⟩ := q
  exact ⟨q0, qP, va_K.moved (u := U) (U := U.calling g mk a) (Vm.Alike.refl U.vm) qK, qN.calling⟩
theorem Pre.to {G : va_G} {cs : Nat → ClassId} {wc : va_W} {A : Nat → Prop} {s U : State} {H : Heap} (hU : U.heap = H) (hW : s.WarmedH U.vm) (hP : va_P G vwCl wc H) (hK : va_K G vwCl (tyL cs) s) (hD : va_D A wc) (hN : NW s) : Pre G cs wc H.size U :=
  ⟨by rw [hU], by rw [hU]; exact hP, va_K.moved hW.alike hK, hD.weaken (fun _ _ _ _ => trivial), hN.warm hW⟩
theorem PrS.to {G : va_G} {cs : Nat → ClassId} {wc : va_W} {s U : State} {H : Heap} (hU : U.heap = H) (hW : s.WarmedH U.vm) (hP : va_P G vwCl wc H) (hK : va_K G vwCl (tyL cs) s) (hN : NW s) : PrS G cs wc U :=
  ⟨by rw [hU]; exact hP, va_K.moved hW.alike hK, hN.warm hW⟩
theorem fm_of {ws wc : va_W} {is : List Nat} (h : is.map (fun i => ws[i]?) = wc.map some) : is.filterMap (fun i => ws[i]?) = wc := by
  have h1 : is.filterMap (fun i => ws[i]?) = (is.map (fun i => ws[i]?)).filterMap id := by rw [List.filterMap_map]; rfl
  rw [h1, h]
  simp
theorem va_P.pick {D : va_G} {cl : List vw_C} {ws wc : va_W} {H : Heap} (h : va_P D cl ws H) {is : List Nat} (hs : is.map (fun i => ws[i]?) = wc.map some) : va_P D cl wc H := h.sub is (fm_of hs)
section CW
variable {R : Room} {s : State} {args : Array Value} {own C : String} {index : Nat} {y : MethodName} {bytes : ByteArray} {maxL : Nat} {ret : Option FieldType} {rm : Room} {mc ms : Nat}
abbrev okD (y : MethodName) (n : Nat) : Prop := y.cls ≠ "java/lang/invoke/MethodHandle" ∧ y.cls ≠ "java/lang/invoke/VarHandle" ∧ (parseMethodDescriptor y.desc).map (fun d => d.parameters.length) = some n
theorem cV (n : Nat) (ht : ∀ w ∈ gW, w.before args s = true) (h1 : Cond.methodLink own index y ∈ gW) (h2 : Cond.instanceMethod y ∈ gW) (h3 : Cond.selects C y y ∈ gW) (h4 : Cond.initialized y.cls ∈ gW) (h5 : Cond.code y bytes maxL ret ∈ gW) (hd : okD y n) (hrc : rm.cells = mc) (hrs : rm.slots = ms) (hR : rm.frames + 1 ≤ R.frames ∧ 8 + (maxL + 11) + rm.locals ≤ R.locals) : CallW R s args own C index y bytes maxL ret (Cond.code y bytes maxL ret :: gW) rm mc ms n :=
  ⟨callB_of n ht (gI h5) rfl hrc hrs (ht _ h4) (ht _ h1) hd hR, ht _ h2, ht _ h3⟩
theorem cS (n : Nat) (ht : ∀ w ∈ gW, w.before args s = true) (h1 : Cond.methodLink own index y ∈ gW) (h2 : Cond.static y ∈ gW) (h4 : Cond.initialized y.cls ∈ gW) (h5 : Cond.code y bytes maxL ret ∈ gW) (hd : okD y n) (hrc : rm.cells = mc) (hrs : rm.slots = ms) (hR : rm.frames + 1 ≤ R.frames ∧ 8 + (maxL + 11) + rm.locals ≤ R.locals) : CallB R s args own index y bytes maxL ret (Cond.code y bytes maxL ret :: gW) rm mc ms n ∧ (Cond.static y).before args s = true :=
  ⟨callB_of n ht (gI h5) rfl hrc hrs (ht _ h4) (ht _ h1) hd hR, ht _ h2⟩
theorem cI (n : Nat) (ht : ∀ w ∈ gW, w.before args s = true) (h1 : Cond.methodLink own index y ∈ gW) (h2 : Cond.instanceMethod y ∈ gW) (h4 : Cond.initialized y.cls ∈ gW) (h5 : Cond.code y bytes maxL none ∈ gW) (hy : y.name = "<init>") (hd : okD y n) (hrc : rm.cells = mc) (hrs : rm.slots = ms) (hR : rm.frames + 1 ≤ R.frames ∧ 8 + (maxL + 11) + rm.locals ≤ R.locals) : CallB R s args own index y bytes maxL none (Cond.code y bytes maxL none :: gW) rm mc ms n ∧ y.name = "<init>" ∧ (Cond.instanceMethod y).before args s = true :=
  ⟨callB_of n ht (gI h5) rfl hrc hrs (ht _ h4) (ht _ h1) hd hR, hy, ht _ h2⟩
theorem cSN {host : String} (n : Nat) (ht : ∀ w ∈ gW, w.before args s = true) (hN : NW s) (h1 : Cond.methodLinkNest own index y host ∈ nW) (h2 : Cond.static y ∈ gW) (h4 : Cond.initialized y.cls ∈ gW) (h5 : Cond.code y bytes maxL ret ∈ gW) (hd : okD y n) (hrc : rm.cells = mc) (hrs : rm.slots = ms) (hR : rm.frames + 1 ≤ R.frames ∧ 8 + (maxL + 11) + rm.locals ≤ R.locals) : va_CN R s args own index y host bytes maxL ret (Cond.code y bytes maxL ret :: gW) rm mc ms n ∧ (Cond.static y).before args s = true ∧ True :=
  ⟨va_cnB n ht (gI h5) rfl hrc hrs (hN.1 _ h1) (ht _ h4) hd hR, ht _ h2, trivial⟩
theorem cIN {host : String} (n : Nat) (ht : ∀ w ∈ gW, w.before args s = true) (hN : NW s) (h1 : Cond.methodLinkNest own index y host ∈ nW) (h2 : Cond.instanceMethod y ∈ gW) (h4 : Cond.initialized y.cls ∈ gW) (h5 : Cond.code y bytes maxL none ∈ gW) (hy : y.name = "<init>") (hd : okD y n) (hrc : rm.cells = mc) (hrs : rm.slots = ms) (hR : rm.frames + 1 ≤ R.frames ∧ 8 + (maxL + 11) + rm.locals ≤ R.locals) : va_CN R s args own index y host bytes maxL none (Cond.code y bytes maxL none :: gW) rm mc ms n ∧ y.name = "<init>" ∧ (Cond.instanceMethod y).before args s = true :=
  ⟨va_cnB n ht (gI h5) rfl hrc hrs (hN.1 _ h1) (ht _ h4) hd hR, hy, ht _ h2⟩
end CW
section MK
variable {p : Program} {l : Launch} {e : Env} {R : Room} {s : State} {m : MethodId} {args : Array Value} {below : List Frame} {meth : Method} {c : Code} {H H0 : Heap} {locs : List Loc} {cells slots : Nat} {Q : State → Prop}
variable {y : MethodName} {bytes cc : ByteArray} {maxL nL mc ms n index : Nat} {ret : Option FieldType} {ws wcs : List Cond} {rm : Room} {Qc : Array Value → State → Outcome → State → Prop} {free : Addr → Prop} {own C : String} {b : Addr} {As rest st0 : List Value} {pc : Nat} {ls : Array Slot}
variable {G : va_G} {cs : Nat → ClassId} {wv wc wr : va_W} {A A0 : Nat → Prop} {fs : List Value} {T : u_T} {NC : Nat}
/-- a call of an instance method that may write -/
theorem mkV (F : CallFix p m c cc nL s args gW own) (hN : NW s) (hK : va_K G vwCl (tyL cs) s) (hP : va_P G vwCl wv H) (hD : va_D A wv) (hM : Met l y wcs rm (va_Pc (.ref b :: As) (Pre G cs wc H.size)) Qc mc ms free) (isC : List Nat) (hC : isC.map (fun i => wv[i]?) = wc.map some) (hn : va_nd isC = true) (q0 ci : Nat) (he : wc[q0]? = some (b, Sum.inr (ci, fs))) (hc : vwCl[ci]? = some (C, T, NC))
    (cw : CallW R s args own C index y bytes maxL ret wcs rm mc ms n) (ha : As.length = n) (hsz : ls.size = nL) (hst : st0 = As.reverse ++ .ref b :: rest) (hW : (rest.map fun v => v.category).sum ≤ 8) (hdg : decode cc pc = .ok (.invokevirtual index, 3)) (hf : cells + mc ≤ R.cells ∧ slots + ms ≤ R.slots) :
    va_Run p l e R s m args below meth c H locs cells slots mc ms (F0 m pc ls st0) rest (Qc (Value.ref b :: As).toArray) free :=
  va_runV F hM cw ⟨Pre.blind, va_recv hK (hP.pick hC) hc he, fun _ hU hW => ⟨rfl, Pre.to hU hW (hP.pick hC) hK (hD.sub isC hn hC) hN⟩⟩ rfl ha hsz hst (lv_room hW) hdg hf
/-- a call of an instance method that only reads -/
theorem mkVr (F : CallFix p m c cc nL s args gW own) (hN : NW s) (hK : va_K G vwCl (tyL cs) s) (hP : va_P G vwCl wv H) (hM : Met l y wcs rm (va_Pc (.ref b :: As) (PrS G cs wc)) Qc mc ms free) (isC : List Nat) (hC : isC.map (fun i => wv[i]?) = wc.map some) (q0 ci : Nat) (he : wc[q0]? = some (b, Sum.inr (ci, fs))) (hc : vwCl[ci]? = some (C, T, NC))
    (cw : CallW R s args own C index y bytes maxL ret wcs rm mc ms n) (ha : As.length = n) (hsz : ls.size = nL) (hst : st0 = As.reverse ++ .ref b :: rest) (hW : (rest.map fun v => v.category).sum ≤ 8) (hdg : decode cc pc = .ok (.invokevirtual index, 3)) (hf : cells + mc ≤ R.cells ∧ slots + ms ≤ R.slots) :
    CallRun p l e R s m args below meth c H locs cells slots mc ms (F0 m pc ls st0) rest (Qc (Value.ref b :: As).toArray) free :=
  va_Run.run (va_runV F hM cw ⟨PrS.blind, va_recv hK (hP.pick hC) hc he, fun _ hU hW => ⟨rfl, PrS.to hU hW (hP.pick hC) hK hN⟩⟩ rfl ha hsz hst (lv_room hW) hdg hf)
/-- a call of a static method that may write -/
theorem mkS (F : CallFix p m c cc nL s args gW own) (hN : NW s) (hK : va_K G vwCl (tyL cs) s) (hP : va_P G vwCl wv H) (hD : va_D A wv) (hM : Met l y wcs rm (va_Pc As (Pre G cs wc H.size)) Qc mc ms free) (isC : List Nat) (hC : isC.map (fun i => wv[i]?) = wc.map some) (hn : va_nd isC = true)
    (cw : CallB R s args own index y bytes maxL ret wcs rm mc ms n ∧ (Cond.static y).before args s = true) (ha : As.length = n) (hsz : ls.size = nL) (hst : st0 = As.reverse ++ rest) (hW : (rest.map fun v => v.category).sum ≤ 8) (hdg : decode cc pc = .ok (.invokestatic index, 3)) (hf : cells + mc ≤ R.cells ∧ slots + ms ≤ R.slots) :
    va_Run p l e R s m args below meth c H locs cells slots mc ms (F0 m pc ls st0) rest (Qc As.toArray) free :=
  va_runS F hM cw ⟨Pre.blind, fun _ hU hW => ⟨rfl, Pre.to hU hW (hP.pick hC) hK (hD.sub isC hn hC) hN⟩⟩ rfl ha hsz hst (lv_room hW) hdg hf
/-- a call of a static method that knows no cell -/
theorem mkSr (F : CallFix p m c cc nL s args gW own) (hN : NW s) (hK : va_K G vwCl (tyL cs) s)
    (hM : Met l y wcs rm (va_Pc As (PrS G cs [])) Qc mc ms free) (cw : CallB R s args own index y bytes maxL ret wcs rm mc ms n ∧ (Cond.static y).before args s = true) (ha : As.length = n) (hsz : ls.size = nL) (hst : st0 = As.reverse ++ rest) (hW : (rest.map fun v => v.category).sum ≤ 8) (hdg : decode cc pc = .ok (.invokestatic index, 3)) (hf : cells + mc ≤ R.cells ∧ slots + ms ≤ R.slots) :
    CallRun p l e R s m args below meth c H locs cells slots mc ms (F0 m pc ls st0) rest (Qc As.toArray) free :=
  va_Run.run (va_runS F hM cw ⟨PrS.blind, fun _ hU hW => ⟨rfl, PrS.to hU hW (fun k q h => by simp at h) hK hN⟩⟩ rfl ha hsz hst (lv_room hW) hdg hf)
/-- the same through a nest's link -/
theorem mkSN {host : String} (F : CallFix p m c cc nL s args gW own) (hN : NW s) (hK : va_K G vwCl (tyL cs) s)
    (hM : Met l y wcs rm (va_Pc As (PrS G cs [])) Qc mc ms free) (cw : va_CN R s args own index y host bytes maxL ret wcs rm mc ms n ∧ (Cond.static y).before args s = true ∧ True) (ha : As.length = n) (hsz : ls.size = nL) (hst : st0 = As.reverse ++ rest) (hW : (rest.map fun v => v.category).sum ≤ 8) (hdg : decode cc pc = .ok (.invokestatic index, 3)) (hf : cells + mc ≤ R.cells ∧ slots + ms ≤ R.slots) :
    CallRun p l e R s m args below meth c H locs cells slots mc ms (F0 m pc ls st0) rest (Qc As.toArray) free :=
  va_Run.run (va_runSN F hM cw ⟨PrS.blind, fun _ hU hW => ⟨rfl, PrS.to hU hW (fun k q h => by simp at h) hK hN⟩⟩ rfl ha hsz hst (lv_room hW) hdg hf)
/-- a call of a constructor -/
theorem mkI (F : CallFix p m c cc nL s args gW own) (hN : NW s) (hK : va_K G vwCl (tyL cs) s) (hP : va_P G vwCl wv H) (hD : va_D A wv) (hM : Met l y wcs rm (va_Pc (.ref b :: As) (Pre G cs wc H.size)) Qc mc ms free) (isC : List Nat) (hC : isC.map (fun i => wv[i]?) = wc.map some) (hn : va_nd isC = true)
    (cw : CallB R s args own index y bytes maxL none wcs rm mc ms n ∧ y.name = "<init>" ∧ (Cond.instanceMethod y).before args s = true) (ha : As.length = n) (hsz : ls.size = nL) (hst : st0 = As.reverse ++ .ref b :: rest) (hW : (rest.map fun v => v.category).sum ≤ 8) (hdg : decode cc pc = .ok (.invokespecial index, 3)) (hf : cells + mc ≤ R.cells ∧ slots + ms ≤ R.slots) :
    va_Run p l e R s m args below meth c H locs cells slots mc ms (F0 m pc ls st0) rest (Qc (Value.ref b :: As).toArray) free :=
  va_runI F hM cw ⟨Pre.blind, fun _ hU hW => ⟨rfl, Pre.to hU hW (hP.pick hC) hK (hD.sub isC hn hC) hN⟩⟩ rfl ha hsz hst (lv_room hW) hdg hf
theorem mkIN {host : String} (F : CallFix p m c cc nL s args gW own) (hN : NW s) (hK : va_K G vwCl (tyL cs) s) (hP : va_P G vwCl wv H) (hD : va_D A wv) (hM : Met l y wcs rm (va_Pc (.ref b :: As) (Pre G cs wc H.size)) Qc mc ms free) (isC : List Nat) (hC : isC.map (fun i => wv[i]?) = wc.map some) (hn : va_nd isC = true)
    (cw : va_CN R s args own index y host bytes maxL none wcs rm mc ms n ∧ y.name = "<init>" ∧ (Cond.instanceMethod y).before args s = true) (ha : As.length = n) (hsz : ls.size = nL) (hst : st0 = As.reverse ++ .ref b :: rest) (hW : (rest.map fun v => v.category).sum ≤ 8) (hdg : decode cc pc = .ok (.invokespecial index, 3)) (hf : cells + mc ≤ R.cells ∧ slots + ms ≤ R.slots) :
    va_Run p l e R s m args below meth c H locs cells slots mc ms (F0 m pc ls st0) rest (Qc (Value.ref b :: As).toArray) free :=
  va_runIN F hM cw ⟨Pre.blind, fun _ hU hW => ⟨rfl, Pre.to hU hW (hP.pick hC) hK (hD.sub isC hn hC) hN⟩⟩ rfl ha hsz hst (lv_room hW) hdg hf
variable {Sg : Type} {w1 : Sg → va_W} {a : Array Value}
/-- behind a call that may write: what came back beside the rest -/
theorem mi {post : Int32 → Sg → Prop} (hr : va_Run p l e R s m args below meth c H locs cells slots mc ms (F0 m pc ls st0) rest (va_Qi post (fun u t => Aft G cs (va_A wc H.size) (w1 u) t) (va_A wc H.size) a) (va_A wc H.size)) (hP : va_P G vwCl wv H) (hD : va_D A0 wv) (hS : va_S A0 H0 H locs) (hA : ∀ q, H0.size ≤ q → A0 q) (isC isR : List Nat) (hC : isC.map (fun i => wv[i]?) = wc.map some) (hR : isR.map (fun i => wv[i]?) = wr.map some) (hn : va_nd isR = true) (hdis : ∀ i ∈ isR, i ∉ isC)
    (kk : ∀ (r : Int32) (u : Sg) (H1 : Heap) (locs1 : List Loc), post r u → va_P G vwCl (wr ++ w1 u) H1 → va_D A0 (wr ++ w1 u) → va_S A0 H0 H1 locs1 → W p l e R s m args below meth c H1 locs1 (cells + mc) (slots + ms) Q (F0 m (pc + 3) ls (.int r :: rest))) : W p l e R s m args below meth c H locs cells slots Q (F0 m pc ls st0) := by
  have hF := va_free (wc := wc) hD hS hA isC hC
  refine va_calli hr hS (fun q _ h => hF q h) hF (fun r u t H1 locs1 ht hvm hw hB hz hk hS1 => ?_)
  obtain ⟨hP1, -, hD1⟩ := hB
  rw [ht] at hP1
  obtain ⟨hP2, hD2⟩ := va_join hP hD isC isR hC hR hn hdis hk hF hP1 hD1
  exact kk r u H1 locs1 hw hP2 hD2 hS1
theorem ml {post : Int64 → Sg → Prop} (hr : va_Run p l e R s m args below meth c H locs cells slots mc ms (F0 m pc ls st0) rest (va_Ql post (fun u t => Aft G cs (va_A wc H.size) (w1 u) t) (va_A wc H.size) a) (va_A wc H.size)) (hP : va_P G vwCl wv H) (hD : va_D A0 wv) (hS : va_S A0 H0 H locs) (hA : ∀ q, H0.size ≤ q → A0 q) (isC isR : List Nat) (hC : isC.map (fun i => wv[i]?) = wc.map some) (hR : isR.map (fun i => wv[i]?) = wr.map some) (hn : va_nd isR = true) (hdis : ∀ i ∈ isR, i ∉ isC)
    (kk : ∀ (r : Int64) (u : Sg) (H1 : Heap) (locs1 : List Loc), post r u → va_P G vwCl (wr ++ w1 u) H1 → va_D A0 (wr ++ w1 u) → va_S A0 H0 H1 locs1 → W p l e R s m args below meth c H1 locs1 (cells + mc) (slots + ms) Q (F0 m (pc + 3) ls (.long r :: rest))) : W p l e R s m args below meth c H locs cells slots Q (F0 m pc ls st0) := by
  have hF := va_free (wc := wc) hD hS hA isC hC
  refine va_calll hr hS (fun q _ h => hF q h) hF (fun r u t H1 locs1 ht hvm hw hB hz hk hS1 => ?_)
  obtain ⟨hP1, -, hD1⟩ := hB
  rw [ht] at hP1
  obtain ⟨hP2, hD2⟩ := va_join hP hD isC isR hC hR hn hdis hk hF hP1 hD1
  exact kk r u H1 locs1 hw hP2 hD2 hS1
theorem mv {post : Sg → Prop} (hr : va_Run p l e R s m args below meth c H locs cells slots mc ms (F0 m pc ls st0) rest (va_Qv post (fun u t => Aft G cs (va_A wc H.size) (w1 u) t) (va_A wc H.size) a) (va_A wc H.size)) (hP : va_P G vwCl wv H) (hD : va_D A0 wv) (hS : va_S A0 H0 H locs) (hA : ∀ q, H0.size ≤ q → A0 q) (isC isR : List Nat) (hC : isC.map (fun i => wv[i]?) = wc.map some) (hR : isR.map (fun i => wv[i]?) = wr.map some) (hn : va_nd isR = true) (hdis : ∀ i ∈ isR, i ∉ isC)
    (kk : ∀ (u : Sg) (H1 : Heap) (locs1 : List Loc), post u → va_P G vwCl (wr ++ w1 u) H1 → va_D A0 (wr ++ w1 u) → va_S A0 H0 H1 locs1 → W p l e R s m args below meth c H1 locs1 (cells + mc) (slots + ms) Q (F0 m (pc + 3) ls rest)) : W p l e R s m args below meth c H locs cells slots Q (F0 m pc ls st0) := by
  have hF := va_free (wc := wc) hD hS hA isC hC
  refine va_callv hr hS (fun q _ h => hF q h) hF (fun u t H1 locs1 ht hvm hw hB hz hk hS1 => ?_)
  obtain ⟨hP1, -, hD1⟩ := hB
  rw [ht] at hP1
  obtain ⟨hP2, hD2⟩ := va_join hP hD isC isR hC hR hn hdis hk hF hP1 hD1
  exact kk u H1 locs1 hw hP2 hD2 hS1
/-- arrays are made: of the one class of their kind -/
theorem cA_u {G : va_G} {cA : ClassId} {ty : FieldType} {k : Nat} (h : va_K G vwCl (tyL cs ++ [(cA, ty)]) s) (hk : (tyL cs)[k]? = some (cs k, ty)) : cA = cs k := by
  have h5 := (h.2 5 (cA, ty) rfl).2
  have hk2 := (h.2 k (cs k, ty) (by
    have hl : k < (tyL cs).length := (List.getElem?_eq_some_iff.mp hk).1
    rw [List.getElem?_append_left hl]; exact hk)).2
  cases ty with
  | object C =>
    obtain ⟨_, _, _, _, _, e1⟩ := h5
    obtain ⟨_, _, _, _, _, e2⟩ := hk2
    exact Option.some.inj (e1.symm.trans e2)
  | _ => exact Option.some.inj (h5.symm.trans hk2)
end MK
