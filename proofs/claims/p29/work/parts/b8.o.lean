theorem ix_in {i x : Int32} {k : Int32} {L : Nat} (h0 : 0 ≤ i.toInt) (h1 : i.toInt + 6 ≤ (L : Int)) (hL : L ≤ 3072) (ex : x = i + k) (hk0 : 0 ≤ k.toInt) (hk5 : k.toInt ≤ 5) : vp_in x L := by
  subst ex
  exact vpi (x := i.toInt + k.toInt) (add_z rfl rfl (by omega) (by omega)) (by omega) (by omega)
set_option maxHeartbeats 1000000 in
set_option maxRecDepth 100000 in
theorem lw_c_put {p : Program} {e : Env} {s : State} {m : MethodId} {below : List Frame} {meth : Method} {c : Code} (l : Launch) {sb L : Nat} {xs : Nat → Int32} {A : Nat → Prop} (C0 : lw_At p s m meth c sb L xs) (hL : L ≤ 3072) (hA : ∀ q, s.heap.size ≤ q → A q) (hbA : ¬ A sb) {G : va_G} {cs : Nat → ClassId} {xe : XE} (hN : NW s) (hK : va_K G vwCl (tyL cs) s) (hxe : isRf xe.2.2) (hZ : XZ xe A s) {Q : State → Prop} {h0 m0 : Nat} {cells slots : Nat} (hf : cells ≤ 580000 ∧ slots ≤ 7290000) {i : Int32} (hi0 : 0 ≤ i.toInt) (hi1 : i.toInt + 6 ≤ (L : Int)) (K : ∀ (kx : Nat → Int32) (lx : Int32) (tx : Nat → Int32) (zw : Nat → Int) (zU : UL) (zl : Nat → List Cls) (zWI : Nat → Nat → Int) (zLI : Nat → Nat → List Cls) (zft : Int) (zsp : Int) (zmd : Int) (zla : Int) (zrf : Nat → Int32) (zD : ODr) (wx wm : va_W) (H : Heap) (locs : List Loc) (ls : Array Slot), CX cs h0 kx lx tx zw zU zl zWI zLI zft zsp zmd zla zrf zD wx → CM cs m0 kx lx tx zw zU zl zWI zLI zft zsp zmd zla zrf zD wm → va_P G vwCl (wx ++ wm) H → va_D A (wx ++ wm) → va_S A s.heap H locs → lv_has ls 4 [(0, .ref sb), (1, .ref h0), (2, .ref m0), (3, .int i)] → W p l e room_1 s m #[Value.ref sb] below meth c H locs (cells + 3) (slots + 464) Q (F0 m 1456 ls [])) {kx : Nat → Int32} {lx : Int32} {tx : Nat → Int32} {zw : Nat → Int} {zU : UL} {zl : Nat → List Cls} {zWI : Nat → Nat → Int} {zLI : Nat → Nat → List Cls} {zft : Int} {zsp : Int} {zmd : Int} {zla : Int} {zrf : Nat → Int32} {zD : ODr} {wx wm : va_W} {H : Heap} {locs : List Loc} {ls : Array Slot} (hCX : CX cs h0 kx lx tx zw zU zl zWI zLI zft zsp zmd zla zrf zD wx) (hCM : CM cs m0 kx lx tx zw zU zl zWI zLI zft zsp zmd zla zrf zD wm) (hP : va_P G vwCl (wx ++ wm) H) (hD : va_D A (wx ++ wm)) (hS : va_S A s.heap H locs) (hl : lv_has ls 4 [(0, .ref sb), (1, .ref h0), (2, .ref m0), (3, .int i)]) : W p l e room_1 s m #[Value.ref sb] below meth c H locs cells slots Q (F0 m 224 ls []) := by
  obtain ⟨hx, hb, hr, hml, hown, hts, hX, hbl, hlocks, hgv⟩ := id C0
  have hb : c.code = cL_law := hb
  have hown : s.vm.findClass RL = some m.cls := hown
  have htl := gW_l hts
  have hf : cells ≤ 590000 ∧ slots ≤ 7300000 := ⟨by omega, by omega⟩
  refine lv_aload_n hx hb dL_law_224 rfl (lv_at hl 1 rfl) ?_
  refine lv_aload_n hx hb dL_law_225 rfl (lv_at hl 0 rfl) ?_
  refine lv_iload_n hx hb dL_law_226 rfl (lv_at hl 3 rfl) ?_
  refine lv_iconst (v := 1) hx hb dL_law_227 (by decide) ?_
  refine lv_iadd hx hb dL_law_228 ?_
  refine lv_topi (fun ix0 ex0 => ?_)
  refine va_sld hx hb hX hbl hbA hS (ix_in hi0 hi1 hL ex0 (by decide) (by decide)) dL_law_229 ?_
  refine lv_topi (fun a0 ea0 => ?_)
  refine lv_aload_n hx hb dL_law_230 rfl (lv_at hl 0 rfl) ?_
  refine lv_iload_n hx hb dL_law_231 rfl (lv_at hl 3 rfl) ?_
  refine lv_iconst (v := 2) hx hb dL_law_232 (by decide) ?_
  refine lv_iadd hx hb dL_law_233 ?_
  refine lv_topi (fun ix1 ex1 => ?_)
  refine va_sld hx hb hX hbl hbA hS (ix_in hi0 hi1 hL ex1 (by decide) (by decide)) dL_law_234 ?_
  refine lv_topi (fun a1 ea1 => ?_)
  refine lv_aload_n hx hb dL_law_235 rfl (lv_at hl 0 rfl) ?_
  refine lv_iload_n hx hb dL_law_236 rfl (lv_at hl 3 rfl) ?_
  refine lv_iconst (v := 3) hx hb dL_law_237 (by decide) ?_
  refine lv_iadd hx hb dL_law_238 ?_
  refine lv_topi (fun ix2 ex2 => ?_)
  refine va_sld hx hb hX hbl hbA hS (ix_in hi0 hi1 hL ex2 (by decide) (by decide)) dL_law_239 ?_
  refine lv_topi (fun a2 ea2 => ?_)
  refine cx_put l C0 hA hN hK hxe hZ a0 a1 a2 hCX hP hD hS hl.1 hf (fun r wx H locs hans hCX hP hD hS => ?_)
  refine lv_pop hx hb dL_law_243 rfl ?_
  refine lv_aload_n hx hb dL_law_244 rfl (lv_at hl 2 rfl) ?_
  refine lv_aload_n hx hb dL_law_245 rfl (lv_at hl 0 rfl) ?_
  refine lv_iload_n hx hb dL_law_246 rfl (lv_at hl 3 rfl) ?_
  refine lv_iconst (v := 1) hx hb dL_law_247 (by decide) ?_
  refine lv_iadd hx hb dL_law_248 ?_
  refine lv_topi (fun ix3 ex3 => ?_)
  refine va_sld hx hb hX hbl hbA hS (ix_in hi0 hi1 hL ex3 (by decide) (by decide)) dL_law_249 ?_
  refine lv_topi (fun a3 ea3 => ?_)
  refine lv_aload_n hx hb dL_law_250 rfl (lv_at hl 0 rfl) ?_
  refine lv_iload_n hx hb dL_law_251 rfl (lv_at hl 3 rfl) ?_
  refine lv_iconst (v := 2) hx hb dL_law_252 (by decide) ?_
  refine lv_iadd hx hb dL_law_253 ?_
  refine lv_topi (fun ix4 ex4 => ?_)
  refine va_sld hx hb hX hbl hbA hS (ix_in hi0 hi1 hL ex4 (by decide) (by decide)) dL_law_254 ?_
  refine lv_topi (fun a4 ea4 => ?_)
  refine lv_aload_n hx hb dL_law_255 rfl (lv_at hl 0 rfl) ?_
  refine lv_iload_n hx hb dL_law_256 rfl (lv_at hl 3 rfl) ?_
  refine lv_iconst (v := 3) hx hb dL_law_257 (by decide) ?_
  refine lv_iadd hx hb dL_law_258 ?_
  refine lv_topi (fun ix5 ex5 => ?_)
  refine va_sld hx hb hX hbl hbA hS (ix_in hi0 hi1 hL ex5 (by decide) (by decide)) dL_law_259 ?_
  refine lv_topi (fun a5 ea5 => ?_)
  have e_a3 : a3 = a0 := ea3.trans (by rw [ex3, ← ex0]; exact ea0.symm)
  rw [e_a3]
  have e_a4 : a4 = a1 := ea4.trans (by rw [ex4, ← ex1]; exact ea1.symm)
  rw [e_a4]
  have e_a5 : a5 = a2 := ea5.trans (by rw [ex5, ← ex2]; exact ea2.symm)
  rw [e_a5]
  refine cm_put l C0 hA hN hK (Nat.le_of_ble_eq_true rfl) a0 a1 a2 hCM (P_perm List.perm_append_comm hP) (D_perm List.perm_append_comm hD) hS hl.1 hf (fun r2 wm H locs hans2 hCM hP hD hS => ?_)
  replace hP := P_perm List.perm_append_comm hP
  replace hD := D_perm List.perm_append_comm hD
  refine lv_pop hx hb dL_law_263 rfl ?_
  refine lv_goto (tgt := 1456) hx hb dL_law_264 (by decide) ?_
  refine W.widen (k := cells + 3) (n := slots + 464) (by omega) (by omega) ?_
  exact K _ _ _ _ _ _ _ _ _ _ _ _ _ _ wx wm _ _ ls hCX hCM hP hD hS hl

set_option maxHeartbeats 1000000 in
set_option maxRecDepth 100000 in
theorem lw_c_at {p : Program} {e : Env} {s : State} {m : MethodId} {below : List Frame} {meth : Method} {c : Code} (l : Launch) {sb L : Nat} {xs : Nat → Int32} {A : Nat → Prop} (C0 : lw_At p s m meth c sb L xs) (hL : L ≤ 3072) (hA : ∀ q, s.heap.size ≤ q → A q) (hbA : ¬ A sb) {G : va_G} {cs : Nat → ClassId} {xe : XE} (hN : NW s) (hK : va_K G vwCl (tyL cs) s) (hxe : isRf xe.2.2) (hZ : XZ xe A s) {Q : State → Prop} {h0 m0 : Nat} {cells slots : Nat} (hf : cells ≤ 580000 ∧ slots ≤ 7290000) {i : Int32} (hi0 : 0 ≤ i.toInt) (hi1 : i.toInt + 6 ≤ (L : Int)) (K : ∀ (kx : Nat → Int32) (lx : Int32) (tx : Nat → Int32) (zw : Nat → Int) (zU : UL) (zl : Nat → List Cls) (zWI : Nat → Nat → Int) (zLI : Nat → Nat → List Cls) (zft : Int) (zsp : Int) (zmd : Int) (zla : Int) (zrf : Nat → Int32) (zD : ODr) (wx wm : va_W) (H : Heap) (locs : List Loc) (ls : Array Slot), CX cs h0 kx lx tx zw zU zl zWI zLI zft zsp zmd zla zrf zD wx → CM cs m0 kx lx tx zw zU zl zWI zLI zft zsp zmd zla zrf zD wm → va_P G vwCl (wx ++ wm) H → va_D A (wx ++ wm) → va_S A s.heap H locs → lv_has ls 4 [(0, .ref sb), (1, .ref h0), (2, .ref m0), (3, .int i)] → W p l e room_1 s m #[Value.ref sb] below meth c H locs (cells + 3) (slots + 464) Q (F0 m 1456 ls [])) {kx : Nat → Int32} {lx : Int32} {tx : Nat → Int32} {zw : Nat → Int} {zU : UL} {zl : Nat → List Cls} {zWI : Nat → Nat → Int} {zLI : Nat → Nat → List Cls} {zft : Int} {zsp : Int} {zmd : Int} {zla : Int} {zrf : Nat → Int32} {zD : ODr} {wx wm : va_W} {H : Heap} {locs : List Loc} {ls : Array Slot} (hCX : CX cs h0 kx lx tx zw zU zl zWI zLI zft zsp zmd zla zrf zD wx) (hCM : CM cs m0 kx lx tx zw zU zl zWI zLI zft zsp zmd zla zrf zD wm) (hP : va_P G vwCl (wx ++ wm) H) (hD : va_D A (wx ++ wm)) (hS : va_S A s.heap H locs) (hl : lv_has ls 4 [(0, .ref sb), (1, .ref h0), (2, .ref m0), (3, .int i)]) : W p l e room_1 s m #[Value.ref sb] below meth c H locs cells slots Q (F0 m 267 ls []) := by
  obtain ⟨hx, hb, hr, hml, hown, hts, hX, hbl, hlocks, hgv⟩ := id C0
  have hb : c.code = cL_law := hb
  have hown : s.vm.findClass RL = some m.cls := hown
  have htl := gW_l hts
  have hf : cells ≤ 590000 ∧ slots ≤ 7300000 := ⟨by omega, by omega⟩
  refine lv_aload_n hx hb dL_law_267 rfl (lv_at hl 1 rfl) ?_
  refine lv_aload_n hx hb dL_law_268 rfl (lv_at hl 0 rfl) ?_
  refine lv_iload_n hx hb dL_law_269 rfl (lv_at hl 3 rfl) ?_
  refine lv_iconst (v := 1) hx hb dL_law_270 (by decide) ?_
  refine lv_iadd hx hb dL_law_271 ?_
  refine lv_topi (fun ix0 ex0 => ?_)
  refine va_sld hx hb hX hbl hbA hS (ix_in hi0 hi1 hL ex0 (by decide) (by decide)) dL_law_272 ?_
  refine lv_topi (fun a0 ea0 => ?_)
  refine lv_aload_n hx hb dL_law_273 rfl (lv_at hl 0 rfl) ?_
  refine lv_iload_n hx hb dL_law_274 rfl (lv_at hl 3 rfl) ?_
  refine lv_iconst (v := 2) hx hb dL_law_275 (by decide) ?_
  refine lv_iadd hx hb dL_law_276 ?_
  refine lv_topi (fun ix1 ex1 => ?_)
  refine va_sld hx hb hX hbl hbA hS (ix_in hi0 hi1 hL ex1 (by decide) (by decide)) dL_law_277 ?_
  refine lv_topi (fun a1 ea1 => ?_)
  refine cx_at l C0 hA hN hK hxe hZ a0 a1 hCX hP hD hS hl.1 hf (fun r wx H locs hans hCX hP hD hS => ?_)
  refine lv_pop hx hb dL_law_281 rfl ?_
  refine lv_aload_n hx hb dL_law_282 rfl (lv_at hl 2 rfl) ?_
  refine lv_aload_n hx hb dL_law_283 rfl (lv_at hl 0 rfl) ?_
  refine lv_iload_n hx hb dL_law_284 rfl (lv_at hl 3 rfl) ?_
  refine lv_iconst (v := 1) hx hb dL_law_285 (by decide) ?_
  refine lv_iadd hx hb dL_law_286 ?_
  refine lv_topi (fun ix2 ex2 => ?_)
  refine va_sld hx hb hX hbl hbA hS (ix_in hi0 hi1 hL ex2 (by decide) (by decide)) dL_law_287 ?_
  refine lv_topi (fun a2 ea2 => ?_)
  refine lv_aload_n hx hb dL_law_288 rfl (lv_at hl 0 rfl) ?_
  refine lv_iload_n hx hb dL_law_289 rfl (lv_at hl 3 rfl) ?_
  refine lv_iconst (v := 2) hx hb dL_law_290 (by decide) ?_
  refine lv_iadd hx hb dL_law_291 ?_
  refine lv_topi (fun ix3 ex3 => ?_)
  refine va_sld hx hb hX hbl hbA hS (ix_in hi0 hi1 hL ex3 (by decide) (by decide)) dL_law_292 ?_
  refine lv_topi (fun a3 ea3 => ?_)
  have e_a2 : a2 = a0 := ea2.trans (by rw [ex2, ← ex0]; exact ea0.symm)
  rw [e_a2]
  have e_a3 : a3 = a1 := ea3.trans (by rw [ex3, ← ex1]; exact ea1.symm)
  rw [e_a3]
  refine cm_at l C0 hA hN hK (Nat.le_of_ble_eq_true rfl) a0 a1 hCM (P_perm List.perm_append_comm hP) (D_perm List.perm_append_comm hD) hS hl.1 hf (fun r2 wm H locs hans2 hCM hP hD hS => ?_)
  replace hP := P_perm List.perm_append_comm hP
  replace hD := D_perm List.perm_append_comm hD
  refine lv_pop hx hb dL_law_296 rfl ?_
  refine lv_goto (tgt := 1456) hx hb dL_law_297 (by decide) ?_
  refine W.widen (k := cells + 3) (n := slots + 464) (by omega) (by omega) ?_
  exact K _ _ _ _ _ _ _ _ _ _ _ _ _ _ wx wm _ _ ls hCX hCM hP hD hS hl

set_option maxHeartbeats 1000000 in
set_option maxRecDepth 100000 in
theorem lw_c_sink {p : Program} {e : Env} {s : State} {m : MethodId} {below : List Frame} {meth : Method} {c : Code} (l : Launch) {sb L : Nat} {xs : Nat → Int32} {A : Nat → Prop} (C0 : lw_At p s m meth c sb L xs) (hL : L ≤ 3072) (hA : ∀ q, s.heap.size ≤ q → A q) (hbA : ¬ A sb) {G : va_G} {cs : Nat → ClassId} {xe : XE} (hN : NW s) (hK : va_K G vwCl (tyL cs) s) (hxe : isRf xe.2.2) (hZ : XZ xe A s) {Q : State → Prop} {h0 m0 : Nat} {cells slots : Nat} (hf : cells ≤ 580000 ∧ slots ≤ 7290000) {i : Int32} (hi0 : 0 ≤ i.toInt) (hi1 : i.toInt + 6 ≤ (L : Int)) (K : ∀ (kx : Nat → Int32) (lx : Int32) (tx : Nat → Int32) (zw : Nat → Int) (zU : UL) (zl : Nat → List Cls) (zWI : Nat → Nat → Int) (zLI : Nat → Nat → List Cls) (zft : Int) (zsp : Int) (zmd : Int) (zla : Int) (zrf : Nat → Int32) (zD : ODr) (wx wm : va_W) (H : Heap) (locs : List Loc) (ls : Array Slot), CX cs h0 kx lx tx zw zU zl zWI zLI zft zsp zmd zla zrf zD wx → CM cs m0 kx lx tx zw zU zl zWI zLI zft zsp zmd zla zrf zD wm → va_P G vwCl (wx ++ wm) H → va_D A (wx ++ wm) → va_S A s.heap H locs → lv_has ls 4 [(0, .ref sb), (1, .ref h0), (2, .ref m0), (3, .int i)] → W p l e room_1 s m #[Value.ref sb] below meth c H locs (cells + 3) (slots + 464) Q (F0 m 1456 ls [])) {kx : Nat → Int32} {lx : Int32} {tx : Nat → Int32} {zw : Nat → Int} {zU : UL} {zl : Nat → List Cls} {zWI : Nat → Nat → Int} {zLI : Nat → Nat → List Cls} {zft : Int} {zsp : Int} {zmd : Int} {zla : Int} {zrf : Nat → Int32} {zD : ODr} {wx wm : va_W} {H : Heap} {locs : List Loc} {ls : Array Slot} (hCX : CX cs h0 kx lx tx zw zU zl zWI zLI zft zsp zmd zla zrf zD wx) (hCM : CM cs m0 kx lx tx zw zU zl zWI zLI zft zsp zmd zla zrf zD wm) (hP : va_P G vwCl (wx ++ wm) H) (hD : va_D A (wx ++ wm)) (hS : va_S A s.heap H locs) (hl : lv_has ls 4 [(0, .ref sb), (1, .ref h0), (2, .ref m0), (3, .int i)]) : W p l e room_1 s m #[Value.ref sb] below meth c H locs cells slots Q (F0 m 300 ls []) := by
  obtain ⟨hx, hb, hr, hml, hown, hts, hX, hbl, hlocks, hgv⟩ := id C0
  have hb : c.code = cL_law := hb
  have hown : s.vm.findClass RL = some m.cls := hown
  have htl := gW_l hts
  have hf : cells ≤ 590000 ∧ slots ≤ 7300000 := ⟨by omega, by omega⟩
  refine lv_aload_n hx hb dL_law_300 rfl (lv_at hl 1 rfl) ?_
  refine lv_aload_n hx hb dL_law_301 rfl (lv_at hl 0 rfl) ?_
  refine lv_iload_n hx hb dL_law_302 rfl (lv_at hl 3 rfl) ?_
  refine lv_iconst (v := 1) hx hb dL_law_303 (by decide) ?_
  refine lv_iadd hx hb dL_law_304 ?_
  refine lv_topi (fun ix0 ex0 => ?_)
  refine va_sld hx hb hX hbl hbA hS (ix_in hi0 hi1 hL ex0 (by decide) (by decide)) dL_law_305 ?_
  refine lv_topi (fun a0 ea0 => ?_)
  refine cx_sink l C0 hA hN hK hxe hZ a0 hCX hP hD hS hl.1 hf (fun r wx H locs hans hCX hP hD hS => ?_)
  refine lv_pop hx hb dL_law_309 rfl ?_
  refine lv_aload_n hx hb dL_law_310 rfl (lv_at hl 2 rfl) ?_
  refine lv_aload_n hx hb dL_law_311 rfl (lv_at hl 0 rfl) ?_
  refine lv_iload_n hx hb dL_law_312 rfl (lv_at hl 3 rfl) ?_
  refine lv_iconst (v := 1) hx hb dL_law_313 (by decide) ?_
  refine lv_iadd hx hb dL_law_314 ?_
  refine lv_topi (fun ix1 ex1 => ?_)
  refine va_sld hx hb hX hbl hbA hS (ix_in hi0 hi1 hL ex1 (by decide) (by decide)) dL_law_315 ?_
  refine lv_topi (fun a1 ea1 => ?_)
  have e_a1 : a1 = a0 := ea1.trans (by rw [ex1, ← ex0]; exact ea0.symm)
  rw [e_a1]
  refine cm_sink l C0 hA hN hK (Nat.le_of_ble_eq_true rfl) a0 hCM (P_perm List.perm_append_comm hP) (D_perm List.perm_append_comm hD) hS hl.1 hf (fun r2 wm H locs hans2 hCM hP hD hS => ?_)
  replace hP := P_perm List.perm_append_comm hP
  replace hD := D_perm List.perm_append_comm hD
  refine lv_pop hx hb dL_law_319 rfl ?_
  refine lv_goto (tgt := 1456) hx hb dL_law_320 (by decide) ?_
  refine W.widen (k := cells + 3) (n := slots + 464) (by omega) (by omega) ?_
  exact K _ _ _ _ _ _ _ _ _ _ _ _ _ _ wx wm _ _ ls hCX hCM hP hD hS hl

set_option maxHeartbeats 1000000 in
set_option maxRecDepth 100000 in
theorem lw_c_of {p : Program} {e : Env} {s : State} {m : MethodId} {below : List Frame} {meth : Method} {c : Code} (l : Launch) {sb L : Nat} {xs : Nat → Int32} {A : Nat → Prop} (C0 : lw_At p s m meth c sb L xs) (hL : L ≤ 3072) (hA : ∀ q, s.heap.size ≤ q → A q) (hbA : ¬ A sb) {G : va_G} {cs : Nat → ClassId} {xe : XE} (hN : NW s) (hK : va_K G vwCl (tyL cs) s) (hxe : isRf xe.2.2) (hZ : XZ xe A s) {Q : State → Prop} {h0 m0 : Nat} {cells slots : Nat} (hf : cells ≤ 580000 ∧ slots ≤ 7290000) {i : Int32} (hi0 : 0 ≤ i.toInt) (hi1 : i.toInt + 6 ≤ (L : Int)) (K : ∀ (kx : Nat → Int32) (lx : Int32) (tx : Nat → Int32) (zw : Nat → Int) (zU : UL) (zl : Nat → List Cls) (zWI : Nat → Nat → Int) (zLI : Nat → Nat → List Cls) (zft : Int) (zsp : Int) (zmd : Int) (zla : Int) (zrf : Nat → Int32) (zD : ODr) (wx wm : va_W) (H : Heap) (locs : List Loc) (ls : Array Slot), CX cs h0 kx lx tx zw zU zl zWI zLI zft zsp zmd zla zrf zD wx → CM cs m0 kx lx tx zw zU zl zWI zLI zft zsp zmd zla zrf zD wm → va_P G vwCl (wx ++ wm) H → va_D A (wx ++ wm) → va_S A s.heap H locs → lv_has ls 4 [(0, .ref sb), (1, .ref h0), (2, .ref m0), (3, .int i)] → W p l e room_1 s m #[Value.ref sb] below meth c H locs (cells + 3) (slots + 464) Q (F0 m 1456 ls [])) {kx : Nat → Int32} {lx : Int32} {tx : Nat → Int32} {zw : Nat → Int} {zU : UL} {zl : Nat → List Cls} {zWI : Nat → Nat → Int} {zLI : Nat → Nat → List Cls} {zft : Int} {zsp : Int} {zmd : Int} {zla : Int} {zrf : Nat → Int32} {zD : ODr} {wx wm : va_W} {H : Heap} {locs : List Loc} {ls : Array Slot} (hCX : CX cs h0 kx lx tx zw zU zl zWI zLI zft zsp zmd zla zrf zD wx) (hCM : CM cs m0 kx lx tx zw zU zl zWI zLI zft zsp zmd zla zrf zD wm) (hP : va_P G vwCl (wx ++ wm) H) (hD : va_D A (wx ++ wm)) (hS : va_S A s.heap H locs) (hl : lv_has ls 4 [(0, .ref sb), (1, .ref h0), (2, .ref m0), (3, .int i)]) : W p l e room_1 s m #[Value.ref sb] below meth c H locs cells slots Q (F0 m 323 ls []) := by
  obtain ⟨hx, hb, hr, hml, hown, hts, hX, hbl, hlocks, hgv⟩ := id C0
  have hb : c.code = cL_law := hb
  have hown : s.vm.findClass RL = some m.cls := hown
  have htl := gW_l hts
  have hf : cells ≤ 590000 ∧ slots ≤ 7300000 := ⟨by omega, by omega⟩
  refine lv_aload_n hx hb dL_law_323 rfl (lv_at hl 1 rfl) ?_
  refine lv_aload_n hx hb dL_law_324 rfl (lv_at hl 0 rfl) ?_
  refine lv_iload_n hx hb dL_law_325 rfl (lv_at hl 3 rfl) ?_
  refine lv_iconst (v := 1) hx hb dL_law_326 (by decide) ?_
  refine lv_iadd hx hb dL_law_327 ?_
  refine lv_topi (fun ix0 ex0 => ?_)
  refine va_sld hx hb hX hbl hbA hS (ix_in hi0 hi1 hL ex0 (by decide) (by decide)) dL_law_328 ?_
  refine lv_topi (fun a0 ea0 => ?_)
  refine lv_aload_n hx hb dL_law_329 rfl (lv_at hl 0 rfl) ?_
  refine lv_iload_n hx hb dL_law_330 rfl (lv_at hl 3 rfl) ?_
  refine lv_iconst (v := 2) hx hb dL_law_331 (by decide) ?_
  refine lv_iadd hx hb dL_law_332 ?_
  refine lv_topi (fun ix1 ex1 => ?_)
  refine va_sld hx hb hX hbl hbA hS (ix_in hi0 hi1 hL ex1 (by decide) (by decide)) dL_law_333 ?_
  refine lv_topi (fun a1 ea1 => ?_)
  refine cx_of l C0 hA hN hK hxe hZ a0 a1 hCX hP hD hS hl.1 hf (fun r wx H locs hans hCX hP hD hS => ?_)
  refine lv_pop hx hb dL_law_337 rfl ?_
  refine lv_aload_n hx hb dL_law_338 rfl (lv_at hl 2 rfl) ?_
  refine lv_aload_n hx hb dL_law_339 rfl (lv_at hl 0 rfl) ?_
  refine lv_iload_n hx hb dL_law_340 rfl (lv_at hl 3 rfl) ?_
  refine lv_iconst (v := 1) hx hb dL_law_341 (by decide) ?_
  refine lv_iadd hx hb dL_law_342 ?_
  refine lv_topi (fun ix2 ex2 => ?_)
  refine va_sld hx hb hX hbl hbA hS (ix_in hi0 hi1 hL ex2 (by decide) (by decide)) dL_law_343 ?_
  refine lv_topi (fun a2 ea2 => ?_)
  refine lv_aload_n hx hb dL_law_344 rfl (lv_at hl 0 rfl) ?_
  refine lv_iload_n hx hb dL_law_345 rfl (lv_at hl 3 rfl) ?_
  refine lv_iconst (v := 2) hx hb dL_law_346 (by decide) ?_
  refine lv_iadd hx hb dL_law_347 ?_
  refine lv_topi (fun ix3 ex3 => ?_)
  refine va_sld hx hb hX hbl hbA hS (ix_in hi0 hi1 hL ex3 (by decide) (by decide)) dL_law_348 ?_
  refine lv_topi (fun a3 ea3 => ?_)
  have e_a2 : a2 = a0 := ea2.trans (by rw [ex2, ← ex0]; exact ea0.symm)
  rw [e_a2]
  have e_a3 : a3 = a1 := ea3.trans (by rw [ex3, ← ex1]; exact ea1.symm)
  rw [e_a3]
  refine cm_of l C0 hA hN hK (Nat.le_of_ble_eq_true rfl) a0 a1 hCM (P_perm List.perm_append_comm hP) (D_perm List.perm_append_comm hD) hS hl.1 hf (fun r2 wm H locs hans2 hCM hP hD hS => ?_)
  replace hP := P_perm List.perm_append_comm hP
  replace hD := D_perm List.perm_append_comm hD
  refine lv_pop hx hb dL_law_352 rfl ?_
  refine lv_goto (tgt := 1456) hx hb dL_law_353 (by decide) ?_
  refine W.widen (k := cells + 3) (n := slots + 464) (by omega) (by omega) ?_
  exact K _ _ _ _ _ _ _ _ _ _ _ _ _ _ wx wm _ _ ls hCX hCM hP hD hS hl

set_option maxHeartbeats 1000000 in
set_option maxRecDepth 100000 in
theorem lw_c_listener {p : Program} {e : Env} {s : State} {m : MethodId} {below : List Frame} {meth : Method} {c : Code} (l : Launch) {sb L : Nat} {xs : Nat → Int32} {A : Nat → Prop} (C0 : lw_At p s m meth c sb L xs) (hL : L ≤ 3072) (hA : ∀ q, s.heap.size ≤ q → A q) (hbA : ¬ A sb) {G : va_G} {cs : Nat → ClassId} {xe : XE} (hN : NW s) (hK : va_K G vwCl (tyL cs) s) (hxe : isRf xe.2.2) (hZ : XZ xe A s) {Q : State → Prop} {h0 m0 : Nat} {cells slots : Nat} (hf : cells ≤ 580000 ∧ slots ≤ 7290000) {i : Int32} (hi0 : 0 ≤ i.toInt) (hi1 : i.toInt + 6 ≤ (L : Int)) (K : ∀ (kx : Nat → Int32) (lx : Int32) (tx : Nat → Int32) (zw : Nat → Int) (zU : UL) (zl : Nat → List Cls) (zWI : Nat → Nat → Int) (zLI : Nat → Nat → List Cls) (zft : Int) (zsp : Int) (zmd : Int) (zla : Int) (zrf : Nat → Int32) (zD : ODr) (wx wm : va_W) (H : Heap) (locs : List Loc) (ls : Array Slot), CX cs h0 kx lx tx zw zU zl zWI zLI zft zsp zmd zla zrf zD wx → CM cs m0 kx lx tx zw zU zl zWI zLI zft zsp zmd zla zrf zD wm → va_P G vwCl (wx ++ wm) H → va_D A (wx ++ wm) → va_S A s.heap H locs → lv_has ls 4 [(0, .ref sb), (1, .ref h0), (2, .ref m0), (3, .int i)] → W p l e room_1 s m #[Value.ref sb] below meth c H locs (cells + 3) (slots + 464) Q (F0 m 1456 ls [])) {kx : Nat → Int32} {lx : Int32} {tx : Nat → Int32} {zw : Nat → Int} {zU : UL} {zl : Nat → List Cls} {zWI : Nat → Nat → Int} {zLI : Nat → Nat → List Cls} {zft : Int} {zsp : Int} {zmd : Int} {zla : Int} {zrf : Nat → Int32} {zD : ODr} {wx wm : va_W} {H : Heap} {locs : List Loc} {ls : Array Slot} (hCX : CX cs h0 kx lx tx zw zU zl zWI zLI zft zsp zmd zla zrf zD wx) (hCM : CM cs m0 kx lx tx zw zU zl zWI zLI zft zsp zmd zla zrf zD wm) (hP : va_P G vwCl (wx ++ wm) H) (hD : va_D A (wx ++ wm)) (hS : va_S A s.heap H locs) (hl : lv_has ls 4 [(0, .ref sb), (1, .ref h0), (2, .ref m0), (3, .int i)]) : W p l e room_1 s m #[Value.ref sb] below meth c H locs cells slots Q (F0 m 356 ls []) := by
  obtain ⟨hx, hb, hr, hml, hown, hts, hX, hbl, hlocks, hgv⟩ := id C0
  have hb : c.code = cL_law := hb
  have hown : s.vm.findClass RL = some m.cls := hown
  have htl := gW_l hts
  have hf : cells ≤ 590000 ∧ slots ≤ 7300000 := ⟨by omega, by omega⟩
  refine lv_aload_n hx hb dL_law_356 rfl (lv_at hl 1 rfl) ?_
  refine lv_aload_n hx hb dL_law_357 rfl (lv_at hl 0 rfl) ?_
  refine lv_iload_n hx hb dL_law_358 rfl (lv_at hl 3 rfl) ?_
  refine lv_iconst (v := 1) hx hb dL_law_359 (by decide) ?_
  refine lv_iadd hx hb dL_law_360 ?_
  refine lv_topi (fun ix0 ex0 => ?_)
  refine va_sld hx hb hX hbl hbA hS (ix_in hi0 hi1 hL ex0 (by decide) (by decide)) dL_law_361 ?_
  refine lv_topi (fun a0 ea0 => ?_)
  refine lv_aload_n hx hb dL_law_362 rfl (lv_at hl 0 rfl) ?_
  refine lv_iload_n hx hb dL_law_363 rfl (lv_at hl 3 rfl) ?_
  refine lv_iconst (v := 2) hx hb dL_law_364 (by decide) ?_
  refine lv_iadd hx hb dL_law_365 ?_
  refine lv_topi (fun ix1 ex1 => ?_)
  refine va_sld hx hb hX hbl hbA hS (ix_in hi0 hi1 hL ex1 (by decide) (by decide)) dL_law_366 ?_
  refine lv_topi (fun a1 ea1 => ?_)
  refine cx_listener l C0 hA hN hK hxe hZ a0 a1 hCX hP hD hS hl.1 hf (fun r wx H locs hans hCX hP hD hS => ?_)
  refine lv_pop hx hb dL_law_370 rfl ?_
  refine lv_aload_n hx hb dL_law_371 rfl (lv_at hl 2 rfl) ?_
  refine lv_aload_n hx hb dL_law_372 rfl (lv_at hl 0 rfl) ?_
  refine lv_iload_n hx hb dL_law_373 rfl (lv_at hl 3 rfl) ?_
  refine lv_iconst (v := 1) hx hb dL_law_374 (by decide) ?_
  refine lv_iadd hx hb dL_law_375 ?_
  refine lv_topi (fun ix2 ex2 => ?_)
  refine va_sld hx hb hX hbl hbA hS (ix_in hi0 hi1 hL ex2 (by decide) (by decide)) dL_law_376 ?_
  refine lv_topi (fun a2 ea2 => ?_)
  refine lv_aload_n hx hb dL_law_377 rfl (lv_at hl 0 rfl) ?_
  refine lv_iload_n hx hb dL_law_378 rfl (lv_at hl 3 rfl) ?_
  refine lv_iconst (v := 2) hx hb dL_law_379 (by decide) ?_
  refine lv_iadd hx hb dL_law_380 ?_
  refine lv_topi (fun ix3 ex3 => ?_)
  refine va_sld hx hb hX hbl hbA hS (ix_in hi0 hi1 hL ex3 (by decide) (by decide)) dL_law_381 ?_
  refine lv_topi (fun a3 ea3 => ?_)
  have e_a2 : a2 = a0 := ea2.trans (by rw [ex2, ← ex0]; exact ea0.symm)
  rw [e_a2]
  have e_a3 : a3 = a1 := ea3.trans (by rw [ex3, ← ex1]; exact ea1.symm)
  rw [e_a3]
  refine cm_listener l C0 hA hN hK (Nat.le_of_ble_eq_true rfl) a0 a1 hCM (P_perm List.perm_append_comm hP) (D_perm List.perm_append_comm hD) hS hl.1 hf (fun r2 wm H locs hans2 hCM hP hD hS => ?_)
  replace hP := P_perm List.perm_append_comm hP
  replace hD := D_perm List.perm_append_comm hD
  refine lv_pop hx hb dL_law_385 rfl ?_
  refine lv_goto (tgt := 1456) hx hb dL_law_386 (by decide) ?_
  refine W.widen (k := cells + 3) (n := slots + 464) (by omega) (by omega) ?_
  exact K _ _ _ _ _ _ _ _ _ _ _ _ _ _ wx wm _ _ ls hCX hCM hP hD hS hl

set_option maxHeartbeats 1000000 in
set_option maxRecDepth 100000 in
theorem lw_c_noise {p : Program} {e : Env} {s : State} {m : MethodId} {below : List Frame} {meth : Method} {c : Code} (l : Launch) {sb L : Nat} {xs : Nat → Int32} {A : Nat → Prop} (C0 : lw_At p s m meth c sb L xs) (hL : L ≤ 3072) (hA : ∀ q, s.heap.size ≤ q → A q) (hbA : ¬ A sb) {G : va_G} {cs : Nat → ClassId} {xe : XE} (hN : NW s) (hK : va_K G vwCl (tyL cs) s) (hxe : isRf xe.2.2) (hZ : XZ xe A s) {Q : State → Prop} {h0 m0 : Nat} {cells slots : Nat} (hf : cells ≤ 580000 ∧ slots ≤ 7290000) {i : Int32} (hi0 : 0 ≤ i.toInt) (hi1 : i.toInt + 6 ≤ (L : Int)) (K : ∀ (kx : Nat → Int32) (lx : Int32) (tx : Nat → Int32) (zw : Nat → Int) (zU : UL) (zl : Nat → List Cls) (zWI : Nat → Nat → Int) (zLI : Nat → Nat → List Cls) (zft : Int) (zsp : Int) (zmd : Int) (zla : Int) (zrf : Nat → Int32) (zD : ODr) (wx wm : va_W) (H : Heap) (locs : List Loc) (ls : Array Slot), CX cs h0 kx lx tx zw zU zl zWI zLI zft zsp zmd zla zrf zD wx → CM cs m0 kx lx tx zw zU zl zWI zLI zft zsp zmd zla zrf zD wm → va_P G vwCl (wx ++ wm) H → va_D A (wx ++ wm) → va_S A s.heap H locs → lv_has ls 4 [(0, .ref sb), (1, .ref h0), (2, .ref m0), (3, .int i)] → W p l e room_1 s m #[Value.ref sb] below meth c H locs (cells + 3) (slots + 464) Q (F0 m 1456 ls [])) {kx : Nat → Int32} {lx : Int32} {tx : Nat → Int32} {zw : Nat → Int} {zU : UL} {zl : Nat → List Cls} {zWI : Nat → Nat → Int} {zLI : Nat → Nat → List Cls} {zft : Int} {zsp : Int} {zmd : Int} {zla : Int} {zrf : Nat → Int32} {zD : ODr} {wx wm : va_W} {H : Heap} {locs : List Loc} {ls : Array Slot} (hCX : CX cs h0 kx lx tx zw zU zl zWI zLI zft zsp zmd zla zrf zD wx) (hCM : CM cs m0 kx lx tx zw zU zl zWI zLI zft zsp zmd zla zrf zD wm) (hP : va_P G vwCl (wx ++ wm) H) (hD : va_D A (wx ++ wm)) (hS : va_S A s.heap H locs) (hl : lv_has ls 4 [(0, .ref sb), (1, .ref h0), (2, .ref m0), (3, .int i)]) : W p l e room_1 s m #[Value.ref sb] below meth c H locs cells slots Q (F0 m 389 ls []) := by
  obtain ⟨hx, hb, hr, hml, hown, hts, hX, hbl, hlocks, hgv⟩ := id C0
  have hb : c.code = cL_law := hb
  have hown : s.vm.findClass RL = some m.cls := hown
  have htl := gW_l hts
  have hf : cells ≤ 590000 ∧ slots ≤ 7300000 := ⟨by omega, by omega⟩
  refine lv_aload_n hx hb dL_law_389 rfl (lv_at hl 1 rfl) ?_
  refine lv_aload_n hx hb dL_law_390 rfl (lv_at hl 0 rfl) ?_
  refine lv_iload_n hx hb dL_law_391 rfl (lv_at hl 3 rfl) ?_
  refine lv_iconst (v := 1) hx hb dL_law_392 (by decide) ?_
  refine lv_iadd hx hb dL_law_393 ?_
  refine lv_topi (fun ix0 ex0 => ?_)
  refine va_sld hx hb hX hbl hbA hS (ix_in hi0 hi1 hL ex0 (by decide) (by decide)) dL_law_394 ?_
  refine lv_topi (fun a0 ea0 => ?_)
  refine lv_aload_n hx hb dL_law_395 rfl (lv_at hl 0 rfl) ?_
  refine lv_iload_n hx hb dL_law_396 rfl (lv_at hl 3 rfl) ?_
  refine lv_iconst (v := 2) hx hb dL_law_397 (by decide) ?_
  refine lv_iadd hx hb dL_law_398 ?_
  refine lv_topi (fun ix1 ex1 => ?_)
  refine va_sld hx hb hX hbl hbA hS (ix_in hi0 hi1 hL ex1 (by decide) (by decide)) dL_law_399 ?_
  refine lv_topi (fun a1 ea1 => ?_)
  refine cx_noise l C0 hA hN hK hxe hZ a0 a1 hCX hP hD hS hl.1 hf (fun r wx H locs hans hCX hP hD hS => ?_)
  refine lv_pop hx hb dL_law_403 rfl ?_
  refine lv_aload_n hx hb dL_law_404 rfl (lv_at hl 2 rfl) ?_
  refine lv_aload_n hx hb dL_law_405 rfl (lv_at hl 0 rfl) ?_
  refine lv_iload_n hx hb dL_law_406 rfl (lv_at hl 3 rfl) ?_
  refine lv_iconst (v := 1) hx hb dL_law_407 (by decide) ?_
  refine lv_iadd hx hb dL_law_408 ?_
  refine lv_topi (fun ix2 ex2 => ?_)
  refine va_sld hx hb hX hbl hbA hS (ix_in hi0 hi1 hL ex2 (by decide) (by decide)) dL_law_409 ?_
  refine lv_topi (fun a2 ea2 => ?_)
  refine lv_aload_n hx hb dL_law_410 rfl (lv_at hl 0 rfl) ?_
  refine lv_iload_n hx hb dL_law_411 rfl (lv_at hl 3 rfl) ?_
  refine lv_iconst (v := 2) hx hb dL_law_412 (by decide) ?_
  refine lv_iadd hx hb dL_law_413 ?_
  refine lv_topi (fun ix3 ex3 => ?_)
  refine va_sld hx hb hX hbl hbA hS (ix_in hi0 hi1 hL ex3 (by decide) (by decide)) dL_law_414 ?_
  refine lv_topi (fun a3 ea3 => ?_)
  have e_a2 : a2 = a0 := ea2.trans (by rw [ex2, ← ex0]; exact ea0.symm)
  rw [e_a2]
  have e_a3 : a3 = a1 := ea3.trans (by rw [ex3, ← ex1]; exact ea1.symm)
  rw [e_a3]
  refine cm_noise l C0 hA hN hK (Nat.le_of_ble_eq_true rfl) a0 a1 hCM (P_perm List.perm_append_comm hP) (D_perm List.perm_append_comm hD) hS hl.1 hf (fun r2 wm H locs hans2 hCM hP hD hS => ?_)
  replace hP := P_perm List.perm_append_comm hP
  replace hD := D_perm List.perm_append_comm hD
  refine lv_pop hx hb dL_law_418 rfl ?_
  refine lv_goto (tgt := 1456) hx hb dL_law_419 (by decide) ?_
  refine W.widen (k := cells + 3) (n := slots + 464) (by omega) (by omega) ?_
  exact K _ _ _ _ _ _ _ _ _ _ _ _ _ _ wx wm _ _ ls hCX hCM hP hD hS hl

set_option maxHeartbeats 1000000 in
set_option maxRecDepth 100000 in
theorem lw_c_who {p : Program} {e : Env} {s : State} {m : MethodId} {below : List Frame} {meth : Method} {c : Code} (l : Launch) {sb L : Nat} {xs : Nat → Int32} {A : Nat → Prop} (C0 : lw_At p s m meth c sb L xs) (hL : L ≤ 3072) (hA : ∀ q, s.heap.size ≤ q → A q) (hbA : ¬ A sb) {G : va_G} {cs : Nat → ClassId} {xe : XE} (hN : NW s) (hK : va_K G vwCl (tyL cs) s) (hxe : isRf xe.2.2) (hZ : XZ xe A s) {Q : State → Prop} {h0 m0 : Nat} {cells slots : Nat} (hf : cells ≤ 580000 ∧ slots ≤ 7290000) {i : Int32} (hi0 : 0 ≤ i.toInt) (hi1 : i.toInt + 6 ≤ (L : Int)) (K : ∀ (kx : Nat → Int32) (lx : Int32) (tx : Nat → Int32) (zw : Nat → Int) (zU : UL) (zl : Nat → List Cls) (zWI : Nat → Nat → Int) (zLI : Nat → Nat → List Cls) (zft : Int) (zsp : Int) (zmd : Int) (zla : Int) (zrf : Nat → Int32) (zD : ODr) (wx wm : va_W) (H : Heap) (locs : List Loc) (ls : Array Slot), CX cs h0 kx lx tx zw zU zl zWI zLI zft zsp zmd zla zrf zD wx → CM cs m0 kx lx tx zw zU zl zWI zLI zft zsp zmd zla zrf zD wm → va_P G vwCl (wx ++ wm) H → va_D A (wx ++ wm) → va_S A s.heap H locs → lv_has ls 4 [(0, .ref sb), (1, .ref h0), (2, .ref m0), (3, .int i)] → W p l e room_1 s m #[Value.ref sb] below meth c H locs (cells + 3) (slots + 464) Q (F0 m 1456 ls [])) {kx : Nat → Int32} {lx : Int32} {tx : Nat → Int32} {zw : Nat → Int} {zU : UL} {zl : Nat → List Cls} {zWI : Nat → Nat → Int} {zLI : Nat → Nat → List Cls} {zft : Int} {zsp : Int} {zmd : Int} {zla : Int} {zrf : Nat → Int32} {zD : ODr} {wx wm : va_W} {H : Heap} {locs : List Loc} {ls : Array Slot} (hCX : CX cs h0 kx lx tx zw zU zl zWI zLI zft zsp zmd zla zrf zD wx) (hCM : CM cs m0 kx lx tx zw zU zl zWI zLI zft zsp zmd zla zrf zD wm) (hP : va_P G vwCl (wx ++ wm) H) (hD : va_D A (wx ++ wm)) (hS : va_S A s.heap H locs) (hl : lv_has ls 4 [(0, .ref sb), (1, .ref h0), (2, .ref m0), (3, .int i)]) : W p l e room_1 s m #[Value.ref sb] below meth c H locs cells slots Q (F0 m 422 ls []) := by
  obtain ⟨hx, hb, hr, hml, hown, hts, hX, hbl, hlocks, hgv⟩ := id C0
  have hb : c.code = cL_law := hb
  have hown : s.vm.findClass RL = some m.cls := hown
  have htl := gW_l hts
  have hf : cells ≤ 590000 ∧ slots ≤ 7300000 := ⟨by omega, by omega⟩
  refine lv_aload_n hx hb dL_law_422 rfl (lv_at hl 1 rfl) ?_
  refine lv_aload_n hx hb dL_law_423 rfl (lv_at hl 0 rfl) ?_
  refine lv_iload_n hx hb dL_law_424 rfl (lv_at hl 3 rfl) ?_
  refine lv_iconst (v := 1) hx hb dL_law_425 (by decide) ?_
  refine lv_iadd hx hb dL_law_426 ?_
  refine lv_topi (fun ix0 ex0 => ?_)
  refine va_sld hx hb hX hbl hbA hS (ix_in hi0 hi1 hL ex0 (by decide) (by decide)) dL_law_427 ?_
  refine lv_topi (fun a0 ea0 => ?_)
  refine lv_aload_n hx hb dL_law_428 rfl (lv_at hl 0 rfl) ?_
  refine lv_iload_n hx hb dL_law_429 rfl (lv_at hl 3 rfl) ?_
  refine lv_iconst (v := 2) hx hb dL_law_430 (by decide) ?_
  refine lv_iadd hx hb dL_law_431 ?_
  refine lv_topi (fun ix1 ex1 => ?_)
  refine va_sld hx hb hX hbl hbA hS (ix_in hi0 hi1 hL ex1 (by decide) (by decide)) dL_law_432 ?_
  refine lv_topi (fun a1 ea1 => ?_)
  refine cx_who l C0 hA hN hK hxe hZ a0 a1 hCX hP hD hS hl.1 hf (fun r wx H locs hans hCX hP hD hS => ?_)
  refine lv_pop hx hb dL_law_436 rfl ?_
  refine lv_aload_n hx hb dL_law_437 rfl (lv_at hl 2 rfl) ?_
  refine lv_aload_n hx hb dL_law_438 rfl (lv_at hl 0 rfl) ?_
  refine lv_iload_n hx hb dL_law_439 rfl (lv_at hl 3 rfl) ?_
  refine lv_iconst (v := 1) hx hb dL_law_440 (by decide) ?_
  refine lv_iadd hx hb dL_law_441 ?_
  refine lv_topi (fun ix2 ex2 => ?_)
  refine va_sld hx hb hX hbl hbA hS (ix_in hi0 hi1 hL ex2 (by decide) (by decide)) dL_law_442 ?_
  refine lv_topi (fun a2 ea2 => ?_)
  refine lv_aload_n hx hb dL_law_443 rfl (lv_at hl 0 rfl) ?_
  refine lv_iload_n hx hb dL_law_444 rfl (lv_at hl 3 rfl) ?_
  refine lv_iconst (v := 2) hx hb dL_law_445 (by decide) ?_
  refine lv_iadd hx hb dL_law_446 ?_
  refine lv_topi (fun ix3 ex3 => ?_)
  refine va_sld hx hb hX hbl hbA hS (ix_in hi0 hi1 hL ex3 (by decide) (by decide)) dL_law_447 ?_
  refine lv_topi (fun a3 ea3 => ?_)
  have e_a2 : a2 = a0 := ea2.trans (by rw [ex2, ← ex0]; exact ea0.symm)
  rw [e_a2]
  have e_a3 : a3 = a1 := ea3.trans (by rw [ex3, ← ex1]; exact ea1.symm)
  rw [e_a3]
  refine cm_who l C0 hA hN hK (Nat.le_of_ble_eq_true rfl) a0 a1 hCM (P_perm List.perm_append_comm hP) (D_perm List.perm_append_comm hD) hS hl.1 hf (fun r2 wm H locs hans2 hCM hP hD hS => ?_)
  replace hP := P_perm List.perm_append_comm hP
  replace hD := D_perm List.perm_append_comm hD
  refine lv_pop hx hb dL_law_451 rfl ?_
  refine lv_goto (tgt := 1456) hx hb dL_law_452 (by decide) ?_
  refine W.widen (k := cells + 3) (n := slots + 464) (by omega) (by omega) ?_
  exact K _ _ _ _ _ _ _ _ _ _ _ _ _ _ wx wm _ _ ls hCX hCM hP hD hS hl

set_option maxHeartbeats 1000000 in
set_option maxRecDepth 100000 in
theorem lw_c_terms {p : Program} {e : Env} {s : State} {m : MethodId} {below : List Frame} {meth : Method} {c : Code} (l : Launch) {sb L : Nat} {xs : Nat → Int32} {A : Nat → Prop} (C0 : lw_At p s m meth c sb L xs) (hL : L ≤ 3072) (hA : ∀ q, s.heap.size ≤ q → A q) (hbA : ¬ A sb) {G : va_G} {cs : Nat → ClassId} {xe : XE} (hN : NW s) (hK : va_K G vwCl (tyL cs) s) (hxe : isRf xe.2.2) (hZ : XZ xe A s) {Q : State → Prop} {h0 m0 : Nat} {cells slots : Nat} (hf : cells ≤ 580000 ∧ slots ≤ 7290000) {i : Int32} (hi0 : 0 ≤ i.toInt) (hi1 : i.toInt + 6 ≤ (L : Int)) (K : ∀ (kx : Nat → Int32) (lx : Int32) (tx : Nat → Int32) (zw : Nat → Int) (zU : UL) (zl : Nat → List Cls) (zWI : Nat → Nat → Int) (zLI : Nat → Nat → List Cls) (zft : Int) (zsp : Int) (zmd : Int) (zla : Int) (zrf : Nat → Int32) (zD : ODr) (wx wm : va_W) (H : Heap) (locs : List Loc) (ls : Array Slot), CX cs h0 kx lx tx zw zU zl zWI zLI zft zsp zmd zla zrf zD wx → CM cs m0 kx lx tx zw zU zl zWI zLI zft zsp zmd zla zrf zD wm → va_P G vwCl (wx ++ wm) H → va_D A (wx ++ wm) → va_S A s.heap H locs → lv_has ls 4 [(0, .ref sb), (1, .ref h0), (2, .ref m0), (3, .int i)] → W p l e room_1 s m #[Value.ref sb] below meth c H locs (cells + 3) (slots + 464) Q (F0 m 1456 ls [])) {kx : Nat → Int32} {lx : Int32} {tx : Nat → Int32} {zw : Nat → Int} {zU : UL} {zl : Nat → List Cls} {zWI : Nat → Nat → Int} {zLI : Nat → Nat → List Cls} {zft : Int} {zsp : Int} {zmd : Int} {zla : Int} {zrf : Nat → Int32} {zD : ODr} {wx wm : va_W} {H : Heap} {locs : List Loc} {ls : Array Slot} (hCX : CX cs h0 kx lx tx zw zU zl zWI zLI zft zsp zmd zla zrf zD wx) (hCM : CM cs m0 kx lx tx zw zU zl zWI zLI zft zsp zmd zla zrf zD wm) (hP : va_P G vwCl (wx ++ wm) H) (hD : va_D A (wx ++ wm)) (hS : va_S A s.heap H locs) (hl : lv_has ls 4 [(0, .ref sb), (1, .ref h0), (2, .ref m0), (3, .int i)]) : W p l e room_1 s m #[Value.ref sb] below meth c H locs cells slots Q (F0 m 455 ls []) := by
  obtain ⟨hx, hb, hr, hml, hown, hts, hX, hbl, hlocks, hgv⟩ := id C0
  have hb : c.code = cL_law := hb
  have hown : s.vm.findClass RL = some m.cls := hown
  have htl := gW_l hts
  have hf : cells ≤ 590000 ∧ slots ≤ 7300000 := ⟨by omega, by omega⟩
  refine lv_aload_n hx hb dL_law_455 rfl (lv_at hl 1 rfl) ?_
  refine lv_aload_n hx hb dL_law_456 rfl (lv_at hl 0 rfl) ?_
  refine lv_iload_n hx hb dL_law_457 rfl (lv_at hl 3 rfl) ?_
  refine lv_iconst (v := 1) hx hb dL_law_458 (by decide) ?_
  refine lv_iadd hx hb dL_law_459 ?_
  refine lv_topi (fun ix0 ex0 => ?_)
  refine va_sld hx hb hX hbl hbA hS (ix_in hi0 hi1 hL ex0 (by decide) (by decide)) dL_law_460 ?_
  refine lv_topi (fun a0 ea0 => ?_)
  refine lv_aload_n hx hb dL_law_461 rfl (lv_at hl 0 rfl) ?_
  refine lv_iload_n hx hb dL_law_462 rfl (lv_at hl 3 rfl) ?_
  refine lv_iconst (v := 2) hx hb dL_law_463 (by decide) ?_
  refine lv_iadd hx hb dL_law_464 ?_
  refine lv_topi (fun ix1 ex1 => ?_)
  refine va_sld hx hb hX hbl hbA hS (ix_in hi0 hi1 hL ex1 (by decide) (by decide)) dL_law_465 ?_
  refine lv_topi (fun a1 ea1 => ?_)
  refine cx_terms l C0 hA hN hK hxe hZ a0 a1 hCX hP hD hS hl.1 hf (fun r wx H locs hans hCX hP hD hS => ?_)
  refine lv_pop hx hb dL_law_469 rfl ?_
  refine lv_aload_n hx hb dL_law_470 rfl (lv_at hl 2 rfl) ?_
  refine lv_aload_n hx hb dL_law_471 rfl (lv_at hl 0 rfl) ?_
  refine lv_iload_n hx hb dL_law_472 rfl (lv_at hl 3 rfl) ?_
  refine lv_iconst (v := 1) hx hb dL_law_473 (by decide) ?_
  refine lv_iadd hx hb dL_law_474 ?_
  refine lv_topi (fun ix2 ex2 => ?_)
  refine va_sld hx hb hX hbl hbA hS (ix_in hi0 hi1 hL ex2 (by decide) (by decide)) dL_law_475 ?_
  refine lv_topi (fun a2 ea2 => ?_)
  refine lv_aload_n hx hb dL_law_476 rfl (lv_at hl 0 rfl) ?_
  refine lv_iload_n hx hb dL_law_477 rfl (lv_at hl 3 rfl) ?_
  refine lv_iconst (v := 2) hx hb dL_law_478 (by decide) ?_
  refine lv_iadd hx hb dL_law_479 ?_
  refine lv_topi (fun ix3 ex3 => ?_)
  refine va_sld hx hb hX hbl hbA hS (ix_in hi0 hi1 hL ex3 (by decide) (by decide)) dL_law_480 ?_
  refine lv_topi (fun a3 ea3 => ?_)
  have e_a2 : a2 = a0 := ea2.trans (by rw [ex2, ← ex0]; exact ea0.symm)
  rw [e_a2]
  have e_a3 : a3 = a1 := ea3.trans (by rw [ex3, ← ex1]; exact ea1.symm)
  rw [e_a3]
  refine cm_terms l C0 hA hN hK (Nat.le_of_ble_eq_true rfl) a0 a1 hCM (P_perm List.perm_append_comm hP) (D_perm List.perm_append_comm hD) hS hl.1 hf (fun r2 wm H locs hans2 hCM hP hD hS => ?_)
  replace hP := P_perm List.perm_append_comm hP
  replace hD := D_perm List.perm_append_comm hD
  refine lv_pop hx hb dL_law_484 rfl ?_
  refine lv_goto (tgt := 1456) hx hb dL_law_485 (by decide) ?_
  refine W.widen (k := cells + 3) (n := slots + 464) (by omega) (by omega) ?_
  exact K _ _ _ _ _ _ _ _ _ _ _ _ _ _ wx wm _ _ ls hCX hCM hP hD hS hl

set_option maxHeartbeats 1000000 in
set_option maxRecDepth 100000 in
theorem lw_c_feed {p : Program} {e : Env} {s : State} {m : MethodId} {below : List Frame} {meth : Method} {c : Code} (l : Launch) {sb L : Nat} {xs : Nat → Int32} {A : Nat → Prop} (C0 : lw_At p s m meth c sb L xs) (hL : L ≤ 3072) (hA : ∀ q, s.heap.size ≤ q → A q) (hbA : ¬ A sb) {G : va_G} {cs : Nat → ClassId} {xe : XE} (hN : NW s) (hK : va_K G vwCl (tyL cs) s) (hxe : isRf xe.2.2) (hZ : XZ xe A s) {Q : State → Prop} {h0 m0 : Nat} {cells slots : Nat} (hf : cells ≤ 580000 ∧ slots ≤ 7290000) {i : Int32} (hi0 : 0 ≤ i.toInt) (hi1 : i.toInt + 6 ≤ (L : Int)) (K : ∀ (kx : Nat → Int32) (lx : Int32) (tx : Nat → Int32) (zw : Nat → Int) (zU : UL) (zl : Nat → List Cls) (zWI : Nat → Nat → Int) (zLI : Nat → Nat → List Cls) (zft : Int) (zsp : Int) (zmd : Int) (zla : Int) (zrf : Nat → Int32) (zD : ODr) (wx wm : va_W) (H : Heap) (locs : List Loc) (ls : Array Slot), CX cs h0 kx lx tx zw zU zl zWI zLI zft zsp zmd zla zrf zD wx → CM cs m0 kx lx tx zw zU zl zWI zLI zft zsp zmd zla zrf zD wm → va_P G vwCl (wx ++ wm) H → va_D A (wx ++ wm) → va_S A s.heap H locs → lv_has ls 4 [(0, .ref sb), (1, .ref h0), (2, .ref m0), (3, .int i)] → W p l e room_1 s m #[Value.ref sb] below meth c H locs (cells + 3) (slots + 464) Q (F0 m 1456 ls [])) {kx : Nat → Int32} {lx : Int32} {tx : Nat → Int32} {zw : Nat → Int} {zU : UL} {zl : Nat → List Cls} {zWI : Nat → Nat → Int} {zLI : Nat → Nat → List Cls} {zft : Int} {zsp : Int} {zmd : Int} {zla : Int} {zrf : Nat → Int32} {zD : ODr} {wx wm : va_W} {H : Heap} {locs : List Loc} {ls : Array Slot} (hCX : CX cs h0 kx lx tx zw zU zl zWI zLI zft zsp zmd zla zrf zD wx) (hCM : CM cs m0 kx lx tx zw zU zl zWI zLI zft zsp zmd zla zrf zD wm) (hP : va_P G vwCl (wx ++ wm) H) (hD : va_D A (wx ++ wm)) (hS : va_S A s.heap H locs) (hl : lv_has ls 4 [(0, .ref sb), (1, .ref h0), (2, .ref m0), (3, .int i)]) : W p l e room_1 s m #[Value.ref sb] below meth c H locs cells slots Q (F0 m 488 ls []) := by
  obtain ⟨hx, hb, hr, hml, hown, hts, hX, hbl, hlocks, hgv⟩ := id C0
  have hb : c.code = cL_law := hb
  have hown : s.vm.findClass RL = some m.cls := hown
  have htl := gW_l hts
  have hf : cells ≤ 590000 ∧ slots ≤ 7300000 := ⟨by omega, by omega⟩
  refine lv_aload_n hx hb dL_law_488 rfl (lv_at hl 1 rfl) ?_
  refine lv_aload_n hx hb dL_law_489 rfl (lv_at hl 0 rfl) ?_
  refine lv_iload_n hx hb dL_law_490 rfl (lv_at hl 3 rfl) ?_
  refine lv_iconst (v := 1) hx hb dL_law_491 (by decide) ?_
  refine lv_iadd hx hb dL_law_492 ?_
  refine lv_topi (fun ix0 ex0 => ?_)
  refine va_sld hx hb hX hbl hbA hS (ix_in hi0 hi1 hL ex0 (by decide) (by decide)) dL_law_493 ?_
  refine lv_topi (fun a0 ea0 => ?_)
  refine lv_aload_n hx hb dL_law_494 rfl (lv_at hl 0 rfl) ?_
  refine lv_iload_n hx hb dL_law_495 rfl (lv_at hl 3 rfl) ?_
  refine lv_iconst (v := 2) hx hb dL_law_496 (by decide) ?_
  refine lv_iadd hx hb dL_law_497 ?_
  refine lv_topi (fun ix1 ex1 => ?_)
  refine va_sld hx hb hX hbl hbA hS (ix_in hi0 hi1 hL ex1 (by decide) (by decide)) dL_law_498 ?_
  refine lv_topi (fun a1 ea1 => ?_)
  refine lv_aload_n hx hb dL_law_499 rfl (lv_at hl 0 rfl) ?_
  refine lv_iload_n hx hb dL_law_500 rfl (lv_at hl 3 rfl) ?_
  refine lv_iconst (v := 3) hx hb dL_law_501 (by decide) ?_
  refine lv_iadd hx hb dL_law_502 ?_
  refine lv_topi (fun ix2 ex2 => ?_)
  refine va_sld hx hb hX hbl hbA hS (ix_in hi0 hi1 hL ex2 (by decide) (by decide)) dL_law_503 ?_
  refine lv_topi (fun a2 ea2 => ?_)
  refine lv_aload_n hx hb dL_law_504 rfl (lv_at hl 0 rfl) ?_
  refine lv_iload_n hx hb dL_law_505 rfl (lv_at hl 3 rfl) ?_
  refine lv_iconst (v := 4) hx hb dL_law_506 (by decide) ?_
  refine lv_iadd hx hb dL_law_507 ?_
  refine lv_topi (fun ix3 ex3 => ?_)
  refine va_sld hx hb hX hbl hbA hS (ix_in hi0 hi1 hL ex3 (by decide) (by decide)) dL_law_508 ?_
  refine lv_topi (fun a3 ea3 => ?_)
  refine lv_aload_n hx hb dL_law_509 rfl (lv_at hl 0 rfl) ?_
  refine lv_iload_n hx hb dL_law_510 rfl (lv_at hl 3 rfl) ?_
  refine lv_iconst (v := 5) hx hb dL_law_511 (by decide) ?_
  refine lv_iadd hx hb dL_law_512 ?_
  refine lv_topi (fun ix4 ex4 => ?_)
  refine va_sld hx hb hX hbl hbA hS (ix_in hi0 hi1 hL ex4 (by decide) (by decide)) dL_law_513 ?_
  refine lv_topi (fun a4 ea4 => ?_)
  refine cx_feed l C0 hA hN hK hxe hZ a0 a1 a2 a3 a4 hCX hP hD hS hl.1 hf (fun r wx H locs hans hCX hP hD hS => ?_)
  refine lv_pop hx hb dL_law_517 rfl ?_
  refine lv_aload_n hx hb dL_law_518 rfl (lv_at hl 2 rfl) ?_
  refine lv_aload_n hx hb dL_law_519 rfl (lv_at hl 0 rfl) ?_
  refine lv_iload_n hx hb dL_law_520 rfl (lv_at hl 3 rfl) ?_
  refine lv_iconst (v := 1) hx hb dL_law_521 (by decide) ?_
  refine lv_iadd hx hb dL_law_522 ?_
  refine lv_topi (fun ix5 ex5 => ?_)
  refine va_sld hx hb hX hbl hbA hS (ix_in hi0 hi1 hL ex5 (by decide) (by decide)) dL_law_523 ?_
  refine lv_topi (fun a5 ea5 => ?_)
  refine lv_aload_n hx hb dL_law_524 rfl (lv_at hl 0 rfl) ?_
  refine lv_iload_n hx hb dL_law_525 rfl (lv_at hl 3 rfl) ?_
  refine lv_iconst (v := 2) hx hb dL_law_526 (by decide) ?_
  refine lv_iadd hx hb dL_law_527 ?_
  refine lv_topi (fun ix6 ex6 => ?_)
  refine va_sld hx hb hX hbl hbA hS (ix_in hi0 hi1 hL ex6 (by decide) (by decide)) dL_law_528 ?_
  refine lv_topi (fun a6 ea6 => ?_)
  refine lv_aload_n hx hb dL_law_529 rfl (lv_at hl 0 rfl) ?_
  refine lv_iload_n hx hb dL_law_530 rfl (lv_at hl 3 rfl) ?_
  refine lv_iconst (v := 3) hx hb dL_law_531 (by decide) ?_
  refine lv_iadd hx hb dL_law_532 ?_
  refine lv_topi (fun ix7 ex7 => ?_)
  refine va_sld hx hb hX hbl hbA hS (ix_in hi0 hi1 hL ex7 (by decide) (by decide)) dL_law_533 ?_
  refine lv_topi (fun a7 ea7 => ?_)
  refine lv_aload_n hx hb dL_law_534 rfl (lv_at hl 0 rfl) ?_
  refine lv_iload_n hx hb dL_law_535 rfl (lv_at hl 3 rfl) ?_
  refine lv_iconst (v := 4) hx hb dL_law_536 (by decide) ?_
  refine lv_iadd hx hb dL_law_537 ?_
  refine lv_topi (fun ix8 ex8 => ?_)
  refine va_sld hx hb hX hbl hbA hS (ix_in hi0 hi1 hL ex8 (by decide) (by decide)) dL_law_538 ?_
  refine lv_topi (fun a8 ea8 => ?_)
  refine lv_aload_n hx hb dL_law_539 rfl (lv_at hl 0 rfl) ?_
  refine lv_iload_n hx hb dL_law_540 rfl (lv_at hl 3 rfl) ?_
  refine lv_iconst (v := 5) hx hb dL_law_541 (by decide) ?_
  refine lv_iadd hx hb dL_law_542 ?_
  refine lv_topi (fun ix9 ex9 => ?_)
  refine va_sld hx hb hX hbl hbA hS (ix_in hi0 hi1 hL ex9 (by decide) (by decide)) dL_law_543 ?_
  refine lv_topi (fun a9 ea9 => ?_)
  have e_a5 : a5 = a0 := ea5.trans (by rw [ex5, ← ex0]; exact ea0.symm)
  rw [e_a5]
  have e_a6 : a6 = a1 := ea6.trans (by rw [ex6, ← ex1]; exact ea1.symm)
  rw [e_a6]
  have e_a7 : a7 = a2 := ea7.trans (by rw [ex7, ← ex2]; exact ea2.symm)
  rw [e_a7]
  have e_a8 : a8 = a3 := ea8.trans (by rw [ex8, ← ex3]; exact ea3.symm)
  rw [e_a8]
  have e_a9 : a9 = a4 := ea9.trans (by rw [ex9, ← ex4]; exact ea4.symm)
  rw [e_a9]
  refine cm_feed l C0 hA hN hK (Nat.le_of_ble_eq_true rfl) a0 a1 a2 a3 a4 hCM (P_perm List.perm_append_comm hP) (D_perm List.perm_append_comm hD) hS hl.1 hf (fun r2 wm H locs hans2 hCM hP hD hS => ?_)
  replace hP := P_perm List.perm_append_comm hP
  replace hD := D_perm List.perm_append_comm hD
  refine lv_pop hx hb dL_law_547 rfl ?_
  refine lv_goto (tgt := 1456) hx hb dL_law_548 (by decide) ?_
  refine W.widen (k := cells + 3) (n := slots + 464) (by omega) (by omega) ?_
  exact K _ _ _ _ _ _ _ _ _ _ _ _ _ _ wx wm _ _ ls hCX hCM hP hD hS hl

set_option maxHeartbeats 1000000 in
set_option maxRecDepth 100000 in
theorem lw_c_end {p : Program} {e : Env} {s : State} {m : MethodId} {below : List Frame} {meth : Method} {c : Code} (l : Launch) {sb L : Nat} {xs : Nat → Int32} {A : Nat → Prop} (C0 : lw_At p s m meth c sb L xs) (hL : L ≤ 3072) (hA : ∀ q, s.heap.size ≤ q → A q) (hbA : ¬ A sb) {G : va_G} {cs : Nat → ClassId} {xe : XE} (hN : NW s) (hK : va_K G vwCl (tyL cs) s) (hxe : isRf xe.2.2) (hZ : XZ xe A s) {Q : State → Prop} {h0 m0 : Nat} {cells slots : Nat} (hf : cells ≤ 580000 ∧ slots ≤ 7290000) {i : Int32} (hi0 : 0 ≤ i.toInt) (hi1 : i.toInt + 6 ≤ (L : Int)) (K : ∀ (kx : Nat → Int32) (lx : Int32) (tx : Nat → Int32) (zw : Nat → Int) (zU : UL) (zl : Nat → List Cls) (zWI : Nat → Nat → Int) (zLI : Nat → Nat → List Cls) (zft : Int) (zsp : Int) (zmd : Int) (zla : Int) (zrf : Nat → Int32) (zD : ODr) (wx wm : va_W) (H : Heap) (locs : List Loc) (ls : Array Slot), CX cs h0 kx lx tx zw zU zl zWI zLI zft zsp zmd zla zrf zD wx → CM cs m0 kx lx tx zw zU zl zWI zLI zft zsp zmd zla zrf zD wm → va_P G vwCl (wx ++ wm) H → va_D A (wx ++ wm) → va_S A s.heap H locs → lv_has ls 4 [(0, .ref sb), (1, .ref h0), (2, .ref m0), (3, .int i)] → W p l e room_1 s m #[Value.ref sb] below meth c H locs (cells + 3) (slots + 464) Q (F0 m 1456 ls [])) {kx : Nat → Int32} {lx : Int32} {tx : Nat → Int32} {zw : Nat → Int} {zU : UL} {zl : Nat → List Cls} {zWI : Nat → Nat → Int} {zLI : Nat → Nat → List Cls} {zft : Int} {zsp : Int} {zmd : Int} {zla : Int} {zrf : Nat → Int32} {zD : ODr} {wx wm : va_W} {H : Heap} {locs : List Loc} {ls : Array Slot} (hCX : CX cs h0 kx lx tx zw zU zl zWI zLI zft zsp zmd zla zrf zD wx) (hCM : CM cs m0 kx lx tx zw zU zl zWI zLI zft zsp zmd zla zrf zD wm) (hP : va_P G vwCl (wx ++ wm) H) (hD : va_D A (wx ++ wm)) (hS : va_S A s.heap H locs) (hl : lv_has ls 4 [(0, .ref sb), (1, .ref h0), (2, .ref m0), (3, .int i)]) : W p l e room_1 s m #[Value.ref sb] below meth c H locs cells slots Q (F0 m 551 ls []) := by
  obtain ⟨hx, hb, hr, hml, hown, hts, hX, hbl, hlocks, hgv⟩ := id C0
  have hb : c.code = cL_law := hb
  have hown : s.vm.findClass RL = some m.cls := hown
  have htl := gW_l hts
  have hf : cells ≤ 590000 ∧ slots ≤ 7300000 := ⟨by omega, by omega⟩
  refine lv_aload_n hx hb dL_law_551 rfl (lv_at hl 1 rfl) ?_
  refine lv_aload_n hx hb dL_law_552 rfl (lv_at hl 0 rfl) ?_
  refine lv_iload_n hx hb dL_law_553 rfl (lv_at hl 3 rfl) ?_
  refine lv_iconst (v := 1) hx hb dL_law_554 (by decide) ?_
  refine lv_iadd hx hb dL_law_555 ?_
  refine lv_topi (fun ix0 ex0 => ?_)
  refine va_sld hx hb hX hbl hbA hS (ix_in hi0 hi1 hL ex0 (by decide) (by decide)) dL_law_556 ?_
  refine lv_topi (fun a0 ea0 => ?_)
  refine cx_end l C0 hA hN hK hxe hZ a0 hCX hP hD hS hl.1 hf (fun r wx H locs hans hCX hP hD hS => ?_)
  refine lv_pop hx hb dL_law_560 rfl ?_
  refine lv_aload_n hx hb dL_law_561 rfl (lv_at hl 2 rfl) ?_
  refine lv_aload_n hx hb dL_law_562 rfl (lv_at hl 0 rfl) ?_
  refine lv_iload_n hx hb dL_law_563 rfl (lv_at hl 3 rfl) ?_
  refine lv_iconst (v := 1) hx hb dL_law_564 (by decide) ?_
  refine lv_iadd hx hb dL_law_565 ?_
  refine lv_topi (fun ix1 ex1 => ?_)
  refine va_sld hx hb hX hbl hbA hS (ix_in hi0 hi1 hL ex1 (by decide) (by decide)) dL_law_566 ?_
  refine lv_topi (fun a1 ea1 => ?_)
  have e_a1 : a1 = a0 := ea1.trans (by rw [ex1, ← ex0]; exact ea0.symm)
  rw [e_a1]
  refine cm_end l C0 hA hN hK (Nat.le_of_ble_eq_true rfl) a0 hCM (P_perm List.perm_append_comm hP) (D_perm List.perm_append_comm hD) hS hl.1 hf (fun r2 wm H locs hans2 hCM hP hD hS => ?_)
  replace hP := P_perm List.perm_append_comm hP
  replace hD := D_perm List.perm_append_comm hD
  refine lv_pop hx hb dL_law_570 rfl ?_
  refine lv_goto (tgt := 1456) hx hb dL_law_571 (by decide) ?_
  refine W.widen (k := cells + 3) (n := slots + 464) (by omega) (by omega) ?_
  exact K _ _ _ _ _ _ _ _ _ _ _ _ _ _ wx wm _ _ ls hCX hCM hP hD hS hl

set_option maxHeartbeats 1000000 in
set_option maxRecDepth 100000 in
theorem lw_c_row {p : Program} {e : Env} {s : State} {m : MethodId} {below : List Frame} {meth : Method} {c : Code} (l : Launch) {sb L : Nat} {xs : Nat → Int32} {A : Nat → Prop} (C0 : lw_At p s m meth c sb L xs) (hL : L ≤ 3072) (hA : ∀ q, s.heap.size ≤ q → A q) (hbA : ¬ A sb) {G : va_G} {cs : Nat → ClassId} {xe : XE} (hN : NW s) (hK : va_K G vwCl (tyL cs) s) (hxe : isRf xe.2.2) (hZ : XZ xe A s) {Q : State → Prop} {h0 m0 : Nat} {cells slots : Nat} (hf : cells ≤ 580000 ∧ slots ≤ 7290000) {i : Int32} (hi0 : 0 ≤ i.toInt) (hi1 : i.toInt + 6 ≤ (L : Int)) (K : ∀ (kx : Nat → Int32) (lx : Int32) (tx : Nat → Int32) (zw : Nat → Int) (zU : UL) (zl : Nat → List Cls) (zWI : Nat → Nat → Int) (zLI : Nat → Nat → List Cls) (zft : Int) (zsp : Int) (zmd : Int) (zla : Int) (zrf : Nat → Int32) (zD : ODr) (wx wm : va_W) (H : Heap) (locs : List Loc) (ls : Array Slot), CX cs h0 kx lx tx zw zU zl zWI zLI zft zsp zmd zla zrf zD wx → CM cs m0 kx lx tx zw zU zl zWI zLI zft zsp zmd zla zrf zD wm → va_P G vwCl (wx ++ wm) H → va_D A (wx ++ wm) → va_S A s.heap H locs → lv_has ls 4 [(0, .ref sb), (1, .ref h0), (2, .ref m0), (3, .int i)] → W p l e room_1 s m #[Value.ref sb] below meth c H locs (cells + 3) (slots + 464) Q (F0 m 1456 ls [])) {kx : Nat → Int32} {lx : Int32} {tx : Nat → Int32} {zw : Nat → Int} {zU : UL} {zl : Nat → List Cls} {zWI : Nat → Nat → Int} {zLI : Nat → Nat → List Cls} {zft : Int} {zsp : Int} {zmd : Int} {zla : Int} {zrf : Nat → Int32} {zD : ODr} {wx wm : va_W} {H : Heap} {locs : List Loc} {ls : Array Slot} (hCX : CX cs h0 kx lx tx zw zU zl zWI zLI zft zsp zmd zla zrf zD wx) (hCM : CM cs m0 kx lx tx zw zU zl zWI zLI zft zsp zmd zla zrf zD wm) (hP : va_P G vwCl (wx ++ wm) H) (hD : va_D A (wx ++ wm)) (hS : va_S A s.heap H locs) (hl : lv_has ls 4 [(0, .ref sb), (1, .ref h0), (2, .ref m0), (3, .int i)]) : W p l e room_1 s m #[Value.ref sb] below meth c H locs cells slots Q (F0 m 574 ls []) := by
  obtain ⟨hx, hb, hr, hml, hown, hts, hX, hbl, hlocks, hgv⟩ := id C0
  have hb : c.code = cL_law := hb
  have hown : s.vm.findClass RL = some m.cls := hown
  have htl := gW_l hts
  have hf : cells ≤ 590000 ∧ slots ≤ 7300000 := ⟨by omega, by omega⟩
  refine lv_aload_n hx hb dL_law_574 rfl (lv_at hl 1 rfl) ?_
  refine cx_row l C0 hA hN hK hxe hZ  hCX hP hD hS hl.1 hf (fun r wx H locs hans hCX hP hD hS => ?_)
  refine lv_pop hx hb dL_law_578 rfl ?_
  refine lv_aload_n hx hb dL_law_579 rfl (lv_at hl 2 rfl) ?_
  refine cm_row l C0 hA hN hK (Nat.le_of_ble_eq_true rfl)  hCM (P_perm List.perm_append_comm hP) (D_perm List.perm_append_comm hD) hS hl.1 hf (fun r2 wm H locs hans2 hCM hP hD hS => ?_)
  replace hP := P_perm List.perm_append_comm hP
  replace hD := D_perm List.perm_append_comm hD
  refine lv_pop hx hb dL_law_583 rfl ?_
  refine lv_goto (tgt := 1456) hx hb dL_law_584 (by decide) ?_
  refine W.widen (k := cells + 3) (n := slots + 464) (by omega) (by omega) ?_
  exact K _ _ _ _ _ _ _ _ _ _ _ _ _ _ wx wm _ _ ls hCX hCM hP hD hS hl

set_option maxHeartbeats 1000000 in
set_option maxRecDepth 100000 in
theorem lw_c_mud {p : Program} {e : Env} {s : State} {m : MethodId} {below : List Frame} {meth : Method} {c : Code} (l : Launch) {sb L : Nat} {xs : Nat → Int32} {A : Nat → Prop} (C0 : lw_At p s m meth c sb L xs) (hL : L ≤ 3072) (hA : ∀ q, s.heap.size ≤ q → A q) (hbA : ¬ A sb) {G : va_G} {cs : Nat → ClassId} {xe : XE} (hN : NW s) (hK : va_K G vwCl (tyL cs) s) (hxe : isRf xe.2.2) (hZ : XZ xe A s) {Q : State → Prop} {h0 m0 : Nat} {cells slots : Nat} (hf : cells ≤ 580000 ∧ slots ≤ 7290000) {i : Int32} (hi0 : 0 ≤ i.toInt) (hi1 : i.toInt + 6 ≤ (L : Int)) (K : ∀ (kx : Nat → Int32) (lx : Int32) (tx : Nat → Int32) (zw : Nat → Int) (zU : UL) (zl : Nat → List Cls) (zWI : Nat → Nat → Int) (zLI : Nat → Nat → List Cls) (zft : Int) (zsp : Int) (zmd : Int) (zla : Int) (zrf : Nat → Int32) (zD : ODr) (wx wm : va_W) (H : Heap) (locs : List Loc) (ls : Array Slot), CX cs h0 kx lx tx zw zU zl zWI zLI zft zsp zmd zla zrf zD wx → CM cs m0 kx lx tx zw zU zl zWI zLI zft zsp zmd zla zrf zD wm → va_P G vwCl (wx ++ wm) H → va_D A (wx ++ wm) → va_S A s.heap H locs → lv_has ls 4 [(0, .ref sb), (1, .ref h0), (2, .ref m0), (3, .int i)] → W p l e room_1 s m #[Value.ref sb] below meth c H locs (cells + 3) (slots + 464) Q (F0 m 1456 ls [])) {kx : Nat → Int32} {lx : Int32} {tx : Nat → Int32} {zw : Nat → Int} {zU : UL} {zl : Nat → List Cls} {zWI : Nat → Nat → Int} {zLI : Nat → Nat → List Cls} {zft : Int} {zsp : Int} {zmd : Int} {zla : Int} {zrf : Nat → Int32} {zD : ODr} {wx wm : va_W} {H : Heap} {locs : List Loc} {ls : Array Slot} (hCX : CX cs h0 kx lx tx zw zU zl zWI zLI zft zsp zmd zla zrf zD wx) (hCM : CM cs m0 kx lx tx zw zU zl zWI zLI zft zsp zmd zla zrf zD wm) (hP : va_P G vwCl (wx ++ wm) H) (hD : va_D A (wx ++ wm)) (hS : va_S A s.heap H locs) (hl : lv_has ls 4 [(0, .ref sb), (1, .ref h0), (2, .ref m0), (3, .int i)]) : W p l e room_1 s m #[Value.ref sb] below meth c H locs cells slots Q (F0 m 587 ls []) := by
  obtain ⟨hx, hb, hr, hml, hown, hts, hX, hbl, hlocks, hgv⟩ := id C0
  have hb : c.code = cL_law := hb
  have hown : s.vm.findClass RL = some m.cls := hown
  have htl := gW_l hts
  have hf : cells ≤ 590000 ∧ slots ≤ 7300000 := ⟨by omega, by omega⟩
  refine lv_aload_n hx hb dL_law_587 rfl (lv_at hl 1 rfl) ?_
  refine cx_mud l C0 hA hN hK hxe hZ  hCX hP hD hS hl.1 hf (fun r wx H locs hans hCX hP hD hS => ?_)
  refine lv_pop hx hb dL_law_591 rfl ?_
  refine lv_aload_n hx hb dL_law_592 rfl (lv_at hl 2 rfl) ?_
  refine cm_mud l C0 hA hN hK (Nat.le_of_ble_eq_true rfl)  hCM (P_perm List.perm_append_comm hP) (D_perm List.perm_append_comm hD) hS hl.1 hf (fun r2 wm H locs hans2 hCM hP hD hS => ?_)
  replace hP := P_perm List.perm_append_comm hP
  replace hD := D_perm List.perm_append_comm hD
  refine lv_pop hx hb dL_law_596 rfl ?_
  refine lv_goto (tgt := 1456) hx hb dL_law_597 (by decide) ?_
  refine W.widen (k := cells + 3) (n := slots + 464) (by omega) (by omega) ?_
  exact K _ _ _ _ _ _ _ _ _ _ _ _ _ _ wx wm _ _ ls hCX hCM hP hD hS hl

set_option maxHeartbeats 1000000 in
set_option maxRecDepth 100000 in
theorem lw_c_law {p : Program} {e : Env} {s : State} {m : MethodId} {below : List Frame} {meth : Method} {c : Code} (l : Launch) {sb L : Nat} {xs : Nat → Int32} {A : Nat → Prop} (C0 : lw_At p s m meth c sb L xs) (hL : L ≤ 3072) (hA : ∀ q, s.heap.size ≤ q → A q) (hbA : ¬ A sb) {G : va_G} {cs : Nat → ClassId} {xe : XE} (hN : NW s) (hK : va_K G vwCl (tyL cs) s) (hxe : isRf xe.2.2) (hZ : XZ xe A s) {Q : State → Prop} {h0 m0 : Nat} {cells slots : Nat} (hf : cells ≤ 580000 ∧ slots ≤ 7290000) {i : Int32} (hi0 : 0 ≤ i.toInt) (hi1 : i.toInt + 6 ≤ (L : Int)) (K : ∀ (kx : Nat → Int32) (lx : Int32) (tx : Nat → Int32) (zw : Nat → Int) (zU : UL) (zl : Nat → List Cls) (zWI : Nat → Nat → Int) (zLI : Nat → Nat → List Cls) (zft : Int) (zsp : Int) (zmd : Int) (zla : Int) (zrf : Nat → Int32) (zD : ODr) (wx wm : va_W) (H : Heap) (locs : List Loc) (ls : Array Slot), CX cs h0 kx lx tx zw zU zl zWI zLI zft zsp zmd zla zrf zD wx → CM cs m0 kx lx tx zw zU zl zWI zLI zft zsp zmd zla zrf zD wm → va_P G vwCl (wx ++ wm) H → va_D A (wx ++ wm) → va_S A s.heap H locs → lv_has ls 4 [(0, .ref sb), (1, .ref h0), (2, .ref m0), (3, .int i)] → W p l e room_1 s m #[Value.ref sb] below meth c H locs (cells + 3) (slots + 464) Q (F0 m 1456 ls [])) {kx : Nat → Int32} {lx : Int32} {tx : Nat → Int32} {zw : Nat → Int} {zU : UL} {zl : Nat → List Cls} {zWI : Nat → Nat → Int} {zLI : Nat → Nat → List Cls} {zft : Int} {zsp : Int} {zmd : Int} {zla : Int} {zrf : Nat → Int32} {zD : ODr} {wx wm : va_W} {H : Heap} {locs : List Loc} {ls : Array Slot} (hCX : CX cs h0 kx lx tx zw zU zl zWI zLI zft zsp zmd zla zrf zD wx) (hCM : CM cs m0 kx lx tx zw zU zl zWI zLI zft zsp zmd zla zrf zD wm) (hP : va_P G vwCl (wx ++ wm) H) (hD : va_D A (wx ++ wm)) (hS : va_S A s.heap H locs) (hl : lv_has ls 4 [(0, .ref sb), (1, .ref h0), (2, .ref m0), (3, .int i)]) : W p l e room_1 s m #[Value.ref sb] below meth c H locs cells slots Q (F0 m 600 ls []) := by
  obtain ⟨hx, hb, hr, hml, hown, hts, hX, hbl, hlocks, hgv⟩ := id C0
  have hb : c.code = cL_law := hb
  have hown : s.vm.findClass RL = some m.cls := hown
  have htl := gW_l hts
  have hf : cells ≤ 590000 ∧ slots ≤ 7300000 := ⟨by omega, by omega⟩
  refine lv_aload_n hx hb dL_law_600 rfl (lv_at hl 1 rfl) ?_
  have hlen := CX_len hCX
  obtain ⟨n, hn⟩ : ∃ n : Nat, lx.toInt = (n : Int) := ⟨lx.toInt.toNat, by omega⟩
  obtain ⟨st, en, T, hlex⟩ := Lex.ex tx n (fun r hr => CX_by hCX r (by omega))
  refine cx_law l C0 hA hN hK hxe hZ  hlex hn hCX hP hD hS hl.1 hf (fun r wx H locs hans hCX hP hD hS => ?_)
  refine lv_pop hx hb dL_law_604 rfl ?_
  refine lv_aload_n hx hb dL_law_605 rfl (lv_at hl 2 rfl) ?_
  refine cm_law l C0 hA hN hK (Nat.le_of_ble_eq_true rfl)  hlex hn hCM (P_perm List.perm_append_comm hP) (D_perm List.perm_append_comm hD) hS hl.1 (⟨by omega, by omega⟩) (fun r2 wm H locs hans2 hCM hP hD hS => ?_)
  replace hP := P_perm List.perm_append_comm hP
  replace hD := D_perm List.perm_append_comm hD
  refine lv_pop hx hb dL_law_609 rfl ?_
  refine lv_goto (tgt := 1456) hx hb dL_law_610 (by decide) ?_
  exact K _ _ _ _ _ _ _ _ _ _ _ _ _ _ wx wm _ _ ls hCX hCM hP hD hS hl

set_option maxHeartbeats 1000000 in
set_option maxRecDepth 100000 in
theorem lw_c_orders {p : Program} {e : Env} {s : State} {m : MethodId} {below : List Frame} {meth : Method} {c : Code} (l : Launch) {sb L : Nat} {xs : Nat → Int32} {A : Nat → Prop} (C0 : lw_At p s m meth c sb L xs) (hL : L ≤ 3072) (hA : ∀ q, s.heap.size ≤ q → A q) (hbA : ¬ A sb) {G : va_G} {cs : Nat → ClassId} {xe : XE} (hN : NW s) (hK : va_K G vwCl (tyL cs) s) (hxe : isRf xe.2.2) (hZ : XZ xe A s) {Q : State → Prop} {h0 m0 : Nat} {cells slots : Nat} (hf : cells ≤ 580000 ∧ slots ≤ 7290000) {i : Int32} (hi0 : 0 ≤ i.toInt) (hi1 : i.toInt + 6 ≤ (L : Int)) (K : ∀ (kx : Nat → Int32) (lx : Int32) (tx : Nat → Int32) (zw : Nat → Int) (zU : UL) (zl : Nat → List Cls) (zWI : Nat → Nat → Int) (zLI : Nat → Nat → List Cls) (zft : Int) (zsp : Int) (zmd : Int) (zla : Int) (zrf : Nat → Int32) (zD : ODr) (wx wm : va_W) (H : Heap) (locs : List Loc) (ls : Array Slot), CX cs h0 kx lx tx zw zU zl zWI zLI zft zsp zmd zla zrf zD wx → CM cs m0 kx lx tx zw zU zl zWI zLI zft zsp zmd zla zrf zD wm → va_P G vwCl (wx ++ wm) H → va_D A (wx ++ wm) → va_S A s.heap H locs → lv_has ls 4 [(0, .ref sb), (1, .ref h0), (2, .ref m0), (3, .int i)] → W p l e room_1 s m #[Value.ref sb] below meth c H locs (cells + 3) (slots + 464) Q (F0 m 1456 ls [])) {kx : Nat → Int32} {lx : Int32} {tx : Nat → Int32} {zw : Nat → Int} {zU : UL} {zl : Nat → List Cls} {zWI : Nat → Nat → Int} {zLI : Nat → Nat → List Cls} {zft : Int} {zsp : Int} {zmd : Int} {zla : Int} {zrf : Nat → Int32} {zD : ODr} {wx wm : va_W} {H : Heap} {locs : List Loc} {ls : Array Slot} (hCX : CX cs h0 kx lx tx zw zU zl zWI zLI zft zsp zmd zla zrf zD wx) (hCM : CM cs m0 kx lx tx zw zU zl zWI zLI zft zsp zmd zla zrf zD wm) (hP : va_P G vwCl (wx ++ wm) H) (hD : va_D A (wx ++ wm)) (hS : va_S A s.heap H locs) (hl : lv_has ls 4 [(0, .ref sb), (1, .ref h0), (2, .ref m0), (3, .int i)]) : W p l e room_1 s m #[Value.ref sb] below meth c H locs cells slots Q (F0 m 613 ls []) := by
  obtain ⟨hx, hb, hr, hml, hown, hts, hX, hbl, hlocks, hgv⟩ := id C0
  have hb : c.code = cL_law := hb
  have hown : s.vm.findClass RL = some m.cls := hown
  have htl := gW_l hts
  have hf : cells ≤ 590000 ∧ slots ≤ 7300000 := ⟨by omega, by omega⟩
  refine lv_aload_n hx hb dL_law_613 rfl (lv_at hl 1 rfl) ?_
  have hlen := CX_len hCX
  obtain ⟨n, hn⟩ : ∃ n : Nat, lx.toInt = (n : Int) := ⟨lx.toInt.toNat, by omega⟩
  obtain ⟨st, en, T, hlex⟩ := Lex.ex tx n (fun r hr => CX_by hCX r (by omega))
  refine cx_orders l C0 hA hN hK hxe hZ  hlex hn hCX hP hD hS hl.1 hf (fun r wx H locs hans hCX hP hD hS => ?_)
  refine lv_pop hx hb dL_law_617 rfl ?_
  refine lv_aload_n hx hb dL_law_618 rfl (lv_at hl 2 rfl) ?_
  refine cm_orders l C0 hA hN hK (Nat.le_of_ble_eq_true rfl)  hlex hn hCM (P_perm List.perm_append_comm hP) (D_perm List.perm_append_comm hD) hS hl.1 hf (fun r2 wm H locs hans2 hCM hP hD hS => ?_)
  replace hP := P_perm List.perm_append_comm hP
  replace hD := D_perm List.perm_append_comm hD
  refine lv_pop hx hb dL_law_622 rfl ?_
  refine lv_goto (tgt := 1456) hx hb dL_law_623 (by decide) ?_
  refine W.widen (k := cells + 3) (n := slots + 464) (by omega) (by omega) ?_
  exact K _ _ _ _ _ _ _ _ _ _ _ _ _ _ wx wm _ _ ls hCX hCM hP hD hS hl

set_option maxHeartbeats 1000000 in
set_option maxRecDepth 100000 in
theorem lw_c_fault {p : Program} {e : Env} {s : State} {m : MethodId} {below : List Frame} {meth : Method} {c : Code} (l : Launch) {sb L : Nat} {xs : Nat → Int32} {A : Nat → Prop} (C0 : lw_At p s m meth c sb L xs) (hL : L ≤ 3072) (hA : ∀ q, s.heap.size ≤ q → A q) (hbA : ¬ A sb) {G : va_G} {cs : Nat → ClassId} {xe : XE} (hN : NW s) (hK : va_K G vwCl (tyL cs) s) (hxe : isRf xe.2.2) (hZ : XZ xe A s) {Q : State → Prop} {h0 m0 : Nat} {cells slots : Nat} (hf : cells ≤ 580000 ∧ slots ≤ 7290000) {i : Int32} (hi0 : 0 ≤ i.toInt) (hi1 : i.toInt + 6 ≤ (L : Int)) (K : ∀ (kx : Nat → Int32) (lx : Int32) (tx : Nat → Int32) (zw : Nat → Int) (zU : UL) (zl : Nat → List Cls) (zWI : Nat → Nat → Int) (zLI : Nat → Nat → List Cls) (zft : Int) (zsp : Int) (zmd : Int) (zla : Int) (zrf : Nat → Int32) (zD : ODr) (wx wm : va_W) (H : Heap) (locs : List Loc) (ls : Array Slot), CX cs h0 kx lx tx zw zU zl zWI zLI zft zsp zmd zla zrf zD wx → CM cs m0 kx lx tx zw zU zl zWI zLI zft zsp zmd zla zrf zD wm → va_P G vwCl (wx ++ wm) H → va_D A (wx ++ wm) → va_S A s.heap H locs → lv_has ls 4 [(0, .ref sb), (1, .ref h0), (2, .ref m0), (3, .int i)] → W p l e room_1 s m #[Value.ref sb] below meth c H locs (cells + 3) (slots + 464) Q (F0 m 1456 ls [])) {kx : Nat → Int32} {lx : Int32} {tx : Nat → Int32} {zw : Nat → Int} {zU : UL} {zl : Nat → List Cls} {zWI : Nat → Nat → Int} {zLI : Nat → Nat → List Cls} {zft : Int} {zsp : Int} {zmd : Int} {zla : Int} {zrf : Nat → Int32} {zD : ODr} {wx wm : va_W} {H : Heap} {locs : List Loc} {ls : Array Slot} (hCX : CX cs h0 kx lx tx zw zU zl zWI zLI zft zsp zmd zla zrf zD wx) (hCM : CM cs m0 kx lx tx zw zU zl zWI zLI zft zsp zmd zla zrf zD wm) (hP : va_P G vwCl (wx ++ wm) H) (hD : va_D A (wx ++ wm)) (hS : va_S A s.heap H locs) (hl : lv_has ls 4 [(0, .ref sb), (1, .ref h0), (2, .ref m0), (3, .int i)]) : W p l e room_1 s m #[Value.ref sb] below meth c H locs cells slots Q (F0 m 626 ls []) := by
  obtain ⟨hx, hb, hr, hml, hown, hts, hX, hbl, hlocks, hgv⟩ := id C0
  have hb : c.code = cL_law := hb
  have hown : s.vm.findClass RL = some m.cls := hown
  have htl := gW_l hts
  have hf : cells ≤ 590000 ∧ slots ≤ 7300000 := ⟨by omega, by omega⟩
  refine lv_aload_n hx hb dL_law_626 rfl (lv_at hl 1 rfl) ?_
  refine cx_fault l C0 hA hN hK hxe hZ  hCX hP hD hS hl.1 hf (fun r wx H locs hans hCX hP hD hS => ?_)
  refine lv_pop hx hb dL_law_630 rfl ?_
  refine lv_aload_n hx hb dL_law_631 rfl (lv_at hl 2 rfl) ?_
  refine cm_fault l C0 hA hN hK (Nat.le_of_ble_eq_true rfl)  hCM (P_perm List.perm_append_comm hP) (D_perm List.perm_append_comm hD) hS hl.1 hf (fun r2 wm H locs hans2 hCM hP hD hS => ?_)
  replace hP := P_perm List.perm_append_comm hP
  replace hD := D_perm List.perm_append_comm hD
  refine lv_pop hx hb dL_law_635 rfl ?_
  refine lv_goto (tgt := 1456) hx hb dL_law_636 (by decide) ?_
  refine W.widen (k := cells + 3) (n := slots + 464) (by omega) (by omega) ?_
  exact K _ _ _ _ _ _ _ _ _ _ _ _ _ _ wx wm _ _ ls hCX hCM hP hD hS hl

set_option maxHeartbeats 1000000 in
set_option maxRecDepth 100000 in
theorem lw_c_stopped {p : Program} {e : Env} {s : State} {m : MethodId} {below : List Frame} {meth : Method} {c : Code} (l : Launch) {sb L : Nat} {xs : Nat → Int32} {A : Nat → Prop} (C0 : lw_At p s m meth c sb L xs) (hL : L ≤ 3072) (hA : ∀ q, s.heap.size ≤ q → A q) (hbA : ¬ A sb) {G : va_G} {cs : Nat → ClassId} {xe : XE} (hN : NW s) (hK : va_K G vwCl (tyL cs) s) (hxe : isRf xe.2.2) (hZ : XZ xe A s) {Q : State → Prop} {h0 m0 : Nat} {cells slots : Nat} (hf : cells ≤ 580000 ∧ slots ≤ 7290000) {i : Int32} (hi0 : 0 ≤ i.toInt) (hi1 : i.toInt + 6 ≤ (L : Int)) (K : ∀ (kx : Nat → Int32) (lx : Int32) (tx : Nat → Int32) (zw : Nat → Int) (zU : UL) (zl : Nat → List Cls) (zWI : Nat → Nat → Int) (zLI : Nat → Nat → List Cls) (zft : Int) (zsp : Int) (zmd : Int) (zla : Int) (zrf : Nat → Int32) (zD : ODr) (wx wm : va_W) (H : Heap) (locs : List Loc) (ls : Array Slot), CX cs h0 kx lx tx zw zU zl zWI zLI zft zsp zmd zla zrf zD wx → CM cs m0 kx lx tx zw zU zl zWI zLI zft zsp zmd zla zrf zD wm → va_P G vwCl (wx ++ wm) H → va_D A (wx ++ wm) → va_S A s.heap H locs → lv_has ls 4 [(0, .ref sb), (1, .ref h0), (2, .ref m0), (3, .int i)] → W p l e room_1 s m #[Value.ref sb] below meth c H locs (cells + 3) (slots + 464) Q (F0 m 1456 ls [])) {kx : Nat → Int32} {lx : Int32} {tx : Nat → Int32} {zw : Nat → Int} {zU : UL} {zl : Nat → List Cls} {zWI : Nat → Nat → Int} {zLI : Nat → Nat → List Cls} {zft : Int} {zsp : Int} {zmd : Int} {zla : Int} {zrf : Nat → Int32} {zD : ODr} {wx wm : va_W} {H : Heap} {locs : List Loc} {ls : Array Slot} (hCX : CX cs h0 kx lx tx zw zU zl zWI zLI zft zsp zmd zla zrf zD wx) (hCM : CM cs m0 kx lx tx zw zU zl zWI zLI zft zsp zmd zla zrf zD wm) (hP : va_P G vwCl (wx ++ wm) H) (hD : va_D A (wx ++ wm)) (hS : va_S A s.heap H locs) (hl : lv_has ls 4 [(0, .ref sb), (1, .ref h0), (2, .ref m0), (3, .int i)]) : W p l e room_1 s m #[Value.ref sb] below meth c H locs cells slots Q (F0 m 639 ls []) := by
  obtain ⟨hx, hb, hr, hml, hown, hts, hX, hbl, hlocks, hgv⟩ := id C0
  have hb : c.code = cL_law := hb
  have hown : s.vm.findClass RL = some m.cls := hown
  have htl := gW_l hts
  have hf : cells ≤ 590000 ∧ slots ≤ 7300000 := ⟨by omega, by omega⟩
  refine lv_aload_n hx hb dL_law_639 rfl (lv_at hl 1 rfl) ?_
  refine cx_stopped l C0 hA hN hK hxe hZ  hCX hP hD hS hl.1 hf (fun r wx H locs hans hCX hP hD hS => ?_)
  refine lv_pop hx hb dL_law_643 rfl ?_
  refine lv_aload_n hx hb dL_law_644 rfl (lv_at hl 2 rfl) ?_
  refine cm_stopped l C0 hA hN hK (Nat.le_of_ble_eq_true rfl)  hCM (P_perm List.perm_append_comm hP) (D_perm List.perm_append_comm hD) hS hl.1 hf (fun r2 wm H locs hans2 hCM hP hD hS => ?_)
  replace hP := P_perm List.perm_append_comm hP
  replace hD := D_perm List.perm_append_comm hD
  refine lv_pop hx hb dL_law_648 rfl ?_
  refine lv_goto (tgt := 1456) hx hb dL_law_649 (by decide) ?_
  refine W.widen (k := cells + 3) (n := slots + 464) (by omega) (by omega) ?_
  exact K _ _ _ _ _ _ _ _ _ _ _ _ _ _ wx wm _ _ ls hCX hCM hP hD hS hl

set_option maxHeartbeats 1000000 in
set_option maxRecDepth 100000 in
theorem lw_c_force {p : Program} {e : Env} {s : State} {m : MethodId} {below : List Frame} {meth : Method} {c : Code} (l : Launch) {sb L : Nat} {xs : Nat → Int32} {A : Nat → Prop} (C0 : lw_At p s m meth c sb L xs) (hL : L ≤ 3072) (hA : ∀ q, s.heap.size ≤ q → A q) (hbA : ¬ A sb) {G : va_G} {cs : Nat → ClassId} {xe : XE} (hN : NW s) (hK : va_K G vwCl (tyL cs) s) (hxe : isRf xe.2.2) (hZ : XZ xe A s) {Q : State → Prop} {h0 m0 : Nat} {cells slots : Nat} (hf : cells ≤ 580000 ∧ slots ≤ 7290000) {i : Int32} (hi0 : 0 ≤ i.toInt) (hi1 : i.toInt + 6 ≤ (L : Int)) (K : ∀ (kx : Nat → Int32) (lx : Int32) (tx : Nat → Int32) (zw : Nat → Int) (zU : UL) (zl : Nat → List Cls) (zWI : Nat → Nat → Int) (zLI : Nat → Nat → List Cls) (zft : Int) (zsp : Int) (zmd : Int) (zla : Int) (zrf : Nat → Int32) (zD : ODr) (wx wm : va_W) (H : Heap) (locs : List Loc) (ls : Array Slot), CX cs h0 kx lx tx zw zU zl zWI zLI zft zsp zmd zla zrf zD wx → CM cs m0 kx lx tx zw zU zl zWI zLI zft zsp zmd zla zrf zD wm → va_P G vwCl (wx ++ wm) H → va_D A (wx ++ wm) → va_S A s.heap H locs → lv_has ls 4 [(0, .ref sb), (1, .ref h0), (2, .ref m0), (3, .int i)] → W p l e room_1 s m #[Value.ref sb] below meth c H locs (cells + 3) (slots + 464) Q (F0 m 1456 ls [])) {kx : Nat → Int32} {lx : Int32} {tx : Nat → Int32} {zw : Nat → Int} {zU : UL} {zl : Nat → List Cls} {zWI : Nat → Nat → Int} {zLI : Nat → Nat → List Cls} {zft : Int} {zsp : Int} {zmd : Int} {zla : Int} {zrf : Nat → Int32} {zD : ODr} {wx wm : va_W} {H : Heap} {locs : List Loc} {ls : Array Slot} (hCX : CX cs h0 kx lx tx zw zU zl zWI zLI zft zsp zmd zla zrf zD wx) (hCM : CM cs m0 kx lx tx zw zU zl zWI zLI zft zsp zmd zla zrf zD wm) (hP : va_P G vwCl (wx ++ wm) H) (hD : va_D A (wx ++ wm)) (hS : va_S A s.heap H locs) (hl : lv_has ls 4 [(0, .ref sb), (1, .ref h0), (2, .ref m0), (3, .int i)]) : W p l e room_1 s m #[Value.ref sb] below meth c H locs cells slots Q (F0 m 652 ls []) := by
  obtain ⟨hx, hb, hr, hml, hown, hts, hX, hbl, hlocks, hgv⟩ := id C0
  have hb : c.code = cL_law := hb
  have hown : s.vm.findClass RL = some m.cls := hown
  have htl := gW_l hts
  have hf : cells ≤ 590000 ∧ slots ≤ 7300000 := ⟨by omega, by omega⟩
  refine lv_aload_n hx hb dL_law_652 rfl (lv_at hl 1 rfl) ?_
  refine lv_aload_n hx hb dL_law_653 rfl (lv_at hl 0 rfl) ?_
  refine lv_iload_n hx hb dL_law_654 rfl (lv_at hl 3 rfl) ?_
  refine lv_iconst (v := 1) hx hb dL_law_655 (by decide) ?_
  refine lv_iadd hx hb dL_law_656 ?_
  refine lv_topi (fun ix0 ex0 => ?_)
  refine va_sld hx hb hX hbl hbA hS (ix_in hi0 hi1 hL ex0 (by decide) (by decide)) dL_law_657 ?_
  refine lv_topi (fun a0 ea0 => ?_)
  refine cx_force l C0 hA hN hK hxe hZ a0 hCX hP hD hS hl.1 hf (fun r wx H locs hans hCX hP hD hS => ?_)
  refine lv_pop hx hb dL_law_661 rfl ?_
  refine lv_aload_n hx hb dL_law_662 rfl (lv_at hl 2 rfl) ?_
  refine lv_aload_n hx hb dL_law_663 rfl (lv_at hl 0 rfl) ?_
  refine lv_iload_n hx hb dL_law_664 rfl (lv_at hl 3 rfl) ?_
  refine lv_iconst (v := 1) hx hb dL_law_665 (by decide) ?_
  refine lv_iadd hx hb dL_law_666 ?_
  refine lv_topi (fun ix1 ex1 => ?_)
  refine va_sld hx hb hX hbl hbA hS (ix_in hi0 hi1 hL ex1 (by decide) (by decide)) dL_law_667 ?_
  refine lv_topi (fun a1 ea1 => ?_)
  have e_a1 : a1 = a0 := ea1.trans (by rw [ex1, ← ex0]; exact ea0.symm)
  rw [e_a1]
  refine cm_force l C0 hA hN hK (Nat.le_of_ble_eq_true rfl) a0 hCM (P_perm List.perm_append_comm hP) (D_perm List.perm_append_comm hD) hS hl.1 hf (fun r2 wm H locs hans2 hCM hP hD hS => ?_)
  replace hP := P_perm List.perm_append_comm hP
  replace hD := D_perm List.perm_append_comm hD
  refine lv_pop hx hb dL_law_671 rfl ?_
  refine lv_goto (tgt := 1456) hx hb dL_law_672 (by decide) ?_
  refine W.widen (k := cells + 3) (n := slots + 464) (by omega) (by omega) ?_
  exact K _ _ _ _ _ _ _ _ _ _ _ _ _ _ wx wm _ _ ls hCX hCM hP hD hS hl

set_option maxHeartbeats 1000000 in
set_option maxRecDepth 100000 in
theorem lw_c_asks {p : Program} {e : Env} {s : State} {m : MethodId} {below : List Frame} {meth : Method} {c : Code} (l : Launch) {sb L : Nat} {xs : Nat → Int32} {A : Nat → Prop} (C0 : lw_At p s m meth c sb L xs) (hL : L ≤ 3072) (hA : ∀ q, s.heap.size ≤ q → A q) (hbA : ¬ A sb) {G : va_G} {cs : Nat → ClassId} {xe : XE} (hN : NW s) (hK : va_K G vwCl (tyL cs) s) (hxe : isRf xe.2.2) (hZ : XZ xe A s) {Q : State → Prop} {h0 m0 : Nat} {cells slots : Nat} (hf : cells ≤ 580000 ∧ slots ≤ 7290000) {i : Int32} (hi0 : 0 ≤ i.toInt) (hi1 : i.toInt + 6 ≤ (L : Int)) (K : ∀ (kx : Nat → Int32) (lx : Int32) (tx : Nat → Int32) (zw : Nat → Int) (zU : UL) (zl : Nat → List Cls) (zWI : Nat → Nat → Int) (zLI : Nat → Nat → List Cls) (zft : Int) (zsp : Int) (zmd : Int) (zla : Int) (zrf : Nat → Int32) (zD : ODr) (wx wm : va_W) (H : Heap) (locs : List Loc) (ls : Array Slot), CX cs h0 kx lx tx zw zU zl zWI zLI zft zsp zmd zla zrf zD wx → CM cs m0 kx lx tx zw zU zl zWI zLI zft zsp zmd zla zrf zD wm → va_P G vwCl (wx ++ wm) H → va_D A (wx ++ wm) → va_S A s.heap H locs → lv_has ls 4 [(0, .ref sb), (1, .ref h0), (2, .ref m0), (3, .int i)] → W p l e room_1 s m #[Value.ref sb] below meth c H locs (cells + 3) (slots + 464) Q (F0 m 1456 ls [])) {kx : Nat → Int32} {lx : Int32} {tx : Nat → Int32} {zw : Nat → Int} {zU : UL} {zl : Nat → List Cls} {zWI : Nat → Nat → Int} {zLI : Nat → Nat → List Cls} {zft : Int} {zsp : Int} {zmd : Int} {zla : Int} {zrf : Nat → Int32} {zD : ODr} {wx wm : va_W} {H : Heap} {locs : List Loc} {ls : Array Slot} (hCX : CX cs h0 kx lx tx zw zU zl zWI zLI zft zsp zmd zla zrf zD wx) (hCM : CM cs m0 kx lx tx zw zU zl zWI zLI zft zsp zmd zla zrf zD wm) (hP : va_P G vwCl (wx ++ wm) H) (hD : va_D A (wx ++ wm)) (hS : va_S A s.heap H locs) (hl : lv_has ls 4 [(0, .ref sb), (1, .ref h0), (2, .ref m0), (3, .int i)]) : W p l e room_1 s m #[Value.ref sb] below meth c H locs cells slots Q (F0 m 675 ls []) := by
  obtain ⟨hx, hb, hr, hml, hown, hts, hX, hbl, hlocks, hgv⟩ := id C0
  have hb : c.code = cL_law := hb
  have hown : s.vm.findClass RL = some m.cls := hown
  have htl := gW_l hts
  have hf : cells ≤ 590000 ∧ slots ≤ 7300000 := ⟨by omega, by omega⟩
  refine lv_aload_n hx hb dL_law_675 rfl (lv_at hl 1 rfl) ?_
  refine lv_aload_n hx hb dL_law_676 rfl (lv_at hl 0 rfl) ?_
  refine lv_iload_n hx hb dL_law_677 rfl (lv_at hl 3 rfl) ?_
  refine lv_iconst (v := 1) hx hb dL_law_678 (by decide) ?_
  refine lv_iadd hx hb dL_law_679 ?_
  refine lv_topi (fun ix0 ex0 => ?_)
  refine va_sld hx hb hX hbl hbA hS (ix_in hi0 hi1 hL ex0 (by decide) (by decide)) dL_law_680 ?_
  refine lv_topi (fun a0 ea0 => ?_)
  refine lv_aload_n hx hb dL_law_681 rfl (lv_at hl 0 rfl) ?_
  refine lv_iload_n hx hb dL_law_682 rfl (lv_at hl 3 rfl) ?_
  refine lv_iconst (v := 2) hx hb dL_law_683 (by decide) ?_
  refine lv_iadd hx hb dL_law_684 ?_
  refine lv_topi (fun ix1 ex1 => ?_)
  refine va_sld hx hb hX hbl hbA hS (ix_in hi0 hi1 hL ex1 (by decide) (by decide)) dL_law_685 ?_
  refine lv_topi (fun a1 ea1 => ?_)
  refine lv_aload_n hx hb dL_law_686 rfl (lv_at hl 0 rfl) ?_
  refine lv_iload_n hx hb dL_law_687 rfl (lv_at hl 3 rfl) ?_
  refine lv_iconst (v := 3) hx hb dL_law_688 (by decide) ?_
  refine lv_iadd hx hb dL_law_689 ?_
  refine lv_topi (fun ix2 ex2 => ?_)
  refine va_sld hx hb hX hbl hbA hS (ix_in hi0 hi1 hL ex2 (by decide) (by decide)) dL_law_690 ?_
  refine lv_topi (fun a2 ea2 => ?_)
  refine cx_asks l C0 hA hN hK hxe hZ a0 a1 a2 hCX hP hD hS hl.1 hf (fun r wx H locs hans hCX hP hD hS => ?_)
  refine lv_pop hx hb dL_law_694 rfl ?_
  refine lv_aload_n hx hb dL_law_695 rfl (lv_at hl 2 rfl) ?_
  refine lv_aload_n hx hb dL_law_696 rfl (lv_at hl 0 rfl) ?_
  refine lv_iload_n hx hb dL_law_697 rfl (lv_at hl 3 rfl) ?_
  refine lv_iconst (v := 1) hx hb dL_law_698 (by decide) ?_
  refine lv_iadd hx hb dL_law_699 ?_
  refine lv_topi (fun ix3 ex3 => ?_)
  refine va_sld hx hb hX hbl hbA hS (ix_in hi0 hi1 hL ex3 (by decide) (by decide)) dL_law_700 ?_
  refine lv_topi (fun a3 ea3 => ?_)
  refine lv_aload_n hx hb dL_law_701 rfl (lv_at hl 0 rfl) ?_
  refine lv_iload_n hx hb dL_law_702 rfl (lv_at hl 3 rfl) ?_
  refine lv_iconst (v := 2) hx hb dL_law_703 (by decide) ?_
  refine lv_iadd hx hb dL_law_704 ?_
  refine lv_topi (fun ix4 ex4 => ?_)
  refine va_sld hx hb hX hbl hbA hS (ix_in hi0 hi1 hL ex4 (by decide) (by decide)) dL_law_705 ?_
  refine lv_topi (fun a4 ea4 => ?_)
  refine lv_aload_n hx hb dL_law_706 rfl (lv_at hl 0 rfl) ?_
  refine lv_iload_n hx hb dL_law_707 rfl (lv_at hl 3 rfl) ?_
  refine lv_iconst (v := 3) hx hb dL_law_708 (by decide) ?_
  refine lv_iadd hx hb dL_law_709 ?_
  refine lv_topi (fun ix5 ex5 => ?_)
  refine va_sld hx hb hX hbl hbA hS (ix_in hi0 hi1 hL ex5 (by decide) (by decide)) dL_law_710 ?_
  refine lv_topi (fun a5 ea5 => ?_)
  have e_a3 : a3 = a0 := ea3.trans (by rw [ex3, ← ex0]; exact ea0.symm)
  rw [e_a3]
  have e_a4 : a4 = a1 := ea4.trans (by rw [ex4, ← ex1]; exact ea1.symm)
  rw [e_a4]
  have e_a5 : a5 = a2 := ea5.trans (by rw [ex5, ← ex2]; exact ea2.symm)
  rw [e_a5]
  refine cm_asks l C0 hA hN hK (Nat.le_of_ble_eq_true rfl) a0 a1 a2 hCM (P_perm List.perm_append_comm hP) (D_perm List.perm_append_comm hD) hS hl.1 hf (fun r2 wm H locs hans2 hCM hP hD hS => ?_)
  replace hP := P_perm List.perm_append_comm hP
  replace hD := D_perm List.perm_append_comm hD
  refine lv_pop hx hb dL_law_714 rfl ?_
  refine lv_goto (tgt := 1456) hx hb dL_law_715 (by decide) ?_
  refine W.widen (k := cells + 3) (n := slots + 464) (by omega) (by omega) ?_
  exact K _ _ _ _ _ _ _ _ _ _ _ _ _ _ wx wm _ _ ls hCX hCM hP hD hS hl

set_option maxHeartbeats 1000000 in
set_option maxRecDepth 100000 in
theorem lw_c_loud {p : Program} {e : Env} {s : State} {m : MethodId} {below : List Frame} {meth : Method} {c : Code} (l : Launch) {sb L : Nat} {xs : Nat → Int32} {A : Nat → Prop} (C0 : lw_At p s m meth c sb L xs) (hL : L ≤ 3072) (hA : ∀ q, s.heap.size ≤ q → A q) (hbA : ¬ A sb) {G : va_G} {cs : Nat → ClassId} {xe : XE} (hN : NW s) (hK : va_K G vwCl (tyL cs) s) (hxe : isRf xe.2.2) (hZ : XZ xe A s) {Q : State → Prop} {h0 m0 : Nat} {cells slots : Nat} (hf : cells ≤ 580000 ∧ slots ≤ 7290000) {i : Int32} (hi0 : 0 ≤ i.toInt) (hi1 : i.toInt + 6 ≤ (L : Int)) (K : ∀ (kx : Nat → Int32) (lx : Int32) (tx : Nat → Int32) (zw : Nat → Int) (zU : UL) (zl : Nat → List Cls) (zWI : Nat → Nat → Int) (zLI : Nat → Nat → List Cls) (zft : Int) (zsp : Int) (zmd : Int) (zla : Int) (zrf : Nat → Int32) (zD : ODr) (wx wm : va_W) (H : Heap) (locs : List Loc) (ls : Array Slot), CX cs h0 kx lx tx zw zU zl zWI zLI zft zsp zmd zla zrf zD wx → CM cs m0 kx lx tx zw zU zl zWI zLI zft zsp zmd zla zrf zD wm → va_P G vwCl (wx ++ wm) H → va_D A (wx ++ wm) → va_S A s.heap H locs → lv_has ls 4 [(0, .ref sb), (1, .ref h0), (2, .ref m0), (3, .int i)] → W p l e room_1 s m #[Value.ref sb] below meth c H locs (cells + 3) (slots + 464) Q (F0 m 1456 ls [])) {kx : Nat → Int32} {lx : Int32} {tx : Nat → Int32} {zw : Nat → Int} {zU : UL} {zl : Nat → List Cls} {zWI : Nat → Nat → Int} {zLI : Nat → Nat → List Cls} {zft : Int} {zsp : Int} {zmd : Int} {zla : Int} {zrf : Nat → Int32} {zD : ODr} {wx wm : va_W} {H : Heap} {locs : List Loc} {ls : Array Slot} (hCX : CX cs h0 kx lx tx zw zU zl zWI zLI zft zsp zmd zla zrf zD wx) (hCM : CM cs m0 kx lx tx zw zU zl zWI zLI zft zsp zmd zla zrf zD wm) (hP : va_P G vwCl (wx ++ wm) H) (hD : va_D A (wx ++ wm)) (hS : va_S A s.heap H locs) (hl : lv_has ls 4 [(0, .ref sb), (1, .ref h0), (2, .ref m0), (3, .int i)]) : W p l e room_1 s m #[Value.ref sb] below meth c H locs cells slots Q (F0 m 718 ls []) := by
  obtain ⟨hx, hb, hr, hml, hown, hts, hX, hbl, hlocks, hgv⟩ := id C0
  have hb : c.code = cL_law := hb
  have hown : s.vm.findClass RL = some m.cls := hown
  have htl := gW_l hts
  have hf : cells ≤ 590000 ∧ slots ≤ 7300000 := ⟨by omega, by omega⟩
  refine lv_aload_n hx hb dL_law_718 rfl (lv_at hl 1 rfl) ?_
  refine lv_aload_n hx hb dL_law_719 rfl (lv_at hl 0 rfl) ?_
  refine lv_iload_n hx hb dL_law_720 rfl (lv_at hl 3 rfl) ?_
  refine lv_iconst (v := 1) hx hb dL_law_721 (by decide) ?_
  refine lv_iadd hx hb dL_law_722 ?_
  refine lv_topi (fun ix0 ex0 => ?_)
  refine va_sld hx hb hX hbl hbA hS (ix_in hi0 hi1 hL ex0 (by decide) (by decide)) dL_law_723 ?_
  refine lv_topi (fun a0 ea0 => ?_)
  refine lv_aload_n hx hb dL_law_724 rfl (lv_at hl 0 rfl) ?_
  refine lv_iload_n hx hb dL_law_725 rfl (lv_at hl 3 rfl) ?_
  refine lv_iconst (v := 2) hx hb dL_law_726 (by decide) ?_
  refine lv_iadd hx hb dL_law_727 ?_
  refine lv_topi (fun ix1 ex1 => ?_)
  refine va_sld hx hb hX hbl hbA hS (ix_in hi0 hi1 hL ex1 (by decide) (by decide)) dL_law_728 ?_
  refine lv_topi (fun a1 ea1 => ?_)
  refine cx_loud l C0 hA hN hK hxe hZ a0 a1 hCX hP hD hS hl.1 hf (fun r wx H locs hans hCX hP hD hS => ?_)
  refine lv_pop hx hb dL_law_732 rfl ?_
  refine lv_aload_n hx hb dL_law_733 rfl (lv_at hl 2 rfl) ?_
  refine lv_aload_n hx hb dL_law_734 rfl (lv_at hl 0 rfl) ?_
  refine lv_iload_n hx hb dL_law_735 rfl (lv_at hl 3 rfl) ?_
  refine lv_iconst (v := 1) hx hb dL_law_736 (by decide) ?_
  refine lv_iadd hx hb dL_law_737 ?_
  refine lv_topi (fun ix2 ex2 => ?_)
  refine va_sld hx hb hX hbl hbA hS (ix_in hi0 hi1 hL ex2 (by decide) (by decide)) dL_law_738 ?_
  refine lv_topi (fun a2 ea2 => ?_)
  refine lv_aload_n hx hb dL_law_739 rfl (lv_at hl 0 rfl) ?_
  refine lv_iload_n hx hb dL_law_740 rfl (lv_at hl 3 rfl) ?_
  refine lv_iconst (v := 2) hx hb dL_law_741 (by decide) ?_
  refine lv_iadd hx hb dL_law_742 ?_
  refine lv_topi (fun ix3 ex3 => ?_)
  refine va_sld hx hb hX hbl hbA hS (ix_in hi0 hi1 hL ex3 (by decide) (by decide)) dL_law_743 ?_
  refine lv_topi (fun a3 ea3 => ?_)
  have e_a2 : a2 = a0 := ea2.trans (by rw [ex2, ← ex0]; exact ea0.symm)
  rw [e_a2]
  have e_a3 : a3 = a1 := ea3.trans (by rw [ex3, ← ex1]; exact ea1.symm)
  rw [e_a3]
  refine cm_loud l C0 hA hN hK (Nat.le_of_ble_eq_true rfl) a0 a1 hCM (P_perm List.perm_append_comm hP) (D_perm List.perm_append_comm hD) hS hl.1 hf (fun r2 wm H locs hans2 hCM hP hD hS => ?_)
  replace hP := P_perm List.perm_append_comm hP
  replace hD := D_perm List.perm_append_comm hD
  refine lv_pop hx hb dL_law_747 rfl ?_
  refine lv_goto (tgt := 1456) hx hb dL_law_748 (by decide) ?_
  refine W.widen (k := cells + 3) (n := slots + 464) (by omega) (by omega) ?_
  exact K _ _ _ _ _ _ _ _ _ _ _ _ _ _ wx wm _ _ ls hCX hCM hP hD hS hl

set_option maxHeartbeats 1000000 in
set_option maxRecDepth 100000 in
theorem lw_c_din {p : Program} {e : Env} {s : State} {m : MethodId} {below : List Frame} {meth : Method} {c : Code} (l : Launch) {sb L : Nat} {xs : Nat → Int32} {A : Nat → Prop} (C0 : lw_At p s m meth c sb L xs) (hL : L ≤ 3072) (hA : ∀ q, s.heap.size ≤ q → A q) (hbA : ¬ A sb) {G : va_G} {cs : Nat → ClassId} {xe : XE} (hN : NW s) (hK : va_K G vwCl (tyL cs) s) (hxe : isRf xe.2.2) (hZ : XZ xe A s) {Q : State → Prop} {h0 m0 : Nat} {cells slots : Nat} (hf : cells ≤ 580000 ∧ slots ≤ 7290000) {i : Int32} (hi0 : 0 ≤ i.toInt) (hi1 : i.toInt + 6 ≤ (L : Int)) (K : ∀ (kx : Nat → Int32) (lx : Int32) (tx : Nat → Int32) (zw : Nat → Int) (zU : UL) (zl : Nat → List Cls) (zWI : Nat → Nat → Int) (zLI : Nat → Nat → List Cls) (zft : Int) (zsp : Int) (zmd : Int) (zla : Int) (zrf : Nat → Int32) (zD : ODr) (wx wm : va_W) (H : Heap) (locs : List Loc) (ls : Array Slot), CX cs h0 kx lx tx zw zU zl zWI zLI zft zsp zmd zla zrf zD wx → CM cs m0 kx lx tx zw zU zl zWI zLI zft zsp zmd zla zrf zD wm → va_P G vwCl (wx ++ wm) H → va_D A (wx ++ wm) → va_S A s.heap H locs → lv_has ls 4 [(0, .ref sb), (1, .ref h0), (2, .ref m0), (3, .int i)] → W p l e room_1 s m #[Value.ref sb] below meth c H locs (cells + 3) (slots + 464) Q (F0 m 1456 ls [])) {kx : Nat → Int32} {lx : Int32} {tx : Nat → Int32} {zw : Nat → Int} {zU : UL} {zl : Nat → List Cls} {zWI : Nat → Nat → Int} {zLI : Nat → Nat → List Cls} {zft : Int} {zsp : Int} {zmd : Int} {zla : Int} {zrf : Nat → Int32} {zD : ODr} {wx wm : va_W} {H : Heap} {locs : List Loc} {ls : Array Slot} (hCX : CX cs h0 kx lx tx zw zU zl zWI zLI zft zsp zmd zla zrf zD wx) (hCM : CM cs m0 kx lx tx zw zU zl zWI zLI zft zsp zmd zla zrf zD wm) (hP : va_P G vwCl (wx ++ wm) H) (hD : va_D A (wx ++ wm)) (hS : va_S A s.heap H locs) (hl : lv_has ls 4 [(0, .ref sb), (1, .ref h0), (2, .ref m0), (3, .int i)]) : W p l e room_1 s m #[Value.ref sb] below meth c H locs cells slots Q (F0 m 751 ls []) := by
  obtain ⟨hx, hb, hr, hml, hown, hts, hX, hbl, hlocks, hgv⟩ := id C0
  have hb : c.code = cL_law := hb
  have hown : s.vm.findClass RL = some m.cls := hown
  have htl := gW_l hts
  have hf : cells ≤ 590000 ∧ slots ≤ 7300000 := ⟨by omega, by omega⟩
  refine lv_aload_n hx hb dL_law_751 rfl (lv_at hl 1 rfl) ?_
  refine lv_aload_n hx hb dL_law_752 rfl (lv_at hl 0 rfl) ?_
  refine lv_iload_n hx hb dL_law_753 rfl (lv_at hl 3 rfl) ?_
  refine lv_iconst (v := 1) hx hb dL_law_754 (by decide) ?_
  refine lv_iadd hx hb dL_law_755 ?_
  refine lv_topi (fun ix0 ex0 => ?_)
  refine va_sld hx hb hX hbl hbA hS (ix_in hi0 hi1 hL ex0 (by decide) (by decide)) dL_law_756 ?_
  refine lv_topi (fun a0 ea0 => ?_)
  refine cx_din l C0 hA hN hK hxe hZ a0 hCX hP hD hS hl.1 hf (fun r wx H locs hans hCX hP hD hS => ?_)
  refine lv_pop hx hb dL_law_760 rfl ?_
  refine lv_aload_n hx hb dL_law_761 rfl (lv_at hl 2 rfl) ?_
  refine lv_aload_n hx hb dL_law_762 rfl (lv_at hl 0 rfl) ?_
  refine lv_iload_n hx hb dL_law_763 rfl (lv_at hl 3 rfl) ?_
  refine lv_iconst (v := 1) hx hb dL_law_764 (by decide) ?_
  refine lv_iadd hx hb dL_law_765 ?_
  refine lv_topi (fun ix1 ex1 => ?_)
  refine va_sld hx hb hX hbl hbA hS (ix_in hi0 hi1 hL ex1 (by decide) (by decide)) dL_law_766 ?_
  refine lv_topi (fun a1 ea1 => ?_)
  have e_a1 : a1 = a0 := ea1.trans (by rw [ex1, ← ex0]; exact ea0.symm)
  rw [e_a1]
  refine cm_din l C0 hA hN hK (Nat.le_of_ble_eq_true rfl) a0 hCM (P_perm List.perm_append_comm hP) (D_perm List.perm_append_comm hD) hS hl.1 hf (fun r2 wm H locs hans2 hCM hP hD hS => ?_)
  replace hP := P_perm List.perm_append_comm hP
  replace hD := D_perm List.perm_append_comm hD
  refine lv_pop hx hb dL_law_770 rfl ?_
  refine lv_goto (tgt := 1456) hx hb dL_law_771 (by decide) ?_
  refine W.widen (k := cells + 3) (n := slots + 464) (by omega) (by omega) ?_
  exact K _ _ _ _ _ _ _ _ _ _ _ _ _ _ wx wm _ _ ls hCX hCM hP hD hS hl

set_option maxHeartbeats 1000000 in
set_option maxRecDepth 100000 in
theorem lw_c_hears {p : Program} {e : Env} {s : State} {m : MethodId} {below : List Frame} {meth : Method} {c : Code} (l : Launch) {sb L : Nat} {xs : Nat → Int32} {A : Nat → Prop} (C0 : lw_At p s m meth c sb L xs) (hL : L ≤ 3072) (hA : ∀ q, s.heap.size ≤ q → A q) (hbA : ¬ A sb) {G : va_G} {cs : Nat → ClassId} {xe : XE} (hN : NW s) (hK : va_K G vwCl (tyL cs) s) (hxe : isRf xe.2.2) (hZ : XZ xe A s) {Q : State → Prop} {h0 m0 : Nat} {cells slots : Nat} (hf : cells ≤ 580000 ∧ slots ≤ 7290000) {i : Int32} (hi0 : 0 ≤ i.toInt) (hi1 : i.toInt + 6 ≤ (L : Int)) (K : ∀ (kx : Nat → Int32) (lx : Int32) (tx : Nat → Int32) (zw : Nat → Int) (zU : UL) (zl : Nat → List Cls) (zWI : Nat → Nat → Int) (zLI : Nat → Nat → List Cls) (zft : Int) (zsp : Int) (zmd : Int) (zla : Int) (zrf : Nat → Int32) (zD : ODr) (wx wm : va_W) (H : Heap) (locs : List Loc) (ls : Array Slot), CX cs h0 kx lx tx zw zU zl zWI zLI zft zsp zmd zla zrf zD wx → CM cs m0 kx lx tx zw zU zl zWI zLI zft zsp zmd zla zrf zD wm → va_P G vwCl (wx ++ wm) H → va_D A (wx ++ wm) → va_S A s.heap H locs → lv_has ls 4 [(0, .ref sb), (1, .ref h0), (2, .ref m0), (3, .int i)] → W p l e room_1 s m #[Value.ref sb] below meth c H locs (cells + 3) (slots + 464) Q (F0 m 1456 ls [])) {kx : Nat → Int32} {lx : Int32} {tx : Nat → Int32} {zw : Nat → Int} {zU : UL} {zl : Nat → List Cls} {zWI : Nat → Nat → Int} {zLI : Nat → Nat → List Cls} {zft : Int} {zsp : Int} {zmd : Int} {zla : Int} {zrf : Nat → Int32} {zD : ODr} {wx wm : va_W} {H : Heap} {locs : List Loc} {ls : Array Slot} (hCX : CX cs h0 kx lx tx zw zU zl zWI zLI zft zsp zmd zla zrf zD wx) (hCM : CM cs m0 kx lx tx zw zU zl zWI zLI zft zsp zmd zla zrf zD wm) (hP : va_P G vwCl (wx ++ wm) H) (hD : va_D A (wx ++ wm)) (hS : va_S A s.heap H locs) (hl : lv_has ls 4 [(0, .ref sb), (1, .ref h0), (2, .ref m0), (3, .int i)]) : W p l e room_1 s m #[Value.ref sb] below meth c H locs cells slots Q (F0 m 774 ls []) := by
  obtain ⟨hx, hb, hr, hml, hown, hts, hX, hbl, hlocks, hgv⟩ := id C0
  have hb : c.code = cL_law := hb
  have hown : s.vm.findClass RL = some m.cls := hown
  have htl := gW_l hts
  have hf : cells ≤ 590000 ∧ slots ≤ 7300000 := ⟨by omega, by omega⟩
  refine lv_aload_n hx hb dL_law_774 rfl (lv_at hl 1 rfl) ?_
  refine lv_aload_n hx hb dL_law_775 rfl (lv_at hl 0 rfl) ?_
  refine lv_iload_n hx hb dL_law_776 rfl (lv_at hl 3 rfl) ?_
  refine lv_iconst (v := 1) hx hb dL_law_777 (by decide) ?_
  refine lv_iadd hx hb dL_law_778 ?_
  refine lv_topi (fun ix0 ex0 => ?_)
  refine va_sld hx hb hX hbl hbA hS (ix_in hi0 hi1 hL ex0 (by decide) (by decide)) dL_law_779 ?_
  refine lv_topi (fun a0 ea0 => ?_)
  refine cx_hears l C0 hA hN hK hxe hZ a0 hCX hP hD hS hl.1 hf (fun r wx H locs hans hCX hP hD hS => ?_)
  refine lv_pop2_2 hx hb dL_law_783 rfl ?_
  refine lv_aload_n hx hb dL_law_784 rfl (lv_at hl 2 rfl) ?_
  refine lv_aload_n hx hb dL_law_785 rfl (lv_at hl 0 rfl) ?_
  refine lv_iload_n hx hb dL_law_786 rfl (lv_at hl 3 rfl) ?_
  refine lv_iconst (v := 1) hx hb dL_law_787 (by decide) ?_
  refine lv_iadd hx hb dL_law_788 ?_
  refine lv_topi (fun ix1 ex1 => ?_)
  refine va_sld hx hb hX hbl hbA hS (ix_in hi0 hi1 hL ex1 (by decide) (by decide)) dL_law_789 ?_
  refine lv_topi (fun a1 ea1 => ?_)
  have e_a1 : a1 = a0 := ea1.trans (by rw [ex1, ← ex0]; exact ea0.symm)
  rw [e_a1]
  refine cm_hears l C0 hA hN hK (Nat.le_of_ble_eq_true rfl) a0 hCM (P_perm List.perm_append_comm hP) (D_perm List.perm_append_comm hD) hS hl.1 hf (fun r2 wm H locs hans2 hCM hP hD hS => ?_)
  replace hP := P_perm List.perm_append_comm hP
  replace hD := D_perm List.perm_append_comm hD
  refine lv_pop2_2 hx hb dL_law_793 rfl ?_
  refine lv_goto (tgt := 1456) hx hb dL_law_794 (by decide) ?_
  refine W.widen (k := cells + 3) (n := slots + 464) (by omega) (by omega) ?_
  exact K _ _ _ _ _ _ _ _ _ _ _ _ _ _ wx wm _ _ ls hCX hCM hP hD hS hl

set_option maxHeartbeats 1000000 in
set_option maxRecDepth 100000 in
theorem lw_c_dig {p : Program} {e : Env} {s : State} {m : MethodId} {below : List Frame} {meth : Method} {c : Code} (l : Launch) {sb L : Nat} {xs : Nat → Int32} {A : Nat → Prop} (C0 : lw_At p s m meth c sb L xs) (hL : L ≤ 3072) (hA : ∀ q, s.heap.size ≤ q → A q) (hbA : ¬ A sb) {G : va_G} {cs : Nat → ClassId} {xe : XE} (hN : NW s) (hK : va_K G vwCl (tyL cs) s) (hxe : isRf xe.2.2) (hZ : XZ xe A s) {Q : State → Prop} {h0 m0 : Nat} {cells slots : Nat} (hf : cells ≤ 580000 ∧ slots ≤ 7290000) {i : Int32} (hi0 : 0 ≤ i.toInt) (hi1 : i.toInt + 6 ≤ (L : Int)) (K : ∀ (kx : Nat → Int32) (lx : Int32) (tx : Nat → Int32) (zw : Nat → Int) (zU : UL) (zl : Nat → List Cls) (zWI : Nat → Nat → Int) (zLI : Nat → Nat → List Cls) (zft : Int) (zsp : Int) (zmd : Int) (zla : Int) (zrf : Nat → Int32) (zD : ODr) (wx wm : va_W) (H : Heap) (locs : List Loc) (ls : Array Slot), CX cs h0 kx lx tx zw zU zl zWI zLI zft zsp zmd zla zrf zD wx → CM cs m0 kx lx tx zw zU zl zWI zLI zft zsp zmd zla zrf zD wm → va_P G vwCl (wx ++ wm) H → va_D A (wx ++ wm) → va_S A s.heap H locs → lv_has ls 4 [(0, .ref sb), (1, .ref h0), (2, .ref m0), (3, .int i)] → W p l e room_1 s m #[Value.ref sb] below meth c H locs (cells + 3) (slots + 464) Q (F0 m 1456 ls [])) {kx : Nat → Int32} {lx : Int32} {tx : Nat → Int32} {zw : Nat → Int} {zU : UL} {zl : Nat → List Cls} {zWI : Nat → Nat → Int} {zLI : Nat → Nat → List Cls} {zft : Int} {zsp : Int} {zmd : Int} {zla : Int} {zrf : Nat → Int32} {zD : ODr} {wx wm : va_W} {H : Heap} {locs : List Loc} {ls : Array Slot} (hCX : CX cs h0 kx lx tx zw zU zl zWI zLI zft zsp zmd zla zrf zD wx) (hCM : CM cs m0 kx lx tx zw zU zl zWI zLI zft zsp zmd zla zrf zD wm) (hP : va_P G vwCl (wx ++ wm) H) (hD : va_D A (wx ++ wm)) (hS : va_S A s.heap H locs) (hl : lv_has ls 4 [(0, .ref sb), (1, .ref h0), (2, .ref m0), (3, .int i)]) : W p l e room_1 s m #[Value.ref sb] below meth c H locs cells slots Q (F0 m 797 ls []) := by
  obtain ⟨hx, hb, hr, hml, hown, hts, hX, hbl, hlocks, hgv⟩ := id C0
  have hb : c.code = cL_law := hb
  have hown : s.vm.findClass RL = some m.cls := hown
  have htl := gW_l hts
  have hf : cells ≤ 590000 ∧ slots ≤ 7300000 := ⟨by omega, by omega⟩
  refine lv_aload_n hx hb dL_law_797 rfl (lv_at hl 1 rfl) ?_
  refine lv_aload_n hx hb dL_law_798 rfl (lv_at hl 0 rfl) ?_
  refine lv_iload_n hx hb dL_law_799 rfl (lv_at hl 3 rfl) ?_
  refine lv_iconst (v := 1) hx hb dL_law_800 (by decide) ?_
  refine lv_iadd hx hb dL_law_801 ?_
  refine lv_topi (fun ix0 ex0 => ?_)
  refine va_sld hx hb hX hbl hbA hS (ix_in hi0 hi1 hL ex0 (by decide) (by decide)) dL_law_802 ?_
  refine lv_topi (fun a0 ea0 => ?_)
  refine lv_aload_n hx hb dL_law_803 rfl (lv_at hl 0 rfl) ?_
  refine lv_iload_n hx hb dL_law_804 rfl (lv_at hl 3 rfl) ?_
  refine lv_iconst (v := 2) hx hb dL_law_805 (by decide) ?_
  refine lv_iadd hx hb dL_law_806 ?_
  refine lv_topi (fun ix1 ex1 => ?_)
  refine va_sld hx hb hX hbl hbA hS (ix_in hi0 hi1 hL ex1 (by decide) (by decide)) dL_law_807 ?_
  refine lv_topi (fun a1 ea1 => ?_)
  refine cx_dig l C0 hA hN hK hxe hZ a0 a1 hCX hP hD hS hl.1 hf (fun r wx H locs hans hCX hP hD hS => ?_)
  refine lv_pop hx hb dL_law_811 rfl ?_
  refine lv_aload_n hx hb dL_law_812 rfl (lv_at hl 2 rfl) ?_
  refine lv_aload_n hx hb dL_law_813 rfl (lv_at hl 0 rfl) ?_
  refine lv_iload_n hx hb dL_law_814 rfl (lv_at hl 3 rfl) ?_
  refine lv_iconst (v := 1) hx hb dL_law_815 (by decide) ?_
  refine lv_iadd hx hb dL_law_816 ?_
  refine lv_topi (fun ix2 ex2 => ?_)
  refine va_sld hx hb hX hbl hbA hS (ix_in hi0 hi1 hL ex2 (by decide) (by decide)) dL_law_817 ?_
  refine lv_topi (fun a2 ea2 => ?_)
  refine lv_aload_n hx hb dL_law_818 rfl (lv_at hl 0 rfl) ?_
  refine lv_iload_n hx hb dL_law_819 rfl (lv_at hl 3 rfl) ?_
  refine lv_iconst (v := 2) hx hb dL_law_820 (by decide) ?_
  refine lv_iadd hx hb dL_law_821 ?_
  refine lv_topi (fun ix3 ex3 => ?_)
  refine va_sld hx hb hX hbl hbA hS (ix_in hi0 hi1 hL ex3 (by decide) (by decide)) dL_law_822 ?_
  refine lv_topi (fun a3 ea3 => ?_)
  have e_a2 : a2 = a0 := ea2.trans (by rw [ex2, ← ex0]; exact ea0.symm)
  rw [e_a2]
  have e_a3 : a3 = a1 := ea3.trans (by rw [ex3, ← ex1]; exact ea1.symm)
  rw [e_a3]
  refine cm_dig l C0 hA hN hK (Nat.le_of_ble_eq_true rfl) a0 a1 hCM (P_perm List.perm_append_comm hP) (D_perm List.perm_append_comm hD) hS hl.1 hf (fun r2 wm H locs hans2 hCM hP hD hS => ?_)
  replace hP := P_perm List.perm_append_comm hP
  replace hD := D_perm List.perm_append_comm hD
  refine lv_pop hx hb dL_law_826 rfl ?_
  refine lv_goto (tgt := 1456) hx hb dL_law_827 (by decide) ?_
  refine W.widen (k := cells + 3) (n := slots + 464) (by omega) (by omega) ?_
  exact K _ _ _ _ _ _ _ _ _ _ _ _ _ _ wx wm _ _ ls hCX hCM hP hD hS hl

set_option maxHeartbeats 1000000 in
set_option maxRecDepth 100000 in
theorem lw_c_haul {p : Program} {e : Env} {s : State} {m : MethodId} {below : List Frame} {meth : Method} {c : Code} (l : Launch) {sb L : Nat} {xs : Nat → Int32} {A : Nat → Prop} (C0 : lw_At p s m meth c sb L xs) (hL : L ≤ 3072) (hA : ∀ q, s.heap.size ≤ q → A q) (hbA : ¬ A sb) {G : va_G} {cs : Nat → ClassId} {xe : XE} (hN : NW s) (hK : va_K G vwCl (tyL cs) s) (hxe : isRf xe.2.2) (hZ : XZ xe A s) {Q : State → Prop} {h0 m0 : Nat} {cells slots : Nat} (hf : cells ≤ 580000 ∧ slots ≤ 7290000) {i : Int32} (hi0 : 0 ≤ i.toInt) (hi1 : i.toInt + 6 ≤ (L : Int)) (K : ∀ (kx : Nat → Int32) (lx : Int32) (tx : Nat → Int32) (zw : Nat → Int) (zU : UL) (zl : Nat → List Cls) (zWI : Nat → Nat → Int) (zLI : Nat → Nat → List Cls) (zft : Int) (zsp : Int) (zmd : Int) (zla : Int) (zrf : Nat → Int32) (zD : ODr) (wx wm : va_W) (H : Heap) (locs : List Loc) (ls : Array Slot), CX cs h0 kx lx tx zw zU zl zWI zLI zft zsp zmd zla zrf zD wx → CM cs m0 kx lx tx zw zU zl zWI zLI zft zsp zmd zla zrf zD wm → va_P G vwCl (wx ++ wm) H → va_D A (wx ++ wm) → va_S A s.heap H locs → lv_has ls 4 [(0, .ref sb), (1, .ref h0), (2, .ref m0), (3, .int i)] → W p l e room_1 s m #[Value.ref sb] below meth c H locs (cells + 3) (slots + 464) Q (F0 m 1456 ls [])) {kx : Nat → Int32} {lx : Int32} {tx : Nat → Int32} {zw : Nat → Int} {zU : UL} {zl : Nat → List Cls} {zWI : Nat → Nat → Int} {zLI : Nat → Nat → List Cls} {zft : Int} {zsp : Int} {zmd : Int} {zla : Int} {zrf : Nat → Int32} {zD : ODr} {wx wm : va_W} {H : Heap} {locs : List Loc} {ls : Array Slot} (hCX : CX cs h0 kx lx tx zw zU zl zWI zLI zft zsp zmd zla zrf zD wx) (hCM : CM cs m0 kx lx tx zw zU zl zWI zLI zft zsp zmd zla zrf zD wm) (hP : va_P G vwCl (wx ++ wm) H) (hD : va_D A (wx ++ wm)) (hS : va_S A s.heap H locs) (hl : lv_has ls 4 [(0, .ref sb), (1, .ref h0), (2, .ref m0), (3, .int i)]) : W p l e room_1 s m #[Value.ref sb] below meth c H locs cells slots Q (F0 m 830 ls []) := by
  obtain ⟨hx, hb, hr, hml, hown, hts, hX, hbl, hlocks, hgv⟩ := id C0
  have hb : c.code = cL_law := hb
  have hown : s.vm.findClass RL = some m.cls := hown
  have htl := gW_l hts
  have hf : cells ≤ 590000 ∧ slots ≤ 7300000 := ⟨by omega, by omega⟩
  refine lv_aload_n hx hb dL_law_830 rfl (lv_at hl 1 rfl) ?_
  refine lv_aload_n hx hb dL_law_831 rfl (lv_at hl 0 rfl) ?_
  refine lv_iload_n hx hb dL_law_832 rfl (lv_at hl 3 rfl) ?_
  refine lv_iconst (v := 1) hx hb dL_law_833 (by decide) ?_
  refine lv_iadd hx hb dL_law_834 ?_
  refine lv_topi (fun ix0 ex0 => ?_)
  refine va_sld hx hb hX hbl hbA hS (ix_in hi0 hi1 hL ex0 (by decide) (by decide)) dL_law_835 ?_
  refine lv_topi (fun a0 ea0 => ?_)
  refine cx_haul l C0 hA hN hK hxe hZ a0 hCX hP hD hS hl.1 hf (fun r wx H locs hans hCX hP hD hS => ?_)
  refine lv_pop hx hb dL_law_839 rfl ?_
  refine lv_aload_n hx hb dL_law_840 rfl (lv_at hl 2 rfl) ?_
  refine lv_aload_n hx hb dL_law_841 rfl (lv_at hl 0 rfl) ?_
  refine lv_iload_n hx hb dL_law_842 rfl (lv_at hl 3 rfl) ?_
  refine lv_iconst (v := 1) hx hb dL_law_843 (by decide) ?_
  refine lv_iadd hx hb dL_law_844 ?_
  refine lv_topi (fun ix1 ex1 => ?_)
  refine va_sld hx hb hX hbl hbA hS (ix_in hi0 hi1 hL ex1 (by decide) (by decide)) dL_law_845 ?_
  refine lv_topi (fun a1 ea1 => ?_)
  have e_a1 : a1 = a0 := ea1.trans (by rw [ex1, ← ex0]; exact ea0.symm)
  rw [e_a1]
  refine cm_haul l C0 hA hN hK (Nat.le_of_ble_eq_true rfl) a0 hCM (P_perm List.perm_append_comm hP) (D_perm List.perm_append_comm hD) hS hl.1 hf (fun r2 wm H locs hans2 hCM hP hD hS => ?_)
  replace hP := P_perm List.perm_append_comm hP
  replace hD := D_perm List.perm_append_comm hD
  refine lv_pop hx hb dL_law_849 rfl ?_
  refine lv_goto (tgt := 1456) hx hb dL_law_850 (by decide) ?_
  refine W.widen (k := cells + 3) (n := slots + 464) (by omega) (by omega) ?_
  exact K _ _ _ _ _ _ _ _ _ _ _ _ _ _ wx wm _ _ ls hCX hCM hP hD hS hl

set_option maxHeartbeats 1000000 in
set_option maxRecDepth 100000 in
theorem lw_c_hush {p : Program} {e : Env} {s : State} {m : MethodId} {below : List Frame} {meth : Method} {c : Code} (l : Launch) {sb L : Nat} {xs : Nat → Int32} {A : Nat → Prop} (C0 : lw_At p s m meth c sb L xs) (hL : L ≤ 3072) (hA : ∀ q, s.heap.size ≤ q → A q) (hbA : ¬ A sb) {G : va_G} {cs : Nat → ClassId} {xe : XE} (hN : NW s) (hK : va_K G vwCl (tyL cs) s) (hxe : isRf xe.2.2) (hZ : XZ xe A s) {Q : State → Prop} {h0 m0 : Nat} {cells slots : Nat} (hf : cells ≤ 580000 ∧ slots ≤ 7290000) {i : Int32} (hi0 : 0 ≤ i.toInt) (hi1 : i.toInt + 6 ≤ (L : Int)) (K : ∀ (kx : Nat → Int32) (lx : Int32) (tx : Nat → Int32) (zw : Nat → Int) (zU : UL) (zl : Nat → List Cls) (zWI : Nat → Nat → Int) (zLI : Nat → Nat → List Cls) (zft : Int) (zsp : Int) (zmd : Int) (zla : Int) (zrf : Nat → Int32) (zD : ODr) (wx wm : va_W) (H : Heap) (locs : List Loc) (ls : Array Slot), CX cs h0 kx lx tx zw zU zl zWI zLI zft zsp zmd zla zrf zD wx → CM cs m0 kx lx tx zw zU zl zWI zLI zft zsp zmd zla zrf zD wm → va_P G vwCl (wx ++ wm) H → va_D A (wx ++ wm) → va_S A s.heap H locs → lv_has ls 4 [(0, .ref sb), (1, .ref h0), (2, .ref m0), (3, .int i)] → W p l e room_1 s m #[Value.ref sb] below meth c H locs (cells + 3) (slots + 464) Q (F0 m 1456 ls [])) {kx : Nat → Int32} {lx : Int32} {tx : Nat → Int32} {zw : Nat → Int} {zU : UL} {zl : Nat → List Cls} {zWI : Nat → Nat → Int} {zLI : Nat → Nat → List Cls} {zft : Int} {zsp : Int} {zmd : Int} {zla : Int} {zrf : Nat → Int32} {zD : ODr} {wx wm : va_W} {H : Heap} {locs : List Loc} {ls : Array Slot} (hCX : CX cs h0 kx lx tx zw zU zl zWI zLI zft zsp zmd zla zrf zD wx) (hCM : CM cs m0 kx lx tx zw zU zl zWI zLI zft zsp zmd zla zrf zD wm) (hP : va_P G vwCl (wx ++ wm) H) (hD : va_D A (wx ++ wm)) (hS : va_S A s.heap H locs) (hl : lv_has ls 4 [(0, .ref sb), (1, .ref h0), (2, .ref m0), (3, .int i)]) : W p l e room_1 s m #[Value.ref sb] below meth c H locs cells slots Q (F0 m 853 ls []) := by
  obtain ⟨hx, hb, hr, hml, hown, hts, hX, hbl, hlocks, hgv⟩ := id C0
  have hb : c.code = cL_law := hb
  have hown : s.vm.findClass RL = some m.cls := hown
  have htl := gW_l hts
  have hf : cells ≤ 590000 ∧ slots ≤ 7300000 := ⟨by omega, by omega⟩
  refine lv_aload_n hx hb dL_law_853 rfl (lv_at hl 1 rfl) ?_
  refine lv_aload_n hx hb dL_law_854 rfl (lv_at hl 0 rfl) ?_
  refine lv_iload_n hx hb dL_law_855 rfl (lv_at hl 3 rfl) ?_
  refine lv_iconst (v := 1) hx hb dL_law_856 (by decide) ?_
  refine lv_iadd hx hb dL_law_857 ?_
  refine lv_topi (fun ix0 ex0 => ?_)
  refine va_sld hx hb hX hbl hbA hS (ix_in hi0 hi1 hL ex0 (by decide) (by decide)) dL_law_858 ?_
  refine lv_topi (fun a0 ea0 => ?_)
  refine cx_hush l C0 hA hN hK hxe hZ a0 hCX hP hD hS hl.1 hf (fun r wx H locs hans hCX hP hD hS => ?_)
  refine lv_pop hx hb dL_law_862 rfl ?_
  refine lv_aload_n hx hb dL_law_863 rfl (lv_at hl 2 rfl) ?_
  refine lv_aload_n hx hb dL_law_864 rfl (lv_at hl 0 rfl) ?_
  refine lv_iload_n hx hb dL_law_865 rfl (lv_at hl 3 rfl) ?_
  refine lv_iconst (v := 1) hx hb dL_law_866 (by decide) ?_
  refine lv_iadd hx hb dL_law_867 ?_
  refine lv_topi (fun ix1 ex1 => ?_)
  refine va_sld hx hb hX hbl hbA hS (ix_in hi0 hi1 hL ex1 (by decide) (by decide)) dL_law_868 ?_
  refine lv_topi (fun a1 ea1 => ?_)
  have e_a1 : a1 = a0 := ea1.trans (by rw [ex1, ← ex0]; exact ea0.symm)
  rw [e_a1]
  refine cm_hush l C0 hA hN hK (Nat.le_of_ble_eq_true rfl) a0 hCM (P_perm List.perm_append_comm hP) (D_perm List.perm_append_comm hD) hS hl.1 hf (fun r2 wm H locs hans2 hCM hP hD hS => ?_)
  replace hP := P_perm List.perm_append_comm hP
  replace hD := D_perm List.perm_append_comm hD
  refine lv_pop hx hb dL_law_872 rfl ?_
  refine lv_goto (tgt := 1456) hx hb dL_law_873 (by decide) ?_
  refine W.widen (k := cells + 3) (n := slots + 464) (by omega) (by omega) ?_
  exact K _ _ _ _ _ _ _ _ _ _ _ _ _ _ wx wm _ _ ls hCX hCM hP hD hS hl

set_option maxHeartbeats 1000000 in
set_option maxRecDepth 100000 in
theorem lw_c_lie {p : Program} {e : Env} {s : State} {m : MethodId} {below : List Frame} {meth : Method} {c : Code} (l : Launch) {sb L : Nat} {xs : Nat → Int32} {A : Nat → Prop} (C0 : lw_At p s m meth c sb L xs) (hL : L ≤ 3072) (hA : ∀ q, s.heap.size ≤ q → A q) (hbA : ¬ A sb) {G : va_G} {cs : Nat → ClassId} {xe : XE} (hN : NW s) (hK : va_K G vwCl (tyL cs) s) (hxe : isRf xe.2.2) (hZ : XZ xe A s) {Q : State → Prop} {h0 m0 : Nat} {cells slots : Nat} (hf : cells ≤ 580000 ∧ slots ≤ 7290000) {i : Int32} (hi0 : 0 ≤ i.toInt) (hi1 : i.toInt + 6 ≤ (L : Int)) (K : ∀ (kx : Nat → Int32) (lx : Int32) (tx : Nat → Int32) (zw : Nat → Int) (zU : UL) (zl : Nat → List Cls) (zWI : Nat → Nat → Int) (zLI : Nat → Nat → List Cls) (zft : Int) (zsp : Int) (zmd : Int) (zla : Int) (zrf : Nat → Int32) (zD : ODr) (wx wm : va_W) (H : Heap) (locs : List Loc) (ls : Array Slot), CX cs h0 kx lx tx zw zU zl zWI zLI zft zsp zmd zla zrf zD wx → CM cs m0 kx lx tx zw zU zl zWI zLI zft zsp zmd zla zrf zD wm → va_P G vwCl (wx ++ wm) H → va_D A (wx ++ wm) → va_S A s.heap H locs → lv_has ls 4 [(0, .ref sb), (1, .ref h0), (2, .ref m0), (3, .int i)] → W p l e room_1 s m #[Value.ref sb] below meth c H locs (cells + 3) (slots + 464) Q (F0 m 1456 ls [])) {kx : Nat → Int32} {lx : Int32} {tx : Nat → Int32} {zw : Nat → Int} {zU : UL} {zl : Nat → List Cls} {zWI : Nat → Nat → Int} {zLI : Nat → Nat → List Cls} {zft : Int} {zsp : Int} {zmd : Int} {zla : Int} {zrf : Nat → Int32} {zD : ODr} {wx wm : va_W} {H : Heap} {locs : List Loc} {ls : Array Slot} (hCX : CX cs h0 kx lx tx zw zU zl zWI zLI zft zsp zmd zla zrf zD wx) (hCM : CM cs m0 kx lx tx zw zU zl zWI zLI zft zsp zmd zla zrf zD wm) (hP : va_P G vwCl (wx ++ wm) H) (hD : va_D A (wx ++ wm)) (hS : va_S A s.heap H locs) (hl : lv_has ls 4 [(0, .ref sb), (1, .ref h0), (2, .ref m0), (3, .int i)]) : W p l e room_1 s m #[Value.ref sb] below meth c H locs cells slots Q (F0 m 876 ls []) := by
  obtain ⟨hx, hb, hr, hml, hown, hts, hX, hbl, hlocks, hgv⟩ := id C0
  have hb : c.code = cL_law := hb
  have hown : s.vm.findClass RL = some m.cls := hown
  have htl := gW_l hts
  have hf : cells ≤ 590000 ∧ slots ≤ 7300000 := ⟨by omega, by omega⟩
  refine lv_aload_n hx hb dL_law_876 rfl (lv_at hl 1 rfl) ?_
  refine lv_aload_n hx hb dL_law_877 rfl (lv_at hl 0 rfl) ?_
  refine lv_iload_n hx hb dL_law_878 rfl (lv_at hl 3 rfl) ?_
  refine lv_iconst (v := 1) hx hb dL_law_879 (by decide) ?_
  refine lv_iadd hx hb dL_law_880 ?_
  refine lv_topi (fun ix0 ex0 => ?_)
  refine va_sld hx hb hX hbl hbA hS (ix_in hi0 hi1 hL ex0 (by decide) (by decide)) dL_law_881 ?_
  refine lv_topi (fun a0 ea0 => ?_)
  refine lv_aload_n hx hb dL_law_882 rfl (lv_at hl 0 rfl) ?_
  refine lv_iload_n hx hb dL_law_883 rfl (lv_at hl 3 rfl) ?_
  refine lv_iconst (v := 2) hx hb dL_law_884 (by decide) ?_
  refine lv_iadd hx hb dL_law_885 ?_
  refine lv_topi (fun ix1 ex1 => ?_)
  refine va_sld hx hb hX hbl hbA hS (ix_in hi0 hi1 hL ex1 (by decide) (by decide)) dL_law_886 ?_
  refine lv_topi (fun a1 ea1 => ?_)
  refine cx_lie l C0 hA hN hK hxe hZ a0 a1 hCX hP hD hS hl.1 hf (fun r wx H locs hans hCX hP hD hS => ?_)
  refine lv_pop hx hb dL_law_890 rfl ?_
  refine lv_aload_n hx hb dL_law_891 rfl (lv_at hl 2 rfl) ?_
  refine lv_aload_n hx hb dL_law_892 rfl (lv_at hl 0 rfl) ?_
  refine lv_iload_n hx hb dL_law_893 rfl (lv_at hl 3 rfl) ?_
  refine lv_iconst (v := 1) hx hb dL_law_894 (by decide) ?_
  refine lv_iadd hx hb dL_law_895 ?_
  refine lv_topi (fun ix2 ex2 => ?_)
  refine va_sld hx hb hX hbl hbA hS (ix_in hi0 hi1 hL ex2 (by decide) (by decide)) dL_law_896 ?_
  refine lv_topi (fun a2 ea2 => ?_)
  refine lv_aload_n hx hb dL_law_897 rfl (lv_at hl 0 rfl) ?_
  refine lv_iload_n hx hb dL_law_898 rfl (lv_at hl 3 rfl) ?_
  refine lv_iconst (v := 2) hx hb dL_law_899 (by decide) ?_
  refine lv_iadd hx hb dL_law_900 ?_
  refine lv_topi (fun ix3 ex3 => ?_)
  refine va_sld hx hb hX hbl hbA hS (ix_in hi0 hi1 hL ex3 (by decide) (by decide)) dL_law_901 ?_
  refine lv_topi (fun a3 ea3 => ?_)
  have e_a2 : a2 = a0 := ea2.trans (by rw [ex2, ← ex0]; exact ea0.symm)
  rw [e_a2]
  have e_a3 : a3 = a1 := ea3.trans (by rw [ex3, ← ex1]; exact ea1.symm)
  rw [e_a3]
  refine cm_lie l C0 hA hN hK (Nat.le_of_ble_eq_true rfl) a0 a1 hCM (P_perm List.perm_append_comm hP) (D_perm List.perm_append_comm hD) hS hl.1 hf (fun r2 wm H locs hans2 hCM hP hD hS => ?_)
  replace hP := P_perm List.perm_append_comm hP
  replace hD := D_perm List.perm_append_comm hD
  refine lv_pop hx hb dL_law_905 rfl ?_
  refine lv_goto (tgt := 1456) hx hb dL_law_906 (by decide) ?_
  refine W.widen (k := cells + 3) (n := slots + 464) (by omega) (by omega) ?_
  exact K _ _ _ _ _ _ _ _ _ _ _ _ _ _ wx wm _ _ ls hCX hCM hP hD hS hl

set_option maxHeartbeats 1000000 in
set_option maxRecDepth 100000 in
theorem lw_c_undo {p : Program} {e : Env} {s : State} {m : MethodId} {below : List Frame} {meth : Method} {c : Code} (l : Launch) {sb L : Nat} {xs : Nat → Int32} {A : Nat → Prop} (C0 : lw_At p s m meth c sb L xs) (hL : L ≤ 3072) (hA : ∀ q, s.heap.size ≤ q → A q) (hbA : ¬ A sb) {G : va_G} {cs : Nat → ClassId} {xe : XE} (hN : NW s) (hK : va_K G vwCl (tyL cs) s) (hxe : isRf xe.2.2) (hZ : XZ xe A s) {Q : State → Prop} {h0 m0 : Nat} {cells slots : Nat} (hf : cells ≤ 580000 ∧ slots ≤ 7290000) {i : Int32} (hi0 : 0 ≤ i.toInt) (hi1 : i.toInt + 6 ≤ (L : Int)) (K : ∀ (kx : Nat → Int32) (lx : Int32) (tx : Nat → Int32) (zw : Nat → Int) (zU : UL) (zl : Nat → List Cls) (zWI : Nat → Nat → Int) (zLI : Nat → Nat → List Cls) (zft : Int) (zsp : Int) (zmd : Int) (zla : Int) (zrf : Nat → Int32) (zD : ODr) (wx wm : va_W) (H : Heap) (locs : List Loc) (ls : Array Slot), CX cs h0 kx lx tx zw zU zl zWI zLI zft zsp zmd zla zrf zD wx → CM cs m0 kx lx tx zw zU zl zWI zLI zft zsp zmd zla zrf zD wm → va_P G vwCl (wx ++ wm) H → va_D A (wx ++ wm) → va_S A s.heap H locs → lv_has ls 4 [(0, .ref sb), (1, .ref h0), (2, .ref m0), (3, .int i)] → W p l e room_1 s m #[Value.ref sb] below meth c H locs (cells + 3) (slots + 464) Q (F0 m 1456 ls [])) {kx : Nat → Int32} {lx : Int32} {tx : Nat → Int32} {zw : Nat → Int} {zU : UL} {zl : Nat → List Cls} {zWI : Nat → Nat → Int} {zLI : Nat → Nat → List Cls} {zft : Int} {zsp : Int} {zmd : Int} {zla : Int} {zrf : Nat → Int32} {zD : ODr} {wx wm : va_W} {H : Heap} {locs : List Loc} {ls : Array Slot} (hCX : CX cs h0 kx lx tx zw zU zl zWI zLI zft zsp zmd zla zrf zD wx) (hCM : CM cs m0 kx lx tx zw zU zl zWI zLI zft zsp zmd zla zrf zD wm) (hP : va_P G vwCl (wx ++ wm) H) (hD : va_D A (wx ++ wm)) (hS : va_S A s.heap H locs) (hl : lv_has ls 4 [(0, .ref sb), (1, .ref h0), (2, .ref m0), (3, .int i)]) : W p l e room_1 s m #[Value.ref sb] below meth c H locs cells slots Q (F0 m 909 ls []) := by
  obtain ⟨hx, hb, hr, hml, hown, hts, hX, hbl, hlocks, hgv⟩ := id C0
  have hb : c.code = cL_law := hb
  have hown : s.vm.findClass RL = some m.cls := hown
  have htl := gW_l hts
  have hf : cells ≤ 590000 ∧ slots ≤ 7300000 := ⟨by omega, by omega⟩
  refine lv_aload_n hx hb dL_law_909 rfl (lv_at hl 1 rfl) ?_
  refine cx_undo l C0 hA hN hK hxe hZ  hCX hP hD hS hl.1 hf (fun r wx H locs hans hCX hP hD hS => ?_)
  refine lv_pop hx hb dL_law_913 rfl ?_
  refine lv_aload_n hx hb dL_law_914 rfl (lv_at hl 2 rfl) ?_
  refine cm_undo l C0 hA hN hK (Nat.le_of_ble_eq_true rfl)  hCM (P_perm List.perm_append_comm hP) (D_perm List.perm_append_comm hD) hS hl.1 hf (fun r2 wm H locs hans2 hCM hP hD hS => ?_)
  replace hP := P_perm List.perm_append_comm hP
  replace hD := D_perm List.perm_append_comm hD
  refine lv_pop hx hb dL_law_918 rfl ?_
  refine lv_goto (tgt := 1456) hx hb dL_law_919 (by decide) ?_
  refine W.widen (k := cells + 3) (n := slots + 464) (by omega) (by omega) ?_
  exact K _ _ _ _ _ _ _ _ _ _ _ _ _ _ wx wm _ _ ls hCX hCM hP hD hS hl

set_option maxHeartbeats 1000000 in
set_option maxRecDepth 100000 in
theorem lw_c_down {p : Program} {e : Env} {s : State} {m : MethodId} {below : List Frame} {meth : Method} {c : Code} (l : Launch) {sb L : Nat} {xs : Nat → Int32} {A : Nat → Prop} (C0 : lw_At p s m meth c sb L xs) (hL : L ≤ 3072) (hA : ∀ q, s.heap.size ≤ q → A q) (hbA : ¬ A sb) {G : va_G} {cs : Nat → ClassId} {xe : XE} (hN : NW s) (hK : va_K G vwCl (tyL cs) s) (hxe : isRf xe.2.2) (hZ : XZ xe A s) {Q : State → Prop} {h0 m0 : Nat} {cells slots : Nat} (hf : cells ≤ 580000 ∧ slots ≤ 7290000) {i : Int32} (hi0 : 0 ≤ i.toInt) (hi1 : i.toInt + 6 ≤ (L : Int)) (K : ∀ (kx : Nat → Int32) (lx : Int32) (tx : Nat → Int32) (zw : Nat → Int) (zU : UL) (zl : Nat → List Cls) (zWI : Nat → Nat → Int) (zLI : Nat → Nat → List Cls) (zft : Int) (zsp : Int) (zmd : Int) (zla : Int) (zrf : Nat → Int32) (zD : ODr) (wx wm : va_W) (H : Heap) (locs : List Loc) (ls : Array Slot), CX cs h0 kx lx tx zw zU zl zWI zLI zft zsp zmd zla zrf zD wx → CM cs m0 kx lx tx zw zU zl zWI zLI zft zsp zmd zla zrf zD wm → va_P G vwCl (wx ++ wm) H → va_D A (wx ++ wm) → va_S A s.heap H locs → lv_has ls 4 [(0, .ref sb), (1, .ref h0), (2, .ref m0), (3, .int i)] → W p l e room_1 s m #[Value.ref sb] below meth c H locs (cells + 3) (slots + 464) Q (F0 m 1456 ls [])) {kx : Nat → Int32} {lx : Int32} {tx : Nat → Int32} {zw : Nat → Int} {zU : UL} {zl : Nat → List Cls} {zWI : Nat → Nat → Int} {zLI : Nat → Nat → List Cls} {zft : Int} {zsp : Int} {zmd : Int} {zla : Int} {zrf : Nat → Int32} {zD : ODr} {wx wm : va_W} {H : Heap} {locs : List Loc} {ls : Array Slot} (hCX : CX cs h0 kx lx tx zw zU zl zWI zLI zft zsp zmd zla zrf zD wx) (hCM : CM cs m0 kx lx tx zw zU zl zWI zLI zft zsp zmd zla zrf zD wm) (hP : va_P G vwCl (wx ++ wm) H) (hD : va_D A (wx ++ wm)) (hS : va_S A s.heap H locs) (hl : lv_has ls 4 [(0, .ref sb), (1, .ref h0), (2, .ref m0), (3, .int i)]) : W p l e room_1 s m #[Value.ref sb] below meth c H locs cells slots Q (F0 m 922 ls []) := by
  obtain ⟨hx, hb, hr, hml, hown, hts, hX, hbl, hlocks, hgv⟩ := id C0
  have hb : c.code = cL_law := hb
  have hown : s.vm.findClass RL = some m.cls := hown
  have htl := gW_l hts
  have hf : cells ≤ 590000 ∧ slots ≤ 7300000 := ⟨by omega, by omega⟩
  refine lv_aload_n hx hb dL_law_922 rfl (lv_at hl 1 rfl) ?_
  refine lv_aload_n hx hb dL_law_923 rfl (lv_at hl 0 rfl) ?_
  refine lv_iload_n hx hb dL_law_924 rfl (lv_at hl 3 rfl) ?_
  refine lv_iconst (v := 1) hx hb dL_law_925 (by decide) ?_
  refine lv_iadd hx hb dL_law_926 ?_
  refine lv_topi (fun ix0 ex0 => ?_)
  refine va_sld hx hb hX hbl hbA hS (ix_in hi0 hi1 hL ex0 (by decide) (by decide)) dL_law_927 ?_
  refine lv_topi (fun a0 ea0 => ?_)
  refine lv_aload_n hx hb dL_law_928 rfl (lv_at hl 0 rfl) ?_
  refine lv_iload_n hx hb dL_law_929 rfl (lv_at hl 3 rfl) ?_
  refine lv_iconst (v := 2) hx hb dL_law_930 (by decide) ?_
  refine lv_iadd hx hb dL_law_931 ?_
  refine lv_topi (fun ix1 ex1 => ?_)
  refine va_sld hx hb hX hbl hbA hS (ix_in hi0 hi1 hL ex1 (by decide) (by decide)) dL_law_932 ?_
  refine lv_topi (fun a1 ea1 => ?_)
  refine lv_aload_n hx hb dL_law_933 rfl (lv_at hl 0 rfl) ?_
  refine lv_iload_n hx hb dL_law_934 rfl (lv_at hl 3 rfl) ?_
  refine lv_iconst (v := 3) hx hb dL_law_935 (by decide) ?_
  refine lv_iadd hx hb dL_law_936 ?_
  refine lv_topi (fun ix2 ex2 => ?_)
  refine va_sld hx hb hX hbl hbA hS (ix_in hi0 hi1 hL ex2 (by decide) (by decide)) dL_law_937 ?_
  refine lv_topi (fun a2 ea2 => ?_)
  refine cx_down l C0 hA hN hK hxe hZ a0 a1 a2 hCX hP hD hS hl.1 hf (fun r wx H locs hans hCX hP hD hS => ?_)
  refine lv_pop hx hb dL_law_941 rfl ?_
  refine lv_aload_n hx hb dL_law_942 rfl (lv_at hl 2 rfl) ?_
  refine lv_aload_n hx hb dL_law_943 rfl (lv_at hl 0 rfl) ?_
  refine lv_iload_n hx hb dL_law_944 rfl (lv_at hl 3 rfl) ?_
  refine lv_iconst (v := 1) hx hb dL_law_945 (by decide) ?_
  refine lv_iadd hx hb dL_law_946 ?_
  refine lv_topi (fun ix3 ex3 => ?_)
  refine va_sld hx hb hX hbl hbA hS (ix_in hi0 hi1 hL ex3 (by decide) (by decide)) dL_law_947 ?_
  refine lv_topi (fun a3 ea3 => ?_)
  refine lv_aload_n hx hb dL_law_948 rfl (lv_at hl 0 rfl) ?_
  refine lv_iload_n hx hb dL_law_949 rfl (lv_at hl 3 rfl) ?_
  refine lv_iconst (v := 2) hx hb dL_law_950 (by decide) ?_
  refine lv_iadd hx hb dL_law_951 ?_
  refine lv_topi (fun ix4 ex4 => ?_)
  refine va_sld hx hb hX hbl hbA hS (ix_in hi0 hi1 hL ex4 (by decide) (by decide)) dL_law_952 ?_
  refine lv_topi (fun a4 ea4 => ?_)
  refine lv_aload_n hx hb dL_law_953 rfl (lv_at hl 0 rfl) ?_
  refine lv_iload_n hx hb dL_law_954 rfl (lv_at hl 3 rfl) ?_
  refine lv_iconst (v := 3) hx hb dL_law_955 (by decide) ?_
  refine lv_iadd hx hb dL_law_956 ?_
  refine lv_topi (fun ix5 ex5 => ?_)
  refine va_sld hx hb hX hbl hbA hS (ix_in hi0 hi1 hL ex5 (by decide) (by decide)) dL_law_957 ?_
  refine lv_topi (fun a5 ea5 => ?_)
  have e_a3 : a3 = a0 := ea3.trans (by rw [ex3, ← ex0]; exact ea0.symm)
  rw [e_a3]
  have e_a4 : a4 = a1 := ea4.trans (by rw [ex4, ← ex1]; exact ea1.symm)
  rw [e_a4]
  have e_a5 : a5 = a2 := ea5.trans (by rw [ex5, ← ex2]; exact ea2.symm)
  rw [e_a5]
  refine cm_down l C0 hA hN hK (Nat.le_of_ble_eq_true rfl) a0 a1 a2 hCM (P_perm List.perm_append_comm hP) (D_perm List.perm_append_comm hD) hS hl.1 hf (fun r2 wm H locs hans2 hCM hP hD hS => ?_)
  replace hP := P_perm List.perm_append_comm hP
  replace hD := D_perm List.perm_append_comm hD
  refine lv_pop hx hb dL_law_961 rfl ?_
  refine lv_goto (tgt := 1456) hx hb dL_law_962 (by decide) ?_
  refine W.widen (k := cells + 3) (n := slots + 464) (by omega) (by omega) ?_
  exact K _ _ _ _ _ _ _ _ _ _ _ _ _ _ wx wm _ _ ls hCX hCM hP hD hS hl

set_option maxHeartbeats 1000000 in
set_option maxRecDepth 100000 in
theorem lw_c_gangs {p : Program} {e : Env} {s : State} {m : MethodId} {below : List Frame} {meth : Method} {c : Code} (l : Launch) {sb L : Nat} {xs : Nat → Int32} {A : Nat → Prop} (C0 : lw_At p s m meth c sb L xs) (hL : L ≤ 3072) (hA : ∀ q, s.heap.size ≤ q → A q) (hbA : ¬ A sb) {G : va_G} {cs : Nat → ClassId} {xe : XE} (hN : NW s) (hK : va_K G vwCl (tyL cs) s) (hxe : isRf xe.2.2) (hZ : XZ xe A s) {Q : State → Prop} {h0 m0 : Nat} {cells slots : Nat} (hf : cells ≤ 580000 ∧ slots ≤ 7290000) {i : Int32} (hi0 : 0 ≤ i.toInt) (hi1 : i.toInt + 6 ≤ (L : Int)) (K : ∀ (kx : Nat → Int32) (lx : Int32) (tx : Nat → Int32) (zw : Nat → Int) (zU : UL) (zl : Nat → List Cls) (zWI : Nat → Nat → Int) (zLI : Nat → Nat → List Cls) (zft : Int) (zsp : Int) (zmd : Int) (zla : Int) (zrf : Nat → Int32) (zD : ODr) (wx wm : va_W) (H : Heap) (locs : List Loc) (ls : Array Slot), CX cs h0 kx lx tx zw zU zl zWI zLI zft zsp zmd zla zrf zD wx → CM cs m0 kx lx tx zw zU zl zWI zLI zft zsp zmd zla zrf zD wm → va_P G vwCl (wx ++ wm) H → va_D A (wx ++ wm) → va_S A s.heap H locs → lv_has ls 4 [(0, .ref sb), (1, .ref h0), (2, .ref m0), (3, .int i)] → W p l e room_1 s m #[Value.ref sb] below meth c H locs (cells + 3) (slots + 464) Q (F0 m 1456 ls [])) {kx : Nat → Int32} {lx : Int32} {tx : Nat → Int32} {zw : Nat → Int} {zU : UL} {zl : Nat → List Cls} {zWI : Nat → Nat → Int} {zLI : Nat → Nat → List Cls} {zft : Int} {zsp : Int} {zmd : Int} {zla : Int} {zrf : Nat → Int32} {zD : ODr} {wx wm : va_W} {H : Heap} {locs : List Loc} {ls : Array Slot} (hCX : CX cs h0 kx lx tx zw zU zl zWI zLI zft zsp zmd zla zrf zD wx) (hCM : CM cs m0 kx lx tx zw zU zl zWI zLI zft zsp zmd zla zrf zD wm) (hP : va_P G vwCl (wx ++ wm) H) (hD : va_D A (wx ++ wm)) (hS : va_S A s.heap H locs) (hl : lv_has ls 4 [(0, .ref sb), (1, .ref h0), (2, .ref m0), (3, .int i)]) : W p l e room_1 s m #[Value.ref sb] below meth c H locs cells slots Q (F0 m 965 ls []) := by
  obtain ⟨hx, hb, hr, hml, hown, hts, hX, hbl, hlocks, hgv⟩ := id C0
  have hb : c.code = cL_law := hb
  have hown : s.vm.findClass RL = some m.cls := hown
  have htl := gW_l hts
  have hf : cells ≤ 590000 ∧ slots ≤ 7300000 := ⟨by omega, by omega⟩
  refine lv_aload_n hx hb dL_law_965 rfl (lv_at hl 1 rfl) ?_
  refine lv_aload_n hx hb dL_law_966 rfl (lv_at hl 0 rfl) ?_
  refine lv_iload_n hx hb dL_law_967 rfl (lv_at hl 3 rfl) ?_
  refine lv_iconst (v := 1) hx hb dL_law_968 (by decide) ?_
  refine lv_iadd hx hb dL_law_969 ?_
  refine lv_topi (fun ix0 ex0 => ?_)
  refine va_sld hx hb hX hbl hbA hS (ix_in hi0 hi1 hL ex0 (by decide) (by decide)) dL_law_970 ?_
  refine lv_topi (fun a0 ea0 => ?_)
  refine lv_i2l (v := a0.toInt64) hx hb dL_law_971 (by first | rfl | decide) ?_
  refine lv_bipush (v := 32) hx hb dL_law_972 (by decide) ?_
  refine lv_lshl (v := (a0.toInt64 <<< ((32 : Int32).toInt64 &&& 63))) hx hb dL_law_974 (by first | rfl | decide) ?_
  refine lv_aload_n hx hb dL_law_975 rfl (lv_at hl 0 rfl) ?_
  refine lv_iload_n hx hb dL_law_976 rfl (lv_at hl 3 rfl) ?_
  refine lv_iconst (v := 2) hx hb dL_law_977 (by decide) ?_
  refine lv_iadd hx hb dL_law_978 ?_
  refine lv_topi (fun ix1 ex1 => ?_)
  refine va_sld hx hb hX hbl hbA hS (ix_in hi0 hi1 hL ex1 (by decide) (by decide)) dL_law_979 ?_
  refine lv_topi (fun a1 ea1 => ?_)
  refine lv_i2l (v := a1.toInt64) hx hb dL_law_980 (by first | rfl | decide) ?_
  refine lv_ldc2 hx hb hown (htl _ ct_RL_127) dL_law_981 ?_
  refine lv_land hx hb dL_law_984 ?_
  refine lv_lor hx hb dL_law_985 ?_
  refine lv_topl (fun g2 eg2 => ?_)
  refine lv_aload_n hx hb dL_law_986 rfl (lv_at hl 0 rfl) ?_
  refine lv_iload_n hx hb dL_law_987 rfl (lv_at hl 3 rfl) ?_
  refine lv_iconst (v := 3) hx hb dL_law_988 (by decide) ?_
  refine lv_iadd hx hb dL_law_989 ?_
  refine lv_topi (fun ix2 ex2 => ?_)
  refine va_sld hx hb hX hbl hbA hS (ix_in hi0 hi1 hL ex2 (by decide) (by decide)) dL_law_990 ?_
  refine lv_topi (fun a2 ea2 => ?_)
  refine cx_gangs l C0 hA hN hK hxe hZ g2 a2 hCX hP hD hS hl.1 hf (fun r wx H locs hans hCX hP hD hS => ?_)
  refine lv_aload_n hx hb dL_law_994 rfl (lv_at hl 2 rfl) ?_
  refine lv_aload_n hx hb dL_law_995 rfl (lv_at hl 0 rfl) ?_
  refine lv_iload_n hx hb dL_law_996 rfl (lv_at hl 3 rfl) ?_
  refine lv_iconst (v := 1) hx hb dL_law_997 (by decide) ?_
  refine lv_iadd hx hb dL_law_998 ?_
  refine lv_topi (fun ix3 ex3 => ?_)
  refine va_sld hx hb hX hbl hbA hS (ix_in hi0 hi1 hL ex3 (by decide) (by decide)) dL_law_999 ?_
  refine lv_topi (fun a3 ea3 => ?_)
  refine lv_i2l (v := a3.toInt64) hx hb dL_law_1000 (by first | rfl | decide) ?_
  refine lv_bipush (v := 32) hx hb dL_law_1001 (by decide) ?_
  refine lv_lshl (v := (a3.toInt64 <<< ((32 : Int32).toInt64 &&& 63))) hx hb dL_law_1003 (by first | rfl | decide) ?_
  refine lv_aload_n hx hb dL_law_1004 rfl (lv_at hl 0 rfl) ?_
  refine lv_iload_n hx hb dL_law_1005 rfl (lv_at hl 3 rfl) ?_
  refine lv_iconst (v := 2) hx hb dL_law_1006 (by decide) ?_
  refine lv_iadd hx hb dL_law_1007 ?_
  refine lv_topi (fun ix4 ex4 => ?_)
  refine va_sld hx hb hX hbl hbA hS (ix_in hi0 hi1 hL ex4 (by decide) (by decide)) dL_law_1008 ?_
  refine lv_topi (fun a4 ea4 => ?_)
  refine lv_i2l (v := a4.toInt64) hx hb dL_law_1009 (by first | rfl | decide) ?_
  refine lv_ldc2 hx hb hown (htl _ ct_RL_127) dL_law_1010 ?_
  refine lv_land hx hb dL_law_1013 ?_
  refine lv_lor hx hb dL_law_1014 ?_
  refine lv_topl (fun g5 eg5 => ?_)
  refine lv_aload_n hx hb dL_law_1015 rfl (lv_at hl 0 rfl) ?_
  refine lv_iload_n hx hb dL_law_1016 rfl (lv_at hl 3 rfl) ?_
  refine lv_iconst (v := 3) hx hb dL_law_1017 (by decide) ?_
  refine lv_iadd hx hb dL_law_1018 ?_
  refine lv_topi (fun ix5 ex5 => ?_)
  refine va_sld hx hb hX hbl hbA hS (ix_in hi0 hi1 hL ex5 (by decide) (by decide)) dL_law_1019 ?_
  refine lv_topi (fun a5 ea5 => ?_)
  have e_a3 : a3 = a0 := ea3.trans (by rw [ex3, ← ex0]; exact ea0.symm)
  have e_a4 : a4 = a1 := ea4.trans (by rw [ex4, ← ex1]; exact ea1.symm)
  have e_a5 : a5 = a2 := ea5.trans (by rw [ex5, ← ex2]; exact ea2.symm)
  have e_g5 : g5 = g2 := by rw [eg5, eg2, e_a3, e_a4]
  rw [e_g5]
  rw [e_a5]
  refine cm_gangs l C0 hA hN hK (Nat.le_of_ble_eq_true rfl) g2 a2 hCM (P_perm List.perm_append_comm hP) (D_perm List.perm_append_comm hD) hS hl.1 hf (fun r2 wm H locs hans2 hCM hP hD hS => ?_)
  replace hP := P_perm List.perm_append_comm hP
  replace hD := D_perm List.perm_append_comm hD
  refine lv_icmp_eq (tgt := 1456) hx hb dL_law_1023 (by decide) (fun _ => ?_) (fun h9 => absurd (Int32.toInt_inj.mp (hans.trans hans2.symm)) h9)
  refine W.widen (k := cells + 3) (n := slots + 464) (by omega) (by omega) ?_
  exact K _ _ _ _ _ _ _ _ _ _ _ _ _ _ wx wm _ _ ls hCX hCM hP hD hS hl

set_option maxHeartbeats 1000000 in
set_option maxRecDepth 100000 in
theorem lw_c_quiet {p : Program} {e : Env} {s : State} {m : MethodId} {below : List Frame} {meth : Method} {c : Code} (l : Launch) {sb L : Nat} {xs : Nat → Int32} {A : Nat → Prop} (C0 : lw_At p s m meth c sb L xs) (hL : L ≤ 3072) (hA : ∀ q, s.heap.size ≤ q → A q) (hbA : ¬ A sb) {G : va_G} {cs : Nat → ClassId} {xe : XE} (hN : NW s) (hK : va_K G vwCl (tyL cs) s) (hxe : isRf xe.2.2) (hZ : XZ xe A s) {Q : State → Prop} {h0 m0 : Nat} {cells slots : Nat} (hf : cells ≤ 580000 ∧ slots ≤ 7290000) {i : Int32} (hi0 : 0 ≤ i.toInt) (hi1 : i.toInt + 6 ≤ (L : Int)) (K : ∀ (kx : Nat → Int32) (lx : Int32) (tx : Nat → Int32) (zw : Nat → Int) (zU : UL) (zl : Nat → List Cls) (zWI : Nat → Nat → Int) (zLI : Nat → Nat → List Cls) (zft : Int) (zsp : Int) (zmd : Int) (zla : Int) (zrf : Nat → Int32) (zD : ODr) (wx wm : va_W) (H : Heap) (locs : List Loc) (ls : Array Slot), CX cs h0 kx lx tx zw zU zl zWI zLI zft zsp zmd zla zrf zD wx → CM cs m0 kx lx tx zw zU zl zWI zLI zft zsp zmd zla zrf zD wm → va_P G vwCl (wx ++ wm) H → va_D A (wx ++ wm) → va_S A s.heap H locs → lv_has ls 4 [(0, .ref sb), (1, .ref h0), (2, .ref m0), (3, .int i)] → W p l e room_1 s m #[Value.ref sb] below meth c H locs (cells + 3) (slots + 464) Q (F0 m 1456 ls [])) {kx : Nat → Int32} {lx : Int32} {tx : Nat → Int32} {zw : Nat → Int} {zU : UL} {zl : Nat → List Cls} {zWI : Nat → Nat → Int} {zLI : Nat → Nat → List Cls} {zft : Int} {zsp : Int} {zmd : Int} {zla : Int} {zrf : Nat → Int32} {zD : ODr} {wx wm : va_W} {H : Heap} {locs : List Loc} {ls : Array Slot} (hCX : CX cs h0 kx lx tx zw zU zl zWI zLI zft zsp zmd zla zrf zD wx) (hCM : CM cs m0 kx lx tx zw zU zl zWI zLI zft zsp zmd zla zrf zD wm) (hP : va_P G vwCl (wx ++ wm) H) (hD : va_D A (wx ++ wm)) (hS : va_S A s.heap H locs) (hl : lv_has ls 4 [(0, .ref sb), (1, .ref h0), (2, .ref m0), (3, .int i)]) : W p l e room_1 s m #[Value.ref sb] below meth c H locs cells slots Q (F0 m 1028 ls []) := by
  obtain ⟨hx, hb, hr, hml, hown, hts, hX, hbl, hlocks, hgv⟩ := id C0
  have hb : c.code = cL_law := hb
  have hown : s.vm.findClass RL = some m.cls := hown
  have htl := gW_l hts
  have hf : cells ≤ 590000 ∧ slots ≤ 7300000 := ⟨by omega, by omega⟩
  refine lv_aload_n hx hb dL_law_1028 rfl (lv_at hl 1 rfl) ?_
  refine lv_aload_n hx hb dL_law_1029 rfl (lv_at hl 0 rfl) ?_
  refine lv_iload_n hx hb dL_law_1030 rfl (lv_at hl 3 rfl) ?_
  refine lv_iconst (v := 1) hx hb dL_law_1031 (by decide) ?_
  refine lv_iadd hx hb dL_law_1032 ?_
  refine lv_topi (fun ix0 ex0 => ?_)
  refine va_sld hx hb hX hbl hbA hS (ix_in hi0 hi1 hL ex0 (by decide) (by decide)) dL_law_1033 ?_
  refine lv_topi (fun a0 ea0 => ?_)
  refine lv_aload_n hx hb dL_law_1034 rfl (lv_at hl 0 rfl) ?_
  refine lv_iload_n hx hb dL_law_1035 rfl (lv_at hl 3 rfl) ?_
  refine lv_iconst (v := 2) hx hb dL_law_1036 (by decide) ?_
  refine lv_iadd hx hb dL_law_1037 ?_
  refine lv_topi (fun ix1 ex1 => ?_)
  refine va_sld hx hb hX hbl hbA hS (ix_in hi0 hi1 hL ex1 (by decide) (by decide)) dL_law_1038 ?_
  refine lv_topi (fun a1 ea1 => ?_)
  refine lv_aload_n hx hb dL_law_1039 rfl (lv_at hl 0 rfl) ?_
  refine lv_iload_n hx hb dL_law_1040 rfl (lv_at hl 3 rfl) ?_
  refine lv_iconst (v := 3) hx hb dL_law_1041 (by decide) ?_
  refine lv_iadd hx hb dL_law_1042 ?_
  refine lv_topi (fun ix2 ex2 => ?_)
  refine va_sld hx hb hX hbl hbA hS (ix_in hi0 hi1 hL ex2 (by decide) (by decide)) dL_law_1043 ?_
  refine lv_topi (fun a2 ea2 => ?_)
  refine cx_quiet l C0 hA hN hK hxe hZ a0 a1 a2 hCX hP hD hS hl.1 hf (fun r wx H locs hans hCX hP hD hS => ?_)
  refine lv_pop hx hb dL_law_1047 rfl ?_
  refine lv_aload_n hx hb dL_law_1048 rfl (lv_at hl 2 rfl) ?_
  refine lv_aload_n hx hb dL_law_1049 rfl (lv_at hl 0 rfl) ?_
  refine lv_iload_n hx hb dL_law_1050 rfl (lv_at hl 3 rfl) ?_
  refine lv_iconst (v := 1) hx hb dL_law_1051 (by decide) ?_
  refine lv_iadd hx hb dL_law_1052 ?_
  refine lv_topi (fun ix3 ex3 => ?_)
  refine va_sld hx hb hX hbl hbA hS (ix_in hi0 hi1 hL ex3 (by decide) (by decide)) dL_law_1053 ?_
  refine lv_topi (fun a3 ea3 => ?_)
  refine lv_aload_n hx hb dL_law_1054 rfl (lv_at hl 0 rfl) ?_
  refine lv_iload_n hx hb dL_law_1055 rfl (lv_at hl 3 rfl) ?_
  refine lv_iconst (v := 2) hx hb dL_law_1056 (by decide) ?_
  refine lv_iadd hx hb dL_law_1057 ?_
  refine lv_topi (fun ix4 ex4 => ?_)
  refine va_sld hx hb hX hbl hbA hS (ix_in hi0 hi1 hL ex4 (by decide) (by decide)) dL_law_1058 ?_
  refine lv_topi (fun a4 ea4 => ?_)
  refine lv_aload_n hx hb dL_law_1059 rfl (lv_at hl 0 rfl) ?_
  refine lv_iload_n hx hb dL_law_1060 rfl (lv_at hl 3 rfl) ?_
  refine lv_iconst (v := 3) hx hb dL_law_1061 (by decide) ?_
  refine lv_iadd hx hb dL_law_1062 ?_
  refine lv_topi (fun ix5 ex5 => ?_)
  refine va_sld hx hb hX hbl hbA hS (ix_in hi0 hi1 hL ex5 (by decide) (by decide)) dL_law_1063 ?_
  refine lv_topi (fun a5 ea5 => ?_)
  have e_a3 : a3 = a0 := ea3.trans (by rw [ex3, ← ex0]; exact ea0.symm)
  rw [e_a3]
  have e_a4 : a4 = a1 := ea4.trans (by rw [ex4, ← ex1]; exact ea1.symm)
  rw [e_a4]
  have e_a5 : a5 = a2 := ea5.trans (by rw [ex5, ← ex2]; exact ea2.symm)
  rw [e_a5]
  refine cm_quiet l C0 hA hN hK (Nat.le_of_ble_eq_true rfl) a0 a1 a2 hCM (P_perm List.perm_append_comm hP) (D_perm List.perm_append_comm hD) hS hl.1 hf (fun r2 wm H locs hans2 hCM hP hD hS => ?_)
  replace hP := P_perm List.perm_append_comm hP
  replace hD := D_perm List.perm_append_comm hD
  refine lv_pop hx hb dL_law_1067 rfl ?_
  refine lv_goto (tgt := 1456) hx hb dL_law_1068 (by decide) ?_
  refine W.widen (k := cells + 3) (n := slots + 464) (by omega) (by omega) ?_
  exact K _ _ _ _ _ _ _ _ _ _ _ _ _ _ wx wm _ _ ls hCX hCM hP hD hS hl

set_option maxHeartbeats 1000000 in
set_option maxRecDepth 100000 in
theorem lw_c_heard {p : Program} {e : Env} {s : State} {m : MethodId} {below : List Frame} {meth : Method} {c : Code} (l : Launch) {sb L : Nat} {xs : Nat → Int32} {A : Nat → Prop} (C0 : lw_At p s m meth c sb L xs) (hL : L ≤ 3072) (hA : ∀ q, s.heap.size ≤ q → A q) (hbA : ¬ A sb) {G : va_G} {cs : Nat → ClassId} {xe : XE} (hN : NW s) (hK : va_K G vwCl (tyL cs) s) (hxe : isRf xe.2.2) (hZ : XZ xe A s) {Q : State → Prop} {h0 m0 : Nat} {cells slots : Nat} (hf : cells ≤ 580000 ∧ slots ≤ 7290000) {i : Int32} (hi0 : 0 ≤ i.toInt) (hi1 : i.toInt + 6 ≤ (L : Int)) (K : ∀ (kx : Nat → Int32) (lx : Int32) (tx : Nat → Int32) (zw : Nat → Int) (zU : UL) (zl : Nat → List Cls) (zWI : Nat → Nat → Int) (zLI : Nat → Nat → List Cls) (zft : Int) (zsp : Int) (zmd : Int) (zla : Int) (zrf : Nat → Int32) (zD : ODr) (wx wm : va_W) (H : Heap) (locs : List Loc) (ls : Array Slot), CX cs h0 kx lx tx zw zU zl zWI zLI zft zsp zmd zla zrf zD wx → CM cs m0 kx lx tx zw zU zl zWI zLI zft zsp zmd zla zrf zD wm → va_P G vwCl (wx ++ wm) H → va_D A (wx ++ wm) → va_S A s.heap H locs → lv_has ls 4 [(0, .ref sb), (1, .ref h0), (2, .ref m0), (3, .int i)] → W p l e room_1 s m #[Value.ref sb] below meth c H locs (cells + 3) (slots + 464) Q (F0 m 1456 ls [])) {kx : Nat → Int32} {lx : Int32} {tx : Nat → Int32} {zw : Nat → Int} {zU : UL} {zl : Nat → List Cls} {zWI : Nat → Nat → Int} {zLI : Nat → Nat → List Cls} {zft : Int} {zsp : Int} {zmd : Int} {zla : Int} {zrf : Nat → Int32} {zD : ODr} {wx wm : va_W} {H : Heap} {locs : List Loc} {ls : Array Slot} (hCX : CX cs h0 kx lx tx zw zU zl zWI zLI zft zsp zmd zla zrf zD wx) (hCM : CM cs m0 kx lx tx zw zU zl zWI zLI zft zsp zmd zla zrf zD wm) (hP : va_P G vwCl (wx ++ wm) H) (hD : va_D A (wx ++ wm)) (hS : va_S A s.heap H locs) (hl : lv_has ls 4 [(0, .ref sb), (1, .ref h0), (2, .ref m0), (3, .int i)]) : W p l e room_1 s m #[Value.ref sb] below meth c H locs cells slots Q (F0 m 1071 ls []) := by
  obtain ⟨hx, hb, hr, hml, hown, hts, hX, hbl, hlocks, hgv⟩ := id C0
  have hb : c.code = cL_law := hb
  have hown : s.vm.findClass RL = some m.cls := hown
  have htl := gW_l hts
  have hf : cells ≤ 590000 ∧ slots ≤ 7300000 := ⟨by omega, by omega⟩
  refine lv_aload_n hx hb dL_law_1071 rfl (lv_at hl 1 rfl) ?_
  refine lv_aload_n hx hb dL_law_1072 rfl (lv_at hl 0 rfl) ?_
  refine lv_iload_n hx hb dL_law_1073 rfl (lv_at hl 3 rfl) ?_
  refine lv_iconst (v := 1) hx hb dL_law_1074 (by decide) ?_
  refine lv_iadd hx hb dL_law_1075 ?_
  refine lv_topi (fun ix0 ex0 => ?_)
  refine va_sld hx hb hX hbl hbA hS (ix_in hi0 hi1 hL ex0 (by decide) (by decide)) dL_law_1076 ?_
  refine lv_topi (fun a0 ea0 => ?_)
  refine lv_aload_n hx hb dL_law_1077 rfl (lv_at hl 0 rfl) ?_
  refine lv_iload_n hx hb dL_law_1078 rfl (lv_at hl 3 rfl) ?_
  refine lv_iconst (v := 2) hx hb dL_law_1079 (by decide) ?_
  refine lv_iadd hx hb dL_law_1080 ?_
  refine lv_topi (fun ix1 ex1 => ?_)
  refine va_sld hx hb hX hbl hbA hS (ix_in hi0 hi1 hL ex1 (by decide) (by decide)) dL_law_1081 ?_
  refine lv_topi (fun a1 ea1 => ?_)
  refine cx_heard l C0 hA hN hK hxe hZ a0 a1 hCX hP hD hS hl.1 hf (fun r wx H locs hans hCX hP hD hS => ?_)
  refine lv_pop hx hb dL_law_1085 rfl ?_
  refine lv_aload_n hx hb dL_law_1086 rfl (lv_at hl 2 rfl) ?_
  refine lv_aload_n hx hb dL_law_1087 rfl (lv_at hl 0 rfl) ?_
  refine lv_iload_n hx hb dL_law_1088 rfl (lv_at hl 3 rfl) ?_
  refine lv_iconst (v := 1) hx hb dL_law_1089 (by decide) ?_
  refine lv_iadd hx hb dL_law_1090 ?_
  refine lv_topi (fun ix2 ex2 => ?_)
  refine va_sld hx hb hX hbl hbA hS (ix_in hi0 hi1 hL ex2 (by decide) (by decide)) dL_law_1091 ?_
  refine lv_topi (fun a2 ea2 => ?_)
  refine lv_aload_n hx hb dL_law_1092 rfl (lv_at hl 0 rfl) ?_
  refine lv_iload_n hx hb dL_law_1093 rfl (lv_at hl 3 rfl) ?_
  refine lv_iconst (v := 2) hx hb dL_law_1094 (by decide) ?_
  refine lv_iadd hx hb dL_law_1095 ?_
  refine lv_topi (fun ix3 ex3 => ?_)
  refine va_sld hx hb hX hbl hbA hS (ix_in hi0 hi1 hL ex3 (by decide) (by decide)) dL_law_1096 ?_
  refine lv_topi (fun a3 ea3 => ?_)
  have e_a2 : a2 = a0 := ea2.trans (by rw [ex2, ← ex0]; exact ea0.symm)
  rw [e_a2]
  have e_a3 : a3 = a1 := ea3.trans (by rw [ex3, ← ex1]; exact ea1.symm)
  rw [e_a3]
  refine cm_heard l C0 hA hN hK (Nat.le_of_ble_eq_true rfl) a0 a1 hCM (P_perm List.perm_append_comm hP) (D_perm List.perm_append_comm hD) hS hl.1 hf (fun r2 wm H locs hans2 hCM hP hD hS => ?_)
  replace hP := P_perm List.perm_append_comm hP
  replace hD := D_perm List.perm_append_comm hD
  refine lv_pop hx hb dL_law_1100 rfl ?_
  refine lv_goto (tgt := 1456) hx hb dL_law_1101 (by decide) ?_
  refine W.widen (k := cells + 3) (n := slots + 464) (by omega) (by omega) ?_
  exact K _ _ _ _ _ _ _ _ _ _ _ _ _ _ wx wm _ _ ls hCX hCM hP hD hS hl

set_option maxHeartbeats 1000000 in
set_option maxRecDepth 100000 in
theorem lw_c_forget {p : Program} {e : Env} {s : State} {m : MethodId} {below : List Frame} {meth : Method} {c : Code} (l : Launch) {sb L : Nat} {xs : Nat → Int32} {A : Nat → Prop} (C0 : lw_At p s m meth c sb L xs) (hL : L ≤ 3072) (hA : ∀ q, s.heap.size ≤ q → A q) (hbA : ¬ A sb) {G : va_G} {cs : Nat → ClassId} {xe : XE} (hN : NW s) (hK : va_K G vwCl (tyL cs) s) (hxe : isRf xe.2.2) (hZ : XZ xe A s) {Q : State → Prop} {h0 m0 : Nat} {cells slots : Nat} (hf : cells ≤ 580000 ∧ slots ≤ 7290000) {i : Int32} (hi0 : 0 ≤ i.toInt) (hi1 : i.toInt + 6 ≤ (L : Int)) (K : ∀ (kx : Nat → Int32) (lx : Int32) (tx : Nat → Int32) (zw : Nat → Int) (zU : UL) (zl : Nat → List Cls) (zWI : Nat → Nat → Int) (zLI : Nat → Nat → List Cls) (zft : Int) (zsp : Int) (zmd : Int) (zla : Int) (zrf : Nat → Int32) (zD : ODr) (wx wm : va_W) (H : Heap) (locs : List Loc) (ls : Array Slot), CX cs h0 kx lx tx zw zU zl zWI zLI zft zsp zmd zla zrf zD wx → CM cs m0 kx lx tx zw zU zl zWI zLI zft zsp zmd zla zrf zD wm → va_P G vwCl (wx ++ wm) H → va_D A (wx ++ wm) → va_S A s.heap H locs → lv_has ls 4 [(0, .ref sb), (1, .ref h0), (2, .ref m0), (3, .int i)] → W p l e room_1 s m #[Value.ref sb] below meth c H locs (cells + 3) (slots + 464) Q (F0 m 1456 ls [])) {kx : Nat → Int32} {lx : Int32} {tx : Nat → Int32} {zw : Nat → Int} {zU : UL} {zl : Nat → List Cls} {zWI : Nat → Nat → Int} {zLI : Nat → Nat → List Cls} {zft : Int} {zsp : Int} {zmd : Int} {zla : Int} {zrf : Nat → Int32} {zD : ODr} {wx wm : va_W} {H : Heap} {locs : List Loc} {ls : Array Slot} (hCX : CX cs h0 kx lx tx zw zU zl zWI zLI zft zsp zmd zla zrf zD wx) (hCM : CM cs m0 kx lx tx zw zU zl zWI zLI zft zsp zmd zla zrf zD wm) (hP : va_P G vwCl (wx ++ wm) H) (hD : va_D A (wx ++ wm)) (hS : va_S A s.heap H locs) (hl : lv_has ls 4 [(0, .ref sb), (1, .ref h0), (2, .ref m0), (3, .int i)]) : W p l e room_1 s m #[Value.ref sb] below meth c H locs cells slots Q (F0 m 1104 ls []) := by
  obtain ⟨hx, hb, hr, hml, hown, hts, hX, hbl, hlocks, hgv⟩ := id C0
  have hb : c.code = cL_law := hb
  have hown : s.vm.findClass RL = some m.cls := hown
  have htl := gW_l hts
  have hf : cells ≤ 590000 ∧ slots ≤ 7300000 := ⟨by omega, by omega⟩
  refine lv_aload_n hx hb dL_law_1104 rfl (lv_at hl 1 rfl) ?_
  refine cx_forget l C0 hA hN hK hxe hZ  hCX hP hD hS hl.1 hf (fun r wx H locs hans hCX hP hD hS => ?_)
  refine lv_pop hx hb dL_law_1108 rfl ?_
  refine lv_aload_n hx hb dL_law_1109 rfl (lv_at hl 2 rfl) ?_
  refine cm_forget l C0 hA hN hK (Nat.le_of_ble_eq_true rfl)  hCM (P_perm List.perm_append_comm hP) (D_perm List.perm_append_comm hD) hS hl.1 hf (fun r2 wm H locs hans2 hCM hP hD hS => ?_)
  replace hP := P_perm List.perm_append_comm hP
  replace hD := D_perm List.perm_append_comm hD
  refine lv_pop hx hb dL_law_1113 rfl ?_
  refine lv_goto (tgt := 1456) hx hb dL_law_1114 (by decide) ?_
  refine W.widen (k := cells + 3) (n := slots + 464) (by omega) (by omega) ?_
  exact K _ _ _ _ _ _ _ _ _ _ _ _ _ _ wx wm _ _ ls hCX hCM hP hD hS hl

set_option maxHeartbeats 1000000 in
set_option maxRecDepth 100000 in
theorem lw_c_hidden {p : Program} {e : Env} {s : State} {m : MethodId} {below : List Frame} {meth : Method} {c : Code} (l : Launch) {sb L : Nat} {xs : Nat → Int32} {A : Nat → Prop} (C0 : lw_At p s m meth c sb L xs) (hL : L ≤ 3072) (hA : ∀ q, s.heap.size ≤ q → A q) (hbA : ¬ A sb) {G : va_G} {cs : Nat → ClassId} {xe : XE} (hN : NW s) (hK : va_K G vwCl (tyL cs) s) (hxe : isRf xe.2.2) (hZ : XZ xe A s) {Q : State → Prop} {h0 m0 : Nat} {cells slots : Nat} (hf : cells ≤ 580000 ∧ slots ≤ 7290000) {i : Int32} (hi0 : 0 ≤ i.toInt) (hi1 : i.toInt + 6 ≤ (L : Int)) (K : ∀ (kx : Nat → Int32) (lx : Int32) (tx : Nat → Int32) (zw : Nat → Int) (zU : UL) (zl : Nat → List Cls) (zWI : Nat → Nat → Int) (zLI : Nat → Nat → List Cls) (zft : Int) (zsp : Int) (zmd : Int) (zla : Int) (zrf : Nat → Int32) (zD : ODr) (wx wm : va_W) (H : Heap) (locs : List Loc) (ls : Array Slot), CX cs h0 kx lx tx zw zU zl zWI zLI zft zsp zmd zla zrf zD wx → CM cs m0 kx lx tx zw zU zl zWI zLI zft zsp zmd zla zrf zD wm → va_P G vwCl (wx ++ wm) H → va_D A (wx ++ wm) → va_S A s.heap H locs → lv_has ls 4 [(0, .ref sb), (1, .ref h0), (2, .ref m0), (3, .int i)] → W p l e room_1 s m #[Value.ref sb] below meth c H locs (cells + 3) (slots + 464) Q (F0 m 1456 ls [])) {kx : Nat → Int32} {lx : Int32} {tx : Nat → Int32} {zw : Nat → Int} {zU : UL} {zl : Nat → List Cls} {zWI : Nat → Nat → Int} {zLI : Nat → Nat → List Cls} {zft : Int} {zsp : Int} {zmd : Int} {zla : Int} {zrf : Nat → Int32} {zD : ODr} {wx wm : va_W} {H : Heap} {locs : List Loc} {ls : Array Slot} (hCX : CX cs h0 kx lx tx zw zU zl zWI zLI zft zsp zmd zla zrf zD wx) (hCM : CM cs m0 kx lx tx zw zU zl zWI zLI zft zsp zmd zla zrf zD wm) (hP : va_P G vwCl (wx ++ wm) H) (hD : va_D A (wx ++ wm)) (hS : va_S A s.heap H locs) (hl : lv_has ls 4 [(0, .ref sb), (1, .ref h0), (2, .ref m0), (3, .int i)]) : W p l e room_1 s m #[Value.ref sb] below meth c H locs cells slots Q (F0 m 1117 ls []) := by
  obtain ⟨hx, hb, hr, hml, hown, hts, hX, hbl, hlocks, hgv⟩ := id C0
  have hb : c.code = cL_law := hb
  have hown : s.vm.findClass RL = some m.cls := hown
  have htl := gW_l hts
  have hf : cells ≤ 590000 ∧ slots ≤ 7300000 := ⟨by omega, by omega⟩
  refine lv_aload_n hx hb dL_law_1117 rfl (lv_at hl 1 rfl) ?_
  refine cx_hidden l C0 hA hN hK hxe hZ  hCX hP hD hS hl.1 hf (fun r wx H locs hans hCX hP hD hS => ?_)
  refine lv_pop2_2 hx hb dL_law_1121 rfl ?_
  refine lv_aload_n hx hb dL_law_1122 rfl (lv_at hl 2 rfl) ?_
  refine cm_hidden l C0 hA hN hK (Nat.le_of_ble_eq_true rfl)  hCM (P_perm List.perm_append_comm hP) (D_perm List.perm_append_comm hD) hS hl.1 hf (fun r2 wm H locs hans2 hCM hP hD hS => ?_)
  replace hP := P_perm List.perm_append_comm hP
  replace hD := D_perm List.perm_append_comm hD
  refine lv_pop2_2 hx hb dL_law_1126 rfl ?_
  refine lv_goto (tgt := 1456) hx hb dL_law_1127 (by decide) ?_
  refine W.widen (k := cells + 3) (n := slots + 464) (by omega) (by omega) ?_
  exact K _ _ _ _ _ _ _ _ _ _ _ _ _ _ wx wm _ _ ls hCX hCM hP hD hS hl

set_option maxHeartbeats 1000000 in
set_option maxRecDepth 100000 in
theorem lw_c_next {p : Program} {e : Env} {s : State} {m : MethodId} {below : List Frame} {meth : Method} {c : Code} (l : Launch) {sb L : Nat} {xs : Nat → Int32} {A : Nat → Prop} (C0 : lw_At p s m meth c sb L xs) (hL : L ≤ 3072) (hA : ∀ q, s.heap.size ≤ q → A q) (hbA : ¬ A sb) {G : va_G} {cs : Nat → ClassId} {xe : XE} (hN : NW s) (hK : va_K G vwCl (tyL cs) s) (hxe : isRf xe.2.2) (hZ : XZ xe A s) {Q : State → Prop} {h0 m0 : Nat} {cells slots : Nat} (hf : cells ≤ 580000 ∧ slots ≤ 7290000) {i : Int32} (hi0 : 0 ≤ i.toInt) (hi1 : i.toInt + 6 ≤ (L : Int)) (K : ∀ (kx : Nat → Int32) (lx : Int32) (tx : Nat → Int32) (zw : Nat → Int) (zU : UL) (zl : Nat → List Cls) (zWI : Nat → Nat → Int) (zLI : Nat → Nat → List Cls) (zft : Int) (zsp : Int) (zmd : Int) (zla : Int) (zrf : Nat → Int32) (zD : ODr) (wx wm : va_W) (H : Heap) (locs : List Loc) (ls : Array Slot), CX cs h0 kx lx tx zw zU zl zWI zLI zft zsp zmd zla zrf zD wx → CM cs m0 kx lx tx zw zU zl zWI zLI zft zsp zmd zla zrf zD wm → va_P G vwCl (wx ++ wm) H → va_D A (wx ++ wm) → va_S A s.heap H locs → lv_has ls 4 [(0, .ref sb), (1, .ref h0), (2, .ref m0), (3, .int i)] → W p l e room_1 s m #[Value.ref sb] below meth c H locs (cells + 3) (slots + 464) Q (F0 m 1456 ls [])) {kx : Nat → Int32} {lx : Int32} {tx : Nat → Int32} {zw : Nat → Int} {zU : UL} {zl : Nat → List Cls} {zWI : Nat → Nat → Int} {zLI : Nat → Nat → List Cls} {zft : Int} {zsp : Int} {zmd : Int} {zla : Int} {zrf : Nat → Int32} {zD : ODr} {wx wm : va_W} {H : Heap} {locs : List Loc} {ls : Array Slot} (hCX : CX cs h0 kx lx tx zw zU zl zWI zLI zft zsp zmd zla zrf zD wx) (hCM : CM cs m0 kx lx tx zw zU zl zWI zLI zft zsp zmd zla zrf zD wm) (hP : va_P G vwCl (wx ++ wm) H) (hD : va_D A (wx ++ wm)) (hS : va_S A s.heap H locs) (hl : lv_has ls 4 [(0, .ref sb), (1, .ref h0), (2, .ref m0), (3, .int i)]) : W p l e room_1 s m #[Value.ref sb] below meth c H locs cells slots Q (F0 m 1130 ls []) := by
  obtain ⟨hx, hb, hr, hml, hown, hts, hX, hbl, hlocks, hgv⟩ := id C0
  have hb : c.code = cL_law := hb
  have hown : s.vm.findClass RL = some m.cls := hown
  have htl := gW_l hts
  have hf : cells ≤ 590000 ∧ slots ≤ 7300000 := ⟨by omega, by omega⟩
  refine lv_aload_n hx hb dL_law_1130 rfl (lv_at hl 1 rfl) ?_
  refine lv_aload_n hx hb dL_law_1131 rfl (lv_at hl 0 rfl) ?_
  refine lv_iload_n hx hb dL_law_1132 rfl (lv_at hl 3 rfl) ?_
  refine lv_iconst (v := 1) hx hb dL_law_1133 (by decide) ?_
  refine lv_iadd hx hb dL_law_1134 ?_
  refine lv_topi (fun ix0 ex0 => ?_)
  refine va_sld hx hb hX hbl hbA hS (ix_in hi0 hi1 hL ex0 (by decide) (by decide)) dL_law_1135 ?_
  refine lv_topi (fun a0 ea0 => ?_)
  refine cx_next l C0 hA hN hK hxe hZ a0 hCX hP hD hS hl.1 hf (fun r wx H locs hans hCX hP hD hS => ?_)
  refine lv_pop hx hb dL_law_1139 rfl ?_
  refine lv_aload_n hx hb dL_law_1140 rfl (lv_at hl 2 rfl) ?_
  refine lv_aload_n hx hb dL_law_1141 rfl (lv_at hl 0 rfl) ?_
  refine lv_iload_n hx hb dL_law_1142 rfl (lv_at hl 3 rfl) ?_
  refine lv_iconst (v := 1) hx hb dL_law_1143 (by decide) ?_
  refine lv_iadd hx hb dL_law_1144 ?_
  refine lv_topi (fun ix1 ex1 => ?_)
  refine va_sld hx hb hX hbl hbA hS (ix_in hi0 hi1 hL ex1 (by decide) (by decide)) dL_law_1145 ?_
  refine lv_topi (fun a1 ea1 => ?_)
  have e_a1 : a1 = a0 := ea1.trans (by rw [ex1, ← ex0]; exact ea0.symm)
  rw [e_a1]
  refine cm_next l C0 hA hN hK (Nat.le_of_ble_eq_true rfl) a0 hCM (P_perm List.perm_append_comm hP) (D_perm List.perm_append_comm hD) hS hl.1 hf (fun r2 wm H locs hans2 hCM hP hD hS => ?_)
  replace hP := P_perm List.perm_append_comm hP
  replace hD := D_perm List.perm_append_comm hD
  refine lv_pop hx hb dL_law_1149 rfl ?_
  refine lv_goto (tgt := 1456) hx hb dL_law_1150 (by decide) ?_
  refine W.widen (k := cells + 3) (n := slots + 464) (by omega) (by omega) ?_
  exact K _ _ _ _ _ _ _ _ _ _ _ _ _ _ wx wm _ _ ls hCX hCM hP hD hS hl

set_option maxHeartbeats 1000000 in
set_option maxRecDepth 100000 in
theorem lw_c_well {p : Program} {e : Env} {s : State} {m : MethodId} {below : List Frame} {meth : Method} {c : Code} (l : Launch) {sb L : Nat} {xs : Nat → Int32} {A : Nat → Prop} (C0 : lw_At p s m meth c sb L xs) (hL : L ≤ 3072) (hA : ∀ q, s.heap.size ≤ q → A q) (hbA : ¬ A sb) {G : va_G} {cs : Nat → ClassId} {xe : XE} (hN : NW s) (hK : va_K G vwCl (tyL cs) s) (hxe : isRf xe.2.2) (hZ : XZ xe A s) {Q : State → Prop} {h0 m0 : Nat} {cells slots : Nat} (hf : cells ≤ 580000 ∧ slots ≤ 7290000) {i : Int32} (hi0 : 0 ≤ i.toInt) (hi1 : i.toInt + 6 ≤ (L : Int)) (K : ∀ (kx : Nat → Int32) (lx : Int32) (tx : Nat → Int32) (zw : Nat → Int) (zU : UL) (zl : Nat → List Cls) (zWI : Nat → Nat → Int) (zLI : Nat → Nat → List Cls) (zft : Int) (zsp : Int) (zmd : Int) (zla : Int) (zrf : Nat → Int32) (zD : ODr) (wx wm : va_W) (H : Heap) (locs : List Loc) (ls : Array Slot), CX cs h0 kx lx tx zw zU zl zWI zLI zft zsp zmd zla zrf zD wx → CM cs m0 kx lx tx zw zU zl zWI zLI zft zsp zmd zla zrf zD wm → va_P G vwCl (wx ++ wm) H → va_D A (wx ++ wm) → va_S A s.heap H locs → lv_has ls 4 [(0, .ref sb), (1, .ref h0), (2, .ref m0), (3, .int i)] → W p l e room_1 s m #[Value.ref sb] below meth c H locs (cells + 3) (slots + 464) Q (F0 m 1456 ls [])) {kx : Nat → Int32} {lx : Int32} {tx : Nat → Int32} {zw : Nat → Int} {zU : UL} {zl : Nat → List Cls} {zWI : Nat → Nat → Int} {zLI : Nat → Nat → List Cls} {zft : Int} {zsp : Int} {zmd : Int} {zla : Int} {zrf : Nat → Int32} {zD : ODr} {wx wm : va_W} {H : Heap} {locs : List Loc} {ls : Array Slot} (hCX : CX cs h0 kx lx tx zw zU zl zWI zLI zft zsp zmd zla zrf zD wx) (hCM : CM cs m0 kx lx tx zw zU zl zWI zLI zft zsp zmd zla zrf zD wm) (hP : va_P G vwCl (wx ++ wm) H) (hD : va_D A (wx ++ wm)) (hS : va_S A s.heap H locs) (hl : lv_has ls 4 [(0, .ref sb), (1, .ref h0), (2, .ref m0), (3, .int i)]) : W p l e room_1 s m #[Value.ref sb] below meth c H locs cells slots Q (F0 m 1153 ls []) := by
  obtain ⟨hx, hb, hr, hml, hown, hts, hX, hbl, hlocks, hgv⟩ := id C0
  have hb : c.code = cL_law := hb
  have hown : s.vm.findClass RL = some m.cls := hown
  have htl := gW_l hts
  have hf : cells ≤ 590000 ∧ slots ≤ 7300000 := ⟨by omega, by omega⟩
  refine lv_aload_n hx hb dL_law_1153 rfl (lv_at hl 1 rfl) ?_
  refine lv_aload_n hx hb dL_law_1154 rfl (lv_at hl 0 rfl) ?_
  refine lv_iload_n hx hb dL_law_1155 rfl (lv_at hl 3 rfl) ?_
  refine lv_iconst (v := 1) hx hb dL_law_1156 (by decide) ?_
  refine lv_iadd hx hb dL_law_1157 ?_
  refine lv_topi (fun ix0 ex0 => ?_)
  refine va_sld hx hb hX hbl hbA hS (ix_in hi0 hi1 hL ex0 (by decide) (by decide)) dL_law_1158 ?_
  refine lv_topi (fun a0 ea0 => ?_)
  refine lv_aload_n hx hb dL_law_1159 rfl (lv_at hl 0 rfl) ?_
  refine lv_iload_n hx hb dL_law_1160 rfl (lv_at hl 3 rfl) ?_
  refine lv_iconst (v := 2) hx hb dL_law_1161 (by decide) ?_
  refine lv_iadd hx hb dL_law_1162 ?_
  refine lv_topi (fun ix1 ex1 => ?_)
  refine va_sld hx hb hX hbl hbA hS (ix_in hi0 hi1 hL ex1 (by decide) (by decide)) dL_law_1163 ?_
  refine lv_topi (fun a1 ea1 => ?_)
  refine cx_well l C0 hA hN hK hxe hZ a0 a1 hCX hP hD hS hl.1 hf (fun r wx H locs hans hCX hP hD hS => ?_)
  refine lv_pop hx hb dL_law_1167 rfl ?_
  refine lv_aload_n hx hb dL_law_1168 rfl (lv_at hl 2 rfl) ?_
  refine lv_aload_n hx hb dL_law_1169 rfl (lv_at hl 0 rfl) ?_
  refine lv_iload_n hx hb dL_law_1170 rfl (lv_at hl 3 rfl) ?_
  refine lv_iconst (v := 1) hx hb dL_law_1171 (by decide) ?_
  refine lv_iadd hx hb dL_law_1172 ?_
  refine lv_topi (fun ix2 ex2 => ?_)
  refine va_sld hx hb hX hbl hbA hS (ix_in hi0 hi1 hL ex2 (by decide) (by decide)) dL_law_1173 ?_
  refine lv_topi (fun a2 ea2 => ?_)
  refine lv_aload_n hx hb dL_law_1174 rfl (lv_at hl 0 rfl) ?_
  refine lv_iload_n hx hb dL_law_1175 rfl (lv_at hl 3 rfl) ?_
  refine lv_iconst (v := 2) hx hb dL_law_1176 (by decide) ?_
  refine lv_iadd hx hb dL_law_1177 ?_
  refine lv_topi (fun ix3 ex3 => ?_)
  refine va_sld hx hb hX hbl hbA hS (ix_in hi0 hi1 hL ex3 (by decide) (by decide)) dL_law_1178 ?_
  refine lv_topi (fun a3 ea3 => ?_)
  have e_a2 : a2 = a0 := ea2.trans (by rw [ex2, ← ex0]; exact ea0.symm)
  rw [e_a2]
  have e_a3 : a3 = a1 := ea3.trans (by rw [ex3, ← ex1]; exact ea1.symm)
  rw [e_a3]
  refine cm_well l C0 hA hN hK (Nat.le_of_ble_eq_true rfl) a0 a1 hCM (P_perm List.perm_append_comm hP) (D_perm List.perm_append_comm hD) hS hl.1 hf (fun r2 wm H locs hans2 hCM hP hD hS => ?_)
  replace hP := P_perm List.perm_append_comm hP
  replace hD := D_perm List.perm_append_comm hD
  refine lv_pop hx hb dL_law_1182 rfl ?_
  refine lv_goto (tgt := 1456) hx hb dL_law_1183 (by decide) ?_
  refine W.widen (k := cells + 3) (n := slots + 464) (by omega) (by omega) ?_
  exact K _ _ _ _ _ _ _ _ _ _ _ _ _ _ wx wm _ _ ls hCX hCM hP hD hS hl

set_option maxHeartbeats 1000000 in
set_option maxRecDepth 100000 in
theorem lw_c_tongue {p : Program} {e : Env} {s : State} {m : MethodId} {below : List Frame} {meth : Method} {c : Code} (l : Launch) {sb L : Nat} {xs : Nat → Int32} {A : Nat → Prop} (C0 : lw_At p s m meth c sb L xs) (hL : L ≤ 3072) (hA : ∀ q, s.heap.size ≤ q → A q) (hbA : ¬ A sb) {G : va_G} {cs : Nat → ClassId} {xe : XE} (hN : NW s) (hK : va_K G vwCl (tyL cs) s) (hxe : isRf xe.2.2) (hZ : XZ xe A s) {Q : State → Prop} {h0 m0 : Nat} {cells slots : Nat} (hf : cells ≤ 580000 ∧ slots ≤ 7290000) {i : Int32} (hi0 : 0 ≤ i.toInt) (hi1 : i.toInt + 6 ≤ (L : Int)) (K : ∀ (kx : Nat → Int32) (lx : Int32) (tx : Nat → Int32) (zw : Nat → Int) (zU : UL) (zl : Nat → List Cls) (zWI : Nat → Nat → Int) (zLI : Nat → Nat → List Cls) (zft : Int) (zsp : Int) (zmd : Int) (zla : Int) (zrf : Nat → Int32) (zD : ODr) (wx wm : va_W) (H : Heap) (locs : List Loc) (ls : Array Slot), CX cs h0 kx lx tx zw zU zl zWI zLI zft zsp zmd zla zrf zD wx → CM cs m0 kx lx tx zw zU zl zWI zLI zft zsp zmd zla zrf zD wm → va_P G vwCl (wx ++ wm) H → va_D A (wx ++ wm) → va_S A s.heap H locs → lv_has ls 4 [(0, .ref sb), (1, .ref h0), (2, .ref m0), (3, .int i)] → W p l e room_1 s m #[Value.ref sb] below meth c H locs (cells + 3) (slots + 464) Q (F0 m 1456 ls [])) {kx : Nat → Int32} {lx : Int32} {tx : Nat → Int32} {zw : Nat → Int} {zU : UL} {zl : Nat → List Cls} {zWI : Nat → Nat → Int} {zLI : Nat → Nat → List Cls} {zft : Int} {zsp : Int} {zmd : Int} {zla : Int} {zrf : Nat → Int32} {zD : ODr} {wx wm : va_W} {H : Heap} {locs : List Loc} {ls : Array Slot} (hCX : CX cs h0 kx lx tx zw zU zl zWI zLI zft zsp zmd zla zrf zD wx) (hCM : CM cs m0 kx lx tx zw zU zl zWI zLI zft zsp zmd zla zrf zD wm) (hP : va_P G vwCl (wx ++ wm) H) (hD : va_D A (wx ++ wm)) (hS : va_S A s.heap H locs) (hl : lv_has ls 4 [(0, .ref sb), (1, .ref h0), (2, .ref m0), (3, .int i)]) : W p l e room_1 s m #[Value.ref sb] below meth c H locs cells slots Q (F0 m 1186 ls []) := by
  obtain ⟨hx, hb, hr, hml, hown, hts, hX, hbl, hlocks, hgv⟩ := id C0
  have hb : c.code = cL_law := hb
  have hown : s.vm.findClass RL = some m.cls := hown
  have htl := gW_l hts
  have hf : cells ≤ 590000 ∧ slots ≤ 7300000 := ⟨by omega, by omega⟩
  refine lv_aload_n hx hb dL_law_1186 rfl (lv_at hl 1 rfl) ?_
  refine lv_aload_n hx hb dL_law_1187 rfl (lv_at hl 0 rfl) ?_
  refine lv_iload_n hx hb dL_law_1188 rfl (lv_at hl 3 rfl) ?_
  refine lv_iconst (v := 1) hx hb dL_law_1189 (by decide) ?_
  refine lv_iadd hx hb dL_law_1190 ?_
  refine lv_topi (fun ix0 ex0 => ?_)
  refine va_sld hx hb hX hbl hbA hS (ix_in hi0 hi1 hL ex0 (by decide) (by decide)) dL_law_1191 ?_
  refine lv_topi (fun a0 ea0 => ?_)
  refine cx_tongue l C0 hA hN hK hxe hZ a0 hCX hP hD hS hl.1 hf (fun r wx H locs hans hCX hP hD hS => ?_)
  refine lv_pop hx hb dL_law_1195 rfl ?_
  refine lv_aload_n hx hb dL_law_1196 rfl (lv_at hl 2 rfl) ?_
  refine lv_aload_n hx hb dL_law_1197 rfl (lv_at hl 0 rfl) ?_
  refine lv_iload_n hx hb dL_law_1198 rfl (lv_at hl 3 rfl) ?_
  refine lv_iconst (v := 1) hx hb dL_law_1199 (by decide) ?_
  refine lv_iadd hx hb dL_law_1200 ?_
  refine lv_topi (fun ix1 ex1 => ?_)
  refine va_sld hx hb hX hbl hbA hS (ix_in hi0 hi1 hL ex1 (by decide) (by decide)) dL_law_1201 ?_
  refine lv_topi (fun a1 ea1 => ?_)
  have e_a1 : a1 = a0 := ea1.trans (by rw [ex1, ← ex0]; exact ea0.symm)
  rw [e_a1]
  refine cm_tongue l C0 hA hN hK (Nat.le_of_ble_eq_true rfl) a0 hCM (P_perm List.perm_append_comm hP) (D_perm List.perm_append_comm hD) hS hl.1 hf (fun r2 wm H locs hans2 hCM hP hD hS => ?_)
  replace hP := P_perm List.perm_append_comm hP
  replace hD := D_perm List.perm_append_comm hD
  refine lv_pop hx hb dL_law_1205 rfl ?_
  refine lv_goto (tgt := 1456) hx hb dL_law_1206 (by decide) ?_
  refine W.widen (k := cells + 3) (n := slots + 464) (by omega) (by omega) ?_
  exact K _ _ _ _ _ _ _ _ _ _ _ _ _ _ wx wm _ _ ls hCX hCM hP hD hS hl

set_option maxHeartbeats 1000000 in
set_option maxRecDepth 100000 in
theorem lw_c_vein {p : Program} {e : Env} {s : State} {m : MethodId} {below : List Frame} {meth : Method} {c : Code} (l : Launch) {sb L : Nat} {xs : Nat → Int32} {A : Nat → Prop} (C0 : lw_At p s m meth c sb L xs) (hL : L ≤ 3072) (hA : ∀ q, s.heap.size ≤ q → A q) (hbA : ¬ A sb) {G : va_G} {cs : Nat → ClassId} {xe : XE} (hN : NW s) (hK : va_K G vwCl (tyL cs) s) (hxe : isRf xe.2.2) (hZ : XZ xe A s) {Q : State → Prop} {h0 m0 : Nat} {cells slots : Nat} (hf : cells ≤ 580000 ∧ slots ≤ 7290000) {i : Int32} (hi0 : 0 ≤ i.toInt) (hi1 : i.toInt + 6 ≤ (L : Int)) (K : ∀ (kx : Nat → Int32) (lx : Int32) (tx : Nat → Int32) (zw : Nat → Int) (zU : UL) (zl : Nat → List Cls) (zWI : Nat → Nat → Int) (zLI : Nat → Nat → List Cls) (zft : Int) (zsp : Int) (zmd : Int) (zla : Int) (zrf : Nat → Int32) (zD : ODr) (wx wm : va_W) (H : Heap) (locs : List Loc) (ls : Array Slot), CX cs h0 kx lx tx zw zU zl zWI zLI zft zsp zmd zla zrf zD wx → CM cs m0 kx lx tx zw zU zl zWI zLI zft zsp zmd zla zrf zD wm → va_P G vwCl (wx ++ wm) H → va_D A (wx ++ wm) → va_S A s.heap H locs → lv_has ls 4 [(0, .ref sb), (1, .ref h0), (2, .ref m0), (3, .int i)] → W p l e room_1 s m #[Value.ref sb] below meth c H locs (cells + 3) (slots + 464) Q (F0 m 1456 ls [])) {kx : Nat → Int32} {lx : Int32} {tx : Nat → Int32} {zw : Nat → Int} {zU : UL} {zl : Nat → List Cls} {zWI : Nat → Nat → Int} {zLI : Nat → Nat → List Cls} {zft : Int} {zsp : Int} {zmd : Int} {zla : Int} {zrf : Nat → Int32} {zD : ODr} {wx wm : va_W} {H : Heap} {locs : List Loc} {ls : Array Slot} (hCX : CX cs h0 kx lx tx zw zU zl zWI zLI zft zsp zmd zla zrf zD wx) (hCM : CM cs m0 kx lx tx zw zU zl zWI zLI zft zsp zmd zla zrf zD wm) (hP : va_P G vwCl (wx ++ wm) H) (hD : va_D A (wx ++ wm)) (hS : va_S A s.heap H locs) (hl : lv_has ls 4 [(0, .ref sb), (1, .ref h0), (2, .ref m0), (3, .int i)]) : W p l e room_1 s m #[Value.ref sb] below meth c H locs cells slots Q (F0 m 1209 ls []) := by
  obtain ⟨hx, hb, hr, hml, hown, hts, hX, hbl, hlocks, hgv⟩ := id C0
  have hb : c.code = cL_law := hb
  have hown : s.vm.findClass RL = some m.cls := hown
  have htl := gW_l hts
  have hf : cells ≤ 590000 ∧ slots ≤ 7300000 := ⟨by omega, by omega⟩
  refine lv_aload_n hx hb dL_law_1209 rfl (lv_at hl 1 rfl) ?_
  refine lv_aload_n hx hb dL_law_1210 rfl (lv_at hl 0 rfl) ?_
  refine lv_iload_n hx hb dL_law_1211 rfl (lv_at hl 3 rfl) ?_
  refine lv_iconst (v := 1) hx hb dL_law_1212 (by decide) ?_
  refine lv_iadd hx hb dL_law_1213 ?_
  refine lv_topi (fun ix0 ex0 => ?_)
  refine va_sld hx hb hX hbl hbA hS (ix_in hi0 hi1 hL ex0 (by decide) (by decide)) dL_law_1214 ?_
  refine lv_topi (fun a0 ea0 => ?_)
  refine lv_aload_n hx hb dL_law_1215 rfl (lv_at hl 0 rfl) ?_
  refine lv_iload_n hx hb dL_law_1216 rfl (lv_at hl 3 rfl) ?_
  refine lv_iconst (v := 2) hx hb dL_law_1217 (by decide) ?_
  refine lv_iadd hx hb dL_law_1218 ?_
  refine lv_topi (fun ix1 ex1 => ?_)
  refine va_sld hx hb hX hbl hbA hS (ix_in hi0 hi1 hL ex1 (by decide) (by decide)) dL_law_1219 ?_
  refine lv_topi (fun a1 ea1 => ?_)
  refine cx_vein l C0 hA hN hK hxe hZ a0 a1 hCX hP hD hS hl.1 hf (fun r wx H locs hans hCX hP hD hS => ?_)
  refine lv_pop2_2 hx hb dL_law_1223 rfl ?_
  refine lv_aload_n hx hb dL_law_1224 rfl (lv_at hl 2 rfl) ?_
  refine lv_aload_n hx hb dL_law_1225 rfl (lv_at hl 0 rfl) ?_
  refine lv_iload_n hx hb dL_law_1226 rfl (lv_at hl 3 rfl) ?_
  refine lv_iconst (v := 1) hx hb dL_law_1227 (by decide) ?_
  refine lv_iadd hx hb dL_law_1228 ?_
  refine lv_topi (fun ix2 ex2 => ?_)
  refine va_sld hx hb hX hbl hbA hS (ix_in hi0 hi1 hL ex2 (by decide) (by decide)) dL_law_1229 ?_
  refine lv_topi (fun a2 ea2 => ?_)
  refine lv_aload_n hx hb dL_law_1230 rfl (lv_at hl 0 rfl) ?_
  refine lv_iload_n hx hb dL_law_1231 rfl (lv_at hl 3 rfl) ?_
  refine lv_iconst (v := 2) hx hb dL_law_1232 (by decide) ?_
  refine lv_iadd hx hb dL_law_1233 ?_
  refine lv_topi (fun ix3 ex3 => ?_)
  refine va_sld hx hb hX hbl hbA hS (ix_in hi0 hi1 hL ex3 (by decide) (by decide)) dL_law_1234 ?_
  refine lv_topi (fun a3 ea3 => ?_)
  have e_a2 : a2 = a0 := ea2.trans (by rw [ex2, ← ex0]; exact ea0.symm)
  rw [e_a2]
  have e_a3 : a3 = a1 := ea3.trans (by rw [ex3, ← ex1]; exact ea1.symm)
  rw [e_a3]
  refine cm_vein l C0 hA hN hK (Nat.le_of_ble_eq_true rfl) a0 a1 hCM (P_perm List.perm_append_comm hP) (D_perm List.perm_append_comm hD) hS hl.1 hf (fun r2 wm H locs hans2 hCM hP hD hS => ?_)
  replace hP := P_perm List.perm_append_comm hP
  replace hD := D_perm List.perm_append_comm hD
  refine lv_pop2_2 hx hb dL_law_1238 rfl ?_
  refine lv_goto (tgt := 1456) hx hb dL_law_1239 (by decide) ?_
  refine W.widen (k := cells + 3) (n := slots + 464) (by omega) (by omega) ?_
  exact K _ _ _ _ _ _ _ _ _ _ _ _ _ _ wx wm _ _ ls hCX hCM hP hD hS hl

set_option maxHeartbeats 1000000 in
set_option maxRecDepth 100000 in
theorem lw_c_time {p : Program} {e : Env} {s : State} {m : MethodId} {below : List Frame} {meth : Method} {c : Code} (l : Launch) {sb L : Nat} {xs : Nat → Int32} {A : Nat → Prop} (C0 : lw_At p s m meth c sb L xs) (hL : L ≤ 3072) (hA : ∀ q, s.heap.size ≤ q → A q) (hbA : ¬ A sb) {G : va_G} {cs : Nat → ClassId} {xe : XE} (hN : NW s) (hK : va_K G vwCl (tyL cs) s) (hxe : isRf xe.2.2) (hZ : XZ xe A s) {Q : State → Prop} {h0 m0 : Nat} {cells slots : Nat} (hf : cells ≤ 580000 ∧ slots ≤ 7290000) {i : Int32} (hi0 : 0 ≤ i.toInt) (hi1 : i.toInt + 6 ≤ (L : Int)) (K : ∀ (kx : Nat → Int32) (lx : Int32) (tx : Nat → Int32) (zw : Nat → Int) (zU : UL) (zl : Nat → List Cls) (zWI : Nat → Nat → Int) (zLI : Nat → Nat → List Cls) (zft : Int) (zsp : Int) (zmd : Int) (zla : Int) (zrf : Nat → Int32) (zD : ODr) (wx wm : va_W) (H : Heap) (locs : List Loc) (ls : Array Slot), CX cs h0 kx lx tx zw zU zl zWI zLI zft zsp zmd zla zrf zD wx → CM cs m0 kx lx tx zw zU zl zWI zLI zft zsp zmd zla zrf zD wm → va_P G vwCl (wx ++ wm) H → va_D A (wx ++ wm) → va_S A s.heap H locs → lv_has ls 4 [(0, .ref sb), (1, .ref h0), (2, .ref m0), (3, .int i)] → W p l e room_1 s m #[Value.ref sb] below meth c H locs (cells + 3) (slots + 464) Q (F0 m 1456 ls [])) {kx : Nat → Int32} {lx : Int32} {tx : Nat → Int32} {zw : Nat → Int} {zU : UL} {zl : Nat → List Cls} {zWI : Nat → Nat → Int} {zLI : Nat → Nat → List Cls} {zft : Int} {zsp : Int} {zmd : Int} {zla : Int} {zrf : Nat → Int32} {zD : ODr} {wx wm : va_W} {H : Heap} {locs : List Loc} {ls : Array Slot} (hCX : CX cs h0 kx lx tx zw zU zl zWI zLI zft zsp zmd zla zrf zD wx) (hCM : CM cs m0 kx lx tx zw zU zl zWI zLI zft zsp zmd zla zrf zD wm) (hP : va_P G vwCl (wx ++ wm) H) (hD : va_D A (wx ++ wm)) (hS : va_S A s.heap H locs) (hl : lv_has ls 4 [(0, .ref sb), (1, .ref h0), (2, .ref m0), (3, .int i)]) : W p l e room_1 s m #[Value.ref sb] below meth c H locs cells slots Q (F0 m 1242 ls []) := by
  obtain ⟨hx, hb, hr, hml, hown, hts, hX, hbl, hlocks, hgv⟩ := id C0
  have hb : c.code = cL_law := hb
  have hown : s.vm.findClass RL = some m.cls := hown
  have htl := gW_l hts
  have hf : cells ≤ 590000 ∧ slots ≤ 7300000 := ⟨by omega, by omega⟩
  refine lv_aload_n hx hb dL_law_1242 rfl (lv_at hl 1 rfl) ?_
  refine lv_aload_n hx hb dL_law_1243 rfl (lv_at hl 0 rfl) ?_
  refine lv_iload_n hx hb dL_law_1244 rfl (lv_at hl 3 rfl) ?_
  refine lv_iconst (v := 1) hx hb dL_law_1245 (by decide) ?_
  refine lv_iadd hx hb dL_law_1246 ?_
  refine lv_topi (fun ix0 ex0 => ?_)
  refine va_sld hx hb hX hbl hbA hS (ix_in hi0 hi1 hL ex0 (by decide) (by decide)) dL_law_1247 ?_
  refine lv_topi (fun a0 ea0 => ?_)
  refine lv_aload_n hx hb dL_law_1248 rfl (lv_at hl 0 rfl) ?_
  refine lv_iload_n hx hb dL_law_1249 rfl (lv_at hl 3 rfl) ?_
  refine lv_iconst (v := 2) hx hb dL_law_1250 (by decide) ?_
  refine lv_iadd hx hb dL_law_1251 ?_
  refine lv_topi (fun ix1 ex1 => ?_)
  refine va_sld hx hb hX hbl hbA hS (ix_in hi0 hi1 hL ex1 (by decide) (by decide)) dL_law_1252 ?_
  refine lv_topi (fun a1 ea1 => ?_)
  refine lv_aload_n hx hb dL_law_1253 rfl (lv_at hl 0 rfl) ?_
  refine lv_iload_n hx hb dL_law_1254 rfl (lv_at hl 3 rfl) ?_
  refine lv_iconst (v := 3) hx hb dL_law_1255 (by decide) ?_
  refine lv_iadd hx hb dL_law_1256 ?_
  refine lv_topi (fun ix2 ex2 => ?_)
  refine va_sld hx hb hX hbl hbA hS (ix_in hi0 hi1 hL ex2 (by decide) (by decide)) dL_law_1257 ?_
  refine lv_topi (fun a2 ea2 => ?_)
  refine cx_time l C0 hA hN hK hxe hZ a0 a1 a2 hCX hP hD hS hl.1 hf (fun r wx H locs hans hCX hP hD hS => ?_)
  refine lv_pop2_2 hx hb dL_law_1261 rfl ?_
  refine lv_aload_n hx hb dL_law_1262 rfl (lv_at hl 2 rfl) ?_
  refine lv_aload_n hx hb dL_law_1263 rfl (lv_at hl 0 rfl) ?_
  refine lv_iload_n hx hb dL_law_1264 rfl (lv_at hl 3 rfl) ?_
  refine lv_iconst (v := 1) hx hb dL_law_1265 (by decide) ?_
  refine lv_iadd hx hb dL_law_1266 ?_
  refine lv_topi (fun ix3 ex3 => ?_)
  refine va_sld hx hb hX hbl hbA hS (ix_in hi0 hi1 hL ex3 (by decide) (by decide)) dL_law_1267 ?_
  refine lv_topi (fun a3 ea3 => ?_)
  refine lv_aload_n hx hb dL_law_1268 rfl (lv_at hl 0 rfl) ?_
  refine lv_iload_n hx hb dL_law_1269 rfl (lv_at hl 3 rfl) ?_
  refine lv_iconst (v := 2) hx hb dL_law_1270 (by decide) ?_
  refine lv_iadd hx hb dL_law_1271 ?_
  refine lv_topi (fun ix4 ex4 => ?_)
  refine va_sld hx hb hX hbl hbA hS (ix_in hi0 hi1 hL ex4 (by decide) (by decide)) dL_law_1272 ?_
  refine lv_topi (fun a4 ea4 => ?_)
  refine lv_aload_n hx hb dL_law_1273 rfl (lv_at hl 0 rfl) ?_
  refine lv_iload_n hx hb dL_law_1274 rfl (lv_at hl 3 rfl) ?_
  refine lv_iconst (v := 3) hx hb dL_law_1275 (by decide) ?_
  refine lv_iadd hx hb dL_law_1276 ?_
  refine lv_topi (fun ix5 ex5 => ?_)
  refine va_sld hx hb hX hbl hbA hS (ix_in hi0 hi1 hL ex5 (by decide) (by decide)) dL_law_1277 ?_
  refine lv_topi (fun a5 ea5 => ?_)
  have e_a3 : a3 = a0 := ea3.trans (by rw [ex3, ← ex0]; exact ea0.symm)
  rw [e_a3]
  have e_a4 : a4 = a1 := ea4.trans (by rw [ex4, ← ex1]; exact ea1.symm)
  rw [e_a4]
  have e_a5 : a5 = a2 := ea5.trans (by rw [ex5, ← ex2]; exact ea2.symm)
  rw [e_a5]
  refine cm_time l C0 hA hN hK (Nat.le_of_ble_eq_true rfl) a0 a1 a2 hCM (P_perm List.perm_append_comm hP) (D_perm List.perm_append_comm hD) hS hl.1 hf (fun r2 wm H locs hans2 hCM hP hD hS => ?_)
  replace hP := P_perm List.perm_append_comm hP
  replace hD := D_perm List.perm_append_comm hD
  refine lv_pop2_2 hx hb dL_law_1281 rfl ?_
  refine lv_goto (tgt := 1456) hx hb dL_law_1282 (by decide) ?_
  refine W.widen (k := cells + 3) (n := slots + 464) (by omega) (by omega) ?_
  exact K _ _ _ _ _ _ _ _ _ _ _ _ _ _ wx wm _ _ ls hCX hCM hP hD hS hl

set_option maxHeartbeats 1000000 in
set_option maxRecDepth 100000 in
theorem lw_c_compare {p : Program} {e : Env} {s : State} {m : MethodId} {below : List Frame} {meth : Method} {c : Code} (l : Launch) {sb L : Nat} {xs : Nat → Int32} {A : Nat → Prop} (C0 : lw_At p s m meth c sb L xs) (hL : L ≤ 3072) (hA : ∀ q, s.heap.size ≤ q → A q) (hbA : ¬ A sb) {G : va_G} {cs : Nat → ClassId} {xe : XE} (hN : NW s) (hK : va_K G vwCl (tyL cs) s) (hxe : isRf xe.2.2) (hZ : XZ xe A s) {Q : State → Prop} {h0 m0 : Nat} {cells slots : Nat} (hf : cells ≤ 580000 ∧ slots ≤ 7290000) {i : Int32} (hi0 : 0 ≤ i.toInt) (hi1 : i.toInt + 6 ≤ (L : Int)) (K : ∀ (kx : Nat → Int32) (lx : Int32) (tx : Nat → Int32) (zw : Nat → Int) (zU : UL) (zl : Nat → List Cls) (zWI : Nat → Nat → Int) (zLI : Nat → Nat → List Cls) (zft : Int) (zsp : Int) (zmd : Int) (zla : Int) (zrf : Nat → Int32) (zD : ODr) (wx wm : va_W) (H : Heap) (locs : List Loc) (ls : Array Slot), CX cs h0 kx lx tx zw zU zl zWI zLI zft zsp zmd zla zrf zD wx → CM cs m0 kx lx tx zw zU zl zWI zLI zft zsp zmd zla zrf zD wm → va_P G vwCl (wx ++ wm) H → va_D A (wx ++ wm) → va_S A s.heap H locs → lv_has ls 4 [(0, .ref sb), (1, .ref h0), (2, .ref m0), (3, .int i)] → W p l e room_1 s m #[Value.ref sb] below meth c H locs (cells + 3) (slots + 464) Q (F0 m 1456 ls [])) {kx : Nat → Int32} {lx : Int32} {tx : Nat → Int32} {zw : Nat → Int} {zU : UL} {zl : Nat → List Cls} {zWI : Nat → Nat → Int} {zLI : Nat → Nat → List Cls} {zft : Int} {zsp : Int} {zmd : Int} {zla : Int} {zrf : Nat → Int32} {zD : ODr} {wx wm : va_W} {H : Heap} {locs : List Loc} {ls : Array Slot} (hCX : CX cs h0 kx lx tx zw zU zl zWI zLI zft zsp zmd zla zrf zD wx) (hCM : CM cs m0 kx lx tx zw zU zl zWI zLI zft zsp zmd zla zrf zD wm) (hP : va_P G vwCl (wx ++ wm) H) (hD : va_D A (wx ++ wm)) (hS : va_S A s.heap H locs) (hl : lv_has ls 4 [(0, .ref sb), (1, .ref h0), (2, .ref m0), (3, .int i)]) : W p l e room_1 s m #[Value.ref sb] below meth c H locs cells slots Q (F0 m 1285 ls []) := by
  obtain ⟨hx, hb, hr, hml, hown, hts, hX, hbl, hlocks, hgv⟩ := id C0
  have hb : c.code = cL_law := hb
  have hown : s.vm.findClass RL = some m.cls := hown
  have htl := gW_l hts
  have hf : cells ≤ 590000 ∧ slots ≤ 7300000 := ⟨by omega, by omega⟩
  refine lv_aload_n hx hb dL_law_1285 rfl (lv_at hl 1 rfl) ?_
  refine lv_aload_n hx hb dL_law_1286 rfl (lv_at hl 0 rfl) ?_
  refine lv_iload_n hx hb dL_law_1287 rfl (lv_at hl 3 rfl) ?_
  refine lv_iconst (v := 1) hx hb dL_law_1288 (by decide) ?_
  refine lv_iadd hx hb dL_law_1289 ?_
  refine lv_topi (fun ix0 ex0 => ?_)
  refine va_sld hx hb hX hbl hbA hS (ix_in hi0 hi1 hL ex0 (by decide) (by decide)) dL_law_1290 ?_
  refine lv_topi (fun a0 ea0 => ?_)
  refine cx_compare l C0 hA hN hK hxe hZ a0 hCX hP hD hS hl.1 hf (fun r wx H locs hans hCX hP hD hS => ?_)
  refine lv_pop hx hb dL_law_1294 rfl ?_
  refine lv_aload_n hx hb dL_law_1295 rfl (lv_at hl 2 rfl) ?_
  refine lv_aload_n hx hb dL_law_1296 rfl (lv_at hl 0 rfl) ?_
  refine lv_iload_n hx hb dL_law_1297 rfl (lv_at hl 3 rfl) ?_
  refine lv_iconst (v := 1) hx hb dL_law_1298 (by decide) ?_
  refine lv_iadd hx hb dL_law_1299 ?_
  refine lv_topi (fun ix1 ex1 => ?_)
  refine va_sld hx hb hX hbl hbA hS (ix_in hi0 hi1 hL ex1 (by decide) (by decide)) dL_law_1300 ?_
  refine lv_topi (fun a1 ea1 => ?_)
  have e_a1 : a1 = a0 := ea1.trans (by rw [ex1, ← ex0]; exact ea0.symm)
  rw [e_a1]
  refine cm_compare l C0 hA hN hK (Nat.le_of_ble_eq_true rfl) a0 hCM (P_perm List.perm_append_comm hP) (D_perm List.perm_append_comm hD) hS hl.1 hf (fun r2 wm H locs hans2 hCM hP hD hS => ?_)
  replace hP := P_perm List.perm_append_comm hP
  replace hD := D_perm List.perm_append_comm hD
  refine lv_pop hx hb dL_law_1304 rfl ?_
  refine lv_goto (tgt := 1456) hx hb dL_law_1305 (by decide) ?_
  refine W.widen (k := cells + 3) (n := slots + 464) (by omega) (by omega) ?_
  exact K _ _ _ _ _ _ _ _ _ _ _ _ _ _ wx wm _ _ ls hCX hCM hP hD hS hl

set_option maxHeartbeats 1000000 in
set_option maxRecDepth 100000 in
theorem lw_c_drawn {p : Program} {e : Env} {s : State} {m : MethodId} {below : List Frame} {meth : Method} {c : Code} (l : Launch) {sb L : Nat} {xs : Nat → Int32} {A : Nat → Prop} (C0 : lw_At p s m meth c sb L xs) (hL : L ≤ 3072) (hA : ∀ q, s.heap.size ≤ q → A q) (hbA : ¬ A sb) {G : va_G} {cs : Nat → ClassId} {xe : XE} (hN : NW s) (hK : va_K G vwCl (tyL cs) s) (hxe : isRf xe.2.2) (hZ : XZ xe A s) {Q : State → Prop} {h0 m0 : Nat} {cells slots : Nat} (hf : cells ≤ 580000 ∧ slots ≤ 7290000) {i : Int32} (hi0 : 0 ≤ i.toInt) (hi1 : i.toInt + 6 ≤ (L : Int)) (K : ∀ (kx : Nat → Int32) (lx : Int32) (tx : Nat → Int32) (zw : Nat → Int) (zU : UL) (zl : Nat → List Cls) (zWI : Nat → Nat → Int) (zLI : Nat → Nat → List Cls) (zft : Int) (zsp : Int) (zmd : Int) (zla : Int) (zrf : Nat → Int32) (zD : ODr) (wx wm : va_W) (H : Heap) (locs : List Loc) (ls : Array Slot), CX cs h0 kx lx tx zw zU zl zWI zLI zft zsp zmd zla zrf zD wx → CM cs m0 kx lx tx zw zU zl zWI zLI zft zsp zmd zla zrf zD wm → va_P G vwCl (wx ++ wm) H → va_D A (wx ++ wm) → va_S A s.heap H locs → lv_has ls 4 [(0, .ref sb), (1, .ref h0), (2, .ref m0), (3, .int i)] → W p l e room_1 s m #[Value.ref sb] below meth c H locs (cells + 3) (slots + 464) Q (F0 m 1456 ls [])) {kx : Nat → Int32} {lx : Int32} {tx : Nat → Int32} {zw : Nat → Int} {zU : UL} {zl : Nat → List Cls} {zWI : Nat → Nat → Int} {zLI : Nat → Nat → List Cls} {zft : Int} {zsp : Int} {zmd : Int} {zla : Int} {zrf : Nat → Int32} {zD : ODr} {wx wm : va_W} {H : Heap} {locs : List Loc} {ls : Array Slot} (hCX : CX cs h0 kx lx tx zw zU zl zWI zLI zft zsp zmd zla zrf zD wx) (hCM : CM cs m0 kx lx tx zw zU zl zWI zLI zft zsp zmd zla zrf zD wm) (hP : va_P G vwCl (wx ++ wm) H) (hD : va_D A (wx ++ wm)) (hS : va_S A s.heap H locs) (hl : lv_has ls 4 [(0, .ref sb), (1, .ref h0), (2, .ref m0), (3, .int i)]) : W p l e room_1 s m #[Value.ref sb] below meth c H locs cells slots Q (F0 m 1341 ls []) := by
  obtain ⟨hx, hb, hr, hml, hown, hts, hX, hbl, hlocks, hgv⟩ := id C0
  have hb : c.code = cL_law := hb
  have hown : s.vm.findClass RL = some m.cls := hown
  have htl := gW_l hts
  have hf : cells ≤ 590000 ∧ slots ≤ 7300000 := ⟨by omega, by omega⟩
  refine lv_aload_n hx hb dL_law_1341 rfl (lv_at hl 1 rfl) ?_
  refine lv_aload_n hx hb dL_law_1342 rfl (lv_at hl 0 rfl) ?_
  refine lv_iload_n hx hb dL_law_1343 rfl (lv_at hl 3 rfl) ?_
  refine lv_iconst (v := 1) hx hb dL_law_1344 (by decide) ?_
  refine lv_iadd hx hb dL_law_1345 ?_
  refine lv_topi (fun ix0 ex0 => ?_)
  refine va_sld hx hb hX hbl hbA hS (ix_in hi0 hi1 hL ex0 (by decide) (by decide)) dL_law_1346 ?_
  refine lv_topi (fun a0 ea0 => ?_)
  refine lv_aload_n hx hb dL_law_1347 rfl (lv_at hl 0 rfl) ?_
  refine lv_iload_n hx hb dL_law_1348 rfl (lv_at hl 3 rfl) ?_
  refine lv_iconst (v := 2) hx hb dL_law_1349 (by decide) ?_
  refine lv_iadd hx hb dL_law_1350 ?_
  refine lv_topi (fun ix1 ex1 => ?_)
  refine va_sld hx hb hX hbl hbA hS (ix_in hi0 hi1 hL ex1 (by decide) (by decide)) dL_law_1351 ?_
  refine lv_topi (fun a1 ea1 => ?_)
  refine cx_drawn l C0 hA hN hK hxe hZ a0 a1 hCX hP hD hS hl.1 hf (fun r wx H locs hans hCX hP hD hS => ?_)
  refine lv_pop hx hb dL_law_1355 rfl ?_
  refine lv_aload_n hx hb dL_law_1356 rfl (lv_at hl 2 rfl) ?_
  refine lv_aload_n hx hb dL_law_1357 rfl (lv_at hl 0 rfl) ?_
  refine lv_iload_n hx hb dL_law_1358 rfl (lv_at hl 3 rfl) ?_
  refine lv_iconst (v := 1) hx hb dL_law_1359 (by decide) ?_
  refine lv_iadd hx hb dL_law_1360 ?_
  refine lv_topi (fun ix2 ex2 => ?_)
  refine va_sld hx hb hX hbl hbA hS (ix_in hi0 hi1 hL ex2 (by decide) (by decide)) dL_law_1361 ?_
  refine lv_topi (fun a2 ea2 => ?_)
  refine lv_aload_n hx hb dL_law_1362 rfl (lv_at hl 0 rfl) ?_
  refine lv_iload_n hx hb dL_law_1363 rfl (lv_at hl 3 rfl) ?_
  refine lv_iconst (v := 2) hx hb dL_law_1364 (by decide) ?_
  refine lv_iadd hx hb dL_law_1365 ?_
  refine lv_topi (fun ix3 ex3 => ?_)
  refine va_sld hx hb hX hbl hbA hS (ix_in hi0 hi1 hL ex3 (by decide) (by decide)) dL_law_1366 ?_
  refine lv_topi (fun a3 ea3 => ?_)
  have e_a2 : a2 = a0 := ea2.trans (by rw [ex2, ← ex0]; exact ea0.symm)
  rw [e_a2]
  have e_a3 : a3 = a1 := ea3.trans (by rw [ex3, ← ex1]; exact ea1.symm)
  rw [e_a3]
  refine cm_drawn l C0 hA hN hK (Nat.le_of_ble_eq_true rfl) a0 a1 hCM (P_perm List.perm_append_comm hP) (D_perm List.perm_append_comm hD) hS hl.1 hf (fun r2 wm H locs hans2 hCM hP hD hS => ?_)
  replace hP := P_perm List.perm_append_comm hP
  replace hD := D_perm List.perm_append_comm hD
  refine lv_pop hx hb dL_law_1370 rfl ?_
  refine lv_goto (tgt := 1456) hx hb dL_law_1371 (by decide) ?_
  refine W.widen (k := cells + 3) (n := slots + 464) (by omega) (by omega) ?_
  exact K _ _ _ _ _ _ _ _ _ _ _ _ _ _ wx wm _ _ ls hCX hCM hP hD hS hl

set_option maxHeartbeats 1000000 in
set_option maxRecDepth 100000 in
theorem lw_c_image {p : Program} {e : Env} {s : State} {m : MethodId} {below : List Frame} {meth : Method} {c : Code} (l : Launch) {sb L : Nat} {xs : Nat → Int32} {A : Nat → Prop} (C0 : lw_At p s m meth c sb L xs) (hL : L ≤ 3072) (hA : ∀ q, s.heap.size ≤ q → A q) (hbA : ¬ A sb) {G : va_G} {cs : Nat → ClassId} {xe : XE} (hN : NW s) (hK : va_K G vwCl (tyL cs) s) (hxe : isRf xe.2.2) (hZ : XZ xe A s) {Q : State → Prop} {h0 m0 : Nat} {cells slots : Nat} (hf : cells ≤ 580000 ∧ slots ≤ 7290000) {i : Int32} (hi0 : 0 ≤ i.toInt) (hi1 : i.toInt + 6 ≤ (L : Int)) (K : ∀ (kx : Nat → Int32) (lx : Int32) (tx : Nat → Int32) (zw : Nat → Int) (zU : UL) (zl : Nat → List Cls) (zWI : Nat → Nat → Int) (zLI : Nat → Nat → List Cls) (zft : Int) (zsp : Int) (zmd : Int) (zla : Int) (zrf : Nat → Int32) (zD : ODr) (wx wm : va_W) (H : Heap) (locs : List Loc) (ls : Array Slot), CX cs h0 kx lx tx zw zU zl zWI zLI zft zsp zmd zla zrf zD wx → CM cs m0 kx lx tx zw zU zl zWI zLI zft zsp zmd zla zrf zD wm → va_P G vwCl (wx ++ wm) H → va_D A (wx ++ wm) → va_S A s.heap H locs → lv_has ls 4 [(0, .ref sb), (1, .ref h0), (2, .ref m0), (3, .int i)] → W p l e room_1 s m #[Value.ref sb] below meth c H locs (cells + 3) (slots + 464) Q (F0 m 1456 ls [])) {kx : Nat → Int32} {lx : Int32} {tx : Nat → Int32} {zw : Nat → Int} {zU : UL} {zl : Nat → List Cls} {zWI : Nat → Nat → Int} {zLI : Nat → Nat → List Cls} {zft : Int} {zsp : Int} {zmd : Int} {zla : Int} {zrf : Nat → Int32} {zD : ODr} {wx wm : va_W} {H : Heap} {locs : List Loc} {ls : Array Slot} (hCX : CX cs h0 kx lx tx zw zU zl zWI zLI zft zsp zmd zla zrf zD wx) (hCM : CM cs m0 kx lx tx zw zU zl zWI zLI zft zsp zmd zla zrf zD wm) (hP : va_P G vwCl (wx ++ wm) H) (hD : va_D A (wx ++ wm)) (hS : va_S A s.heap H locs) (hl : lv_has ls 4 [(0, .ref sb), (1, .ref h0), (2, .ref m0), (3, .int i)]) : W p l e room_1 s m #[Value.ref sb] below meth c H locs cells slots Q (F0 m 1374 ls []) := by
  obtain ⟨hx, hb, hr, hml, hown, hts, hX, hbl, hlocks, hgv⟩ := id C0
  have hb : c.code = cL_law := hb
  have hown : s.vm.findClass RL = some m.cls := hown
  have htl := gW_l hts
  have hf : cells ≤ 590000 ∧ slots ≤ 7300000 := ⟨by omega, by omega⟩
  refine lv_aload_n hx hb dL_law_1374 rfl (lv_at hl 1 rfl) ?_
  refine lv_aload_n hx hb dL_law_1375 rfl (lv_at hl 0 rfl) ?_
  refine lv_iload_n hx hb dL_law_1376 rfl (lv_at hl 3 rfl) ?_
  refine lv_iconst (v := 1) hx hb dL_law_1377 (by decide) ?_
  refine lv_iadd hx hb dL_law_1378 ?_
  refine lv_topi (fun ix0 ex0 => ?_)
  refine va_sld hx hb hX hbl hbA hS (ix_in hi0 hi1 hL ex0 (by decide) (by decide)) dL_law_1379 ?_
  refine lv_topi (fun a0 ea0 => ?_)
  refine cx_image l C0 hA hN hK hxe hZ a0 hCX hP hD hS hl.1 hf (fun r wx H locs hans hCX hP hD hS => ?_)
  refine lv_pop hx hb dL_law_1383 rfl ?_
  refine lv_aload_n hx hb dL_law_1384 rfl (lv_at hl 2 rfl) ?_
  refine lv_aload_n hx hb dL_law_1385 rfl (lv_at hl 0 rfl) ?_
  refine lv_iload_n hx hb dL_law_1386 rfl (lv_at hl 3 rfl) ?_
  refine lv_iconst (v := 1) hx hb dL_law_1387 (by decide) ?_
  refine lv_iadd hx hb dL_law_1388 ?_
  refine lv_topi (fun ix1 ex1 => ?_)
  refine va_sld hx hb hX hbl hbA hS (ix_in hi0 hi1 hL ex1 (by decide) (by decide)) dL_law_1389 ?_
  refine lv_topi (fun a1 ea1 => ?_)
  have e_a1 : a1 = a0 := ea1.trans (by rw [ex1, ← ex0]; exact ea0.symm)
  rw [e_a1]
  refine cm_image l C0 hA hN hK (Nat.le_of_ble_eq_true rfl) a0 hCM (P_perm List.perm_append_comm hP) (D_perm List.perm_append_comm hD) hS hl.1 hf (fun r2 wm H locs hans2 hCM hP hD hS => ?_)
  replace hP := P_perm List.perm_append_comm hP
  replace hD := D_perm List.perm_append_comm hD
  refine lv_pop hx hb dL_law_1393 rfl ?_
  refine lv_goto (tgt := 1456) hx hb dL_law_1394 (by decide) ?_
  refine W.widen (k := cells + 3) (n := slots + 464) (by omega) (by omega) ?_
  exact K _ _ _ _ _ _ _ _ _ _ _ _ _ _ wx wm _ _ ls hCX hCM hP hD hS hl

set_option maxHeartbeats 1000000 in
set_option maxRecDepth 100000 in
theorem lw_c_back {p : Program} {e : Env} {s : State} {m : MethodId} {below : List Frame} {meth : Method} {c : Code} (l : Launch) {sb L : Nat} {xs : Nat → Int32} {A : Nat → Prop} (C0 : lw_At p s m meth c sb L xs) (hL : L ≤ 3072) (hA : ∀ q, s.heap.size ≤ q → A q) (hbA : ¬ A sb) {G : va_G} {cs : Nat → ClassId} {xe : XE} (hN : NW s) (hK : va_K G vwCl (tyL cs) s) (hxe : isRf xe.2.2) (hZ : XZ xe A s) {Q : State → Prop} {h0 m0 : Nat} {cells slots : Nat} (hf : cells ≤ 580000 ∧ slots ≤ 7290000) {i : Int32} (hi0 : 0 ≤ i.toInt) (hi1 : i.toInt + 6 ≤ (L : Int)) (K : ∀ (kx : Nat → Int32) (lx : Int32) (tx : Nat → Int32) (zw : Nat → Int) (zU : UL) (zl : Nat → List Cls) (zWI : Nat → Nat → Int) (zLI : Nat → Nat → List Cls) (zft : Int) (zsp : Int) (zmd : Int) (zla : Int) (zrf : Nat → Int32) (zD : ODr) (wx wm : va_W) (H : Heap) (locs : List Loc) (ls : Array Slot), CX cs h0 kx lx tx zw zU zl zWI zLI zft zsp zmd zla zrf zD wx → CM cs m0 kx lx tx zw zU zl zWI zLI zft zsp zmd zla zrf zD wm → va_P G vwCl (wx ++ wm) H → va_D A (wx ++ wm) → va_S A s.heap H locs → lv_has ls 4 [(0, .ref sb), (1, .ref h0), (2, .ref m0), (3, .int i)] → W p l e room_1 s m #[Value.ref sb] below meth c H locs (cells + 3) (slots + 464) Q (F0 m 1456 ls [])) {kx : Nat → Int32} {lx : Int32} {tx : Nat → Int32} {zw : Nat → Int} {zU : UL} {zl : Nat → List Cls} {zWI : Nat → Nat → Int} {zLI : Nat → Nat → List Cls} {zft : Int} {zsp : Int} {zmd : Int} {zla : Int} {zrf : Nat → Int32} {zD : ODr} {wx wm : va_W} {H : Heap} {locs : List Loc} {ls : Array Slot} (hCX : CX cs h0 kx lx tx zw zU zl zWI zLI zft zsp zmd zla zrf zD wx) (hCM : CM cs m0 kx lx tx zw zU zl zWI zLI zft zsp zmd zla zrf zD wm) (hP : va_P G vwCl (wx ++ wm) H) (hD : va_D A (wx ++ wm)) (hS : va_S A s.heap H locs) (hl : lv_has ls 4 [(0, .ref sb), (1, .ref h0), (2, .ref m0), (3, .int i)]) : W p l e room_1 s m #[Value.ref sb] below meth c H locs cells slots Q (F0 m 1397 ls []) := by
  obtain ⟨hx, hb, hr, hml, hown, hts, hX, hbl, hlocks, hgv⟩ := id C0
  have hb : c.code = cL_law := hb
  have hown : s.vm.findClass RL = some m.cls := hown
  have htl := gW_l hts
  have hf : cells ≤ 590000 ∧ slots ≤ 7300000 := ⟨by omega, by omega⟩
  refine lv_aload_n hx hb dL_law_1397 rfl (lv_at hl 1 rfl) ?_
  refine lv_aload_n hx hb dL_law_1398 rfl (lv_at hl 0 rfl) ?_
  refine lv_iload_n hx hb dL_law_1399 rfl (lv_at hl 3 rfl) ?_
  refine lv_iconst (v := 1) hx hb dL_law_1400 (by decide) ?_
  refine lv_iadd hx hb dL_law_1401 ?_
  refine lv_topi (fun ix0 ex0 => ?_)
  refine va_sld hx hb hX hbl hbA hS (ix_in hi0 hi1 hL ex0 (by decide) (by decide)) dL_law_1402 ?_
  refine lv_topi (fun a0 ea0 => ?_)
  refine cx_back l C0 hA hN hK hxe hZ a0 hCX hP hD hS hl.1 hf (fun r wx H locs hans hCX hP hD hS => ?_)
  refine lv_pop hx hb dL_law_1406 rfl ?_
  refine lv_aload_n hx hb dL_law_1407 rfl (lv_at hl 2 rfl) ?_
  refine lv_aload_n hx hb dL_law_1408 rfl (lv_at hl 0 rfl) ?_
  refine lv_iload_n hx hb dL_law_1409 rfl (lv_at hl 3 rfl) ?_
  refine lv_iconst (v := 1) hx hb dL_law_1410 (by decide) ?_
  refine lv_iadd hx hb dL_law_1411 ?_
  refine lv_topi (fun ix1 ex1 => ?_)
  refine va_sld hx hb hX hbl hbA hS (ix_in hi0 hi1 hL ex1 (by decide) (by decide)) dL_law_1412 ?_
  refine lv_topi (fun a1 ea1 => ?_)
  have e_a1 : a1 = a0 := ea1.trans (by rw [ex1, ← ex0]; exact ea0.symm)
  rw [e_a1]
  refine cm_back l C0 hA hN hK (Nat.le_of_ble_eq_true rfl) a0 hCM (P_perm List.perm_append_comm hP) (D_perm List.perm_append_comm hD) hS hl.1 hf (fun r2 wm H locs hans2 hCM hP hD hS => ?_)
  replace hP := P_perm List.perm_append_comm hP
  replace hD := D_perm List.perm_append_comm hD
  refine lv_pop hx hb dL_law_1416 rfl ?_
  refine lv_goto (tgt := 1456) hx hb dL_law_1417 (by decide) ?_
  refine W.widen (k := cells + 3) (n := slots + 464) (by omega) (by omega) ?_
  exact K _ _ _ _ _ _ _ _ _ _ _ _ _ _ wx wm _ _ ls hCX hCM hP hD hS hl

set_option maxHeartbeats 1000000 in
set_option maxRecDepth 100000 in
theorem lw_c_count {p : Program} {e : Env} {s : State} {m : MethodId} {below : List Frame} {meth : Method} {c : Code} (l : Launch) {sb L : Nat} {xs : Nat → Int32} {A : Nat → Prop} (C0 : lw_At p s m meth c sb L xs) (hL : L ≤ 3072) (hA : ∀ q, s.heap.size ≤ q → A q) (hbA : ¬ A sb) {G : va_G} {cs : Nat → ClassId} {xe : XE} (hN : NW s) (hK : va_K G vwCl (tyL cs) s) (hxe : isRf xe.2.2) (hZ : XZ xe A s) {Q : State → Prop} {h0 m0 : Nat} {cells slots : Nat} (hf : cells ≤ 580000 ∧ slots ≤ 7290000) {i : Int32} (hi0 : 0 ≤ i.toInt) (hi1 : i.toInt + 6 ≤ (L : Int)) (K : ∀ (kx : Nat → Int32) (lx : Int32) (tx : Nat → Int32) (zw : Nat → Int) (zU : UL) (zl : Nat → List Cls) (zWI : Nat → Nat → Int) (zLI : Nat → Nat → List Cls) (zft : Int) (zsp : Int) (zmd : Int) (zla : Int) (zrf : Nat → Int32) (zD : ODr) (wx wm : va_W) (H : Heap) (locs : List Loc) (ls : Array Slot), CX cs h0 kx lx tx zw zU zl zWI zLI zft zsp zmd zla zrf zD wx → CM cs m0 kx lx tx zw zU zl zWI zLI zft zsp zmd zla zrf zD wm → va_P G vwCl (wx ++ wm) H → va_D A (wx ++ wm) → va_S A s.heap H locs → lv_has ls 4 [(0, .ref sb), (1, .ref h0), (2, .ref m0), (3, .int i)] → W p l e room_1 s m #[Value.ref sb] below meth c H locs (cells + 3) (slots + 464) Q (F0 m 1456 ls [])) {kx : Nat → Int32} {lx : Int32} {tx : Nat → Int32} {zw : Nat → Int} {zU : UL} {zl : Nat → List Cls} {zWI : Nat → Nat → Int} {zLI : Nat → Nat → List Cls} {zft : Int} {zsp : Int} {zmd : Int} {zla : Int} {zrf : Nat → Int32} {zD : ODr} {wx wm : va_W} {H : Heap} {locs : List Loc} {ls : Array Slot} (hCX : CX cs h0 kx lx tx zw zU zl zWI zLI zft zsp zmd zla zrf zD wx) (hCM : CM cs m0 kx lx tx zw zU zl zWI zLI zft zsp zmd zla zrf zD wm) (hP : va_P G vwCl (wx ++ wm) H) (hD : va_D A (wx ++ wm)) (hS : va_S A s.heap H locs) (hl : lv_has ls 4 [(0, .ref sb), (1, .ref h0), (2, .ref m0), (3, .int i)]) : W p l e room_1 s m #[Value.ref sb] below meth c H locs cells slots Q (F0 m 1420 ls []) := by
  obtain ⟨hx, hb, hr, hml, hown, hts, hX, hbl, hlocks, hgv⟩ := id C0
  have hb : c.code = cL_law := hb
  have hown : s.vm.findClass RL = some m.cls := hown
  have htl := gW_l hts
  have hf : cells ≤ 590000 ∧ slots ≤ 7300000 := ⟨by omega, by omega⟩
  refine lv_aload_n hx hb dL_law_1420 rfl (lv_at hl 1 rfl) ?_
  refine lv_aload_n hx hb dL_law_1421 rfl (lv_at hl 0 rfl) ?_
  refine lv_iload_n hx hb dL_law_1422 rfl (lv_at hl 3 rfl) ?_
  refine lv_iconst (v := 1) hx hb dL_law_1423 (by decide) ?_
  refine lv_iadd hx hb dL_law_1424 ?_
  refine lv_topi (fun ix0 ex0 => ?_)
  refine va_sld hx hb hX hbl hbA hS (ix_in hi0 hi1 hL ex0 (by decide) (by decide)) dL_law_1425 ?_
  refine lv_topi (fun a0 ea0 => ?_)
  refine cx_count l C0 hA hN hK hxe hZ a0 hCX hP hD hS hl.1 hf (fun r wx H locs hans hCX hP hD hS => ?_)
  refine lv_pop hx hb dL_law_1429 rfl ?_
  refine lv_aload_n hx hb dL_law_1430 rfl (lv_at hl 2 rfl) ?_
  refine lv_aload_n hx hb dL_law_1431 rfl (lv_at hl 0 rfl) ?_
  refine lv_iload_n hx hb dL_law_1432 rfl (lv_at hl 3 rfl) ?_
  refine lv_iconst (v := 1) hx hb dL_law_1433 (by decide) ?_
  refine lv_iadd hx hb dL_law_1434 ?_
  refine lv_topi (fun ix1 ex1 => ?_)
  refine va_sld hx hb hX hbl hbA hS (ix_in hi0 hi1 hL ex1 (by decide) (by decide)) dL_law_1435 ?_
  refine lv_topi (fun a1 ea1 => ?_)
  have e_a1 : a1 = a0 := ea1.trans (by rw [ex1, ← ex0]; exact ea0.symm)
  rw [e_a1]
  refine cm_count l C0 hA hN hK (Nat.le_of_ble_eq_true rfl) a0 hCM (P_perm List.perm_append_comm hP) (D_perm List.perm_append_comm hD) hS hl.1 hf (fun r2 wm H locs hans2 hCM hP hD hS => ?_)
  replace hP := P_perm List.perm_append_comm hP
  replace hD := D_perm List.perm_append_comm hD
  refine lv_pop hx hb dL_law_1439 rfl ?_
  refine lv_goto (tgt := 1456) hx hb dL_law_1440 (by decide) ?_
  refine W.widen (k := cells + 3) (n := slots + 464) (by omega) (by omega) ?_
  exact K _ _ _ _ _ _ _ _ _ _ _ _ _ _ wx wm _ _ ls hCX hCM hP hD hS hl

set_option maxHeartbeats 1000000 in
set_option maxRecDepth 100000 in
theorem lw_c_status {p : Program} {e : Env} {s : State} {m : MethodId} {below : List Frame} {meth : Method} {c : Code} (l : Launch) {sb L : Nat} {xs : Nat → Int32} {A : Nat → Prop} (C0 : lw_At p s m meth c sb L xs) (hL : L ≤ 3072) (hA : ∀ q, s.heap.size ≤ q → A q) (hbA : ¬ A sb) {G : va_G} {cs : Nat → ClassId} {xe : XE} (hN : NW s) (hK : va_K G vwCl (tyL cs) s) (hxe : isRf xe.2.2) (hZ : XZ xe A s) {Q : State → Prop} {h0 m0 : Nat} {cells slots : Nat} (hf : cells ≤ 580000 ∧ slots ≤ 7290000) {i : Int32} (hi0 : 0 ≤ i.toInt) (hi1 : i.toInt + 6 ≤ (L : Int)) (K : ∀ (kx : Nat → Int32) (lx : Int32) (tx : Nat → Int32) (zw : Nat → Int) (zU : UL) (zl : Nat → List Cls) (zWI : Nat → Nat → Int) (zLI : Nat → Nat → List Cls) (zft : Int) (zsp : Int) (zmd : Int) (zla : Int) (zrf : Nat → Int32) (zD : ODr) (wx wm : va_W) (H : Heap) (locs : List Loc) (ls : Array Slot), CX cs h0 kx lx tx zw zU zl zWI zLI zft zsp zmd zla zrf zD wx → CM cs m0 kx lx tx zw zU zl zWI zLI zft zsp zmd zla zrf zD wm → va_P G vwCl (wx ++ wm) H → va_D A (wx ++ wm) → va_S A s.heap H locs → lv_has ls 4 [(0, .ref sb), (1, .ref h0), (2, .ref m0), (3, .int i)] → W p l e room_1 s m #[Value.ref sb] below meth c H locs (cells + 3) (slots + 464) Q (F0 m 1456 ls [])) {kx : Nat → Int32} {lx : Int32} {tx : Nat → Int32} {zw : Nat → Int} {zU : UL} {zl : Nat → List Cls} {zWI : Nat → Nat → Int} {zLI : Nat → Nat → List Cls} {zft : Int} {zsp : Int} {zmd : Int} {zla : Int} {zrf : Nat → Int32} {zD : ODr} {wx wm : va_W} {H : Heap} {locs : List Loc} {ls : Array Slot} (hCX : CX cs h0 kx lx tx zw zU zl zWI zLI zft zsp zmd zla zrf zD wx) (hCM : CM cs m0 kx lx tx zw zU zl zWI zLI zft zsp zmd zla zrf zD wm) (hP : va_P G vwCl (wx ++ wm) H) (hD : va_D A (wx ++ wm)) (hS : va_S A s.heap H locs) (hl : lv_has ls 4 [(0, .ref sb), (1, .ref h0), (2, .ref m0), (3, .int i)]) : W p l e room_1 s m #[Value.ref sb] below meth c H locs cells slots Q (F0 m 1443 ls []) := by
  obtain ⟨hx, hb, hr, hml, hown, hts, hX, hbl, hlocks, hgv⟩ := id C0
  have hb : c.code = cL_law := hb
  have hown : s.vm.findClass RL = some m.cls := hown
  have htl := gW_l hts
  have hf : cells ≤ 590000 ∧ slots ≤ 7300000 := ⟨by omega, by omega⟩
  refine lv_aload_n hx hb dL_law_1443 rfl (lv_at hl 1 rfl) ?_
  refine cx_status l C0 hA hN hK hxe hZ  hCX hP hD hS hl.1 hf (fun r wx H locs hans hCX hP hD hS => ?_)
  refine lv_pop hx hb dL_law_1447 rfl ?_
  refine lv_aload_n hx hb dL_law_1448 rfl (lv_at hl 2 rfl) ?_
  refine cm_status l C0 hA hN hK (Nat.le_of_ble_eq_true rfl)  hCM (P_perm List.perm_append_comm hP) (D_perm List.perm_append_comm hD) hS hl.1 hf (fun r2 wm H locs hans2 hCM hP hD hS => ?_)
  replace hP := P_perm List.perm_append_comm hP
  replace hD := D_perm List.perm_append_comm hD
  refine lv_pop hx hb dL_law_1452 rfl ?_
  refine lv_goto (tgt := 1456) hx hb dL_law_1453 (by decide) ?_
  refine W.widen (k := cells + 3) (n := slots + 464) (by omega) (by omega) ?_
  exact K _ _ _ _ _ _ _ _ _ _ _ _ _ _ wx wm _ _ ls hCX hCM hP hD hS hl
