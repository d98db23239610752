set_option maxHeartbeats 1000000 in
set_option maxRecDepth 100000 in
theorem lw_c_seasons {p : Program} {e : Env} {s : State} {m : MethodId} {below : List Frame} {meth : Method} {c : Code} (l : Launch) {sb L : Nat} {xs : Nat → Int32} {A : Nat → Prop} (C0 : lw_At p s m meth c sb L xs) (hL : L ≤ 3072) (hA : ∀ q, s.heap.size ≤ q → A q) (hbA : ¬ A sb) {G : va_G} {cs : Nat → ClassId} {xe : XE} (hN : NW s) (hK : va_K G vwCl (tyL cs) s) (hxe : isRf xe.2.2) (hZ : XZ xe A s) {Q : State → Prop} {h0 m0 : Nat} {cells slots : Nat} (hf : cells ≤ 580000 ∧ slots ≤ 7290000) {i : Int32} (hi0 : 0 ≤ i.toInt) (hi1 : i.toInt + 6 ≤ (L : Int)) (K : ∀ (kx : Nat → Int32) (lx : Int32) (tx : Nat → Int32) (zw : Nat → Int) (zU : UL) (zl : Nat → List Cls) (zWI : Nat → Nat → Int) (zLI : Nat → Nat → List Cls) (zft : Int) (zsp : Int) (zmd : Int) (zla : Int) (zrf : Nat → Int32) (zD : ODr) (wx wm : va_W) (H : Heap) (locs : List Loc) (ls : Array Slot), CX cs h0 kx lx tx zw zU zl zWI zLI zft zsp zmd zla zrf zD wx → CM cs m0 kx lx tx zw zU zl zWI zLI zft zsp zmd zla zrf zD wm → va_P G vwCl (wx ++ wm) H → va_D A (wx ++ wm) → va_S A s.heap H locs → lv_has ls 4 [(0, .ref sb), (1, .ref h0), (2, .ref m0), (3, .int i)] → W p l e room_1 s m #[Value.ref sb] below meth c H locs (cells + 3) (slots + 464) Q (F0 m 1456 ls [])) {kx : Nat → Int32} {lx : Int32} {tx : Nat → Int32} {zw : Nat → Int} {zU : UL} {zl : Nat → List Cls} {zWI : Nat → Nat → Int} {zLI : Nat → Nat → List Cls} {zft : Int} {zsp : Int} {zmd : Int} {zla : Int} {zrf : Nat → Int32} {zD : ODr} {wx wm : va_W} {H : Heap} {locs : List Loc} {ls : Array Slot} (hCX : CX cs h0 kx lx tx zw zU zl zWI zLI zft zsp zmd zla zrf zD wx) (hCM : CM cs m0 kx lx tx zw zU zl zWI zLI zft zsp zmd zla zrf zD wm) (hP : va_P G vwCl (wx ++ wm) H) (hD : va_D A (wx ++ wm)) (hS : va_S A s.heap H locs) (hl : lv_has ls 4 [(0, .ref sb), (1, .ref h0), (2, .ref m0), (3, .int i)]) : W p l e room_1 s m #[Value.ref sb] below meth c H locs cells slots Q (F0 m 1308 ls []) := by
  obtain ⟨hx, hb, hr, hml, hown, hts, hX, hbl, hlocks, hgv⟩ := id C0
  have hb : c.code = cL_law := hb
  have hown : s.vm.findClass RL = some m.cls := hown
  have htl := gW_l hts
  have hf : cells ≤ 590000 ∧ slots ≤ 7300000 := ⟨by omega, by omega⟩
  refine lv_aload_n hx hb dL_law_1308 rfl (lv_at hl 1 rfl) ?_
  refine lv_aload_n hx hb dL_law_1309 rfl (lv_at hl 0 rfl) ?_
  refine lv_iload_n hx hb dL_law_1310 rfl (lv_at hl 3 rfl) ?_
  refine lv_iconst (v := 1) hx hb dL_law_1311 (by decide) ?_
  refine lv_iadd hx hb dL_law_1312 ?_
  refine lv_topi (fun ix0 ex0 => ?_)
  refine va_sld hx hb hX hbl hbA hS (ix_in hi0 hi1 hL ex0 (by decide) (by decide)) dL_law_1313 ?_
  refine lv_topi (fun a0 ea0 => ?_)
  refine lv_aload_n hx hb dL_law_1314 rfl (lv_at hl 0 rfl) ?_
  refine lv_iload_n hx hb dL_law_1315 rfl (lv_at hl 3 rfl) ?_
  refine lv_iconst (v := 2) hx hb dL_law_1316 (by decide) ?_
  refine lv_iadd hx hb dL_law_1317 ?_
  refine lv_topi (fun ix1 ex1 => ?_)
  refine va_sld hx hb hX hbl hbA hS (ix_in hi0 hi1 hL ex1 (by decide) (by decide)) dL_law_1318 ?_
  refine lv_topi (fun a1 ea1 => ?_)
  refine cx_seasons l C0 hA hN hK hxe hZ a0 a1 hCX hP hD hS hl.1 hf (fun r wx H locs hCX hP hD hS => ?_)
  refine lv_pop hx hb dL_law_1322 rfl ?_
  refine lv_aload_n hx hb dL_law_1323 rfl (lv_at hl 2 rfl) ?_
  refine lv_aload_n hx hb dL_law_1324 rfl (lv_at hl 0 rfl) ?_
  refine lv_iload_n hx hb dL_law_1325 rfl (lv_at hl 3 rfl) ?_
  refine lv_iconst (v := 1) hx hb dL_law_1326 (by decide) ?_
  refine lv_iadd hx hb dL_law_1327 ?_
  refine lv_topi (fun ix2 ex2 => ?_)
  refine va_sld hx hb hX hbl hbA hS (ix_in hi0 hi1 hL ex2 (by decide) (by decide)) dL_law_1328 ?_
  refine lv_topi (fun a2 ea2 => ?_)
  refine lv_aload_n hx hb dL_law_1329 rfl (lv_at hl 0 rfl) ?_
  refine lv_iload_n hx hb dL_law_1330 rfl (lv_at hl 3 rfl) ?_
  refine lv_iconst (v := 2) hx hb dL_law_1331 (by decide) ?_
  refine lv_iadd hx hb dL_law_1332 ?_
  refine lv_topi (fun ix3 ex3 => ?_)
  refine va_sld hx hb hX hbl hbA hS (ix_in hi0 hi1 hL ex3 (by decide) (by decide)) dL_law_1333 ?_
  refine lv_topi (fun a3 ea3 => ?_)
  have e_a2 : a2 = a0 := ea2.trans (by rw [ex2, ← ex0]; exact ea0.symm)
  rw [e_a2]
  have e_a3 : a3 = a1 := ea3.trans (by rw [ex3, ← ex1]; exact ea1.symm)
  rw [e_a3]
  refine cm_seasons l C0 hA hN hK (Nat.le_of_ble_eq_true rfl) a0 a1 hCM (P_perm List.perm_append_comm hP) (D_perm List.perm_append_comm hD) hS hl.1 hf (fun r2 wm H locs hCM hP hD hS => ?_)
  replace hP := P_perm List.perm_append_comm hP
  replace hD := D_perm List.perm_append_comm hD
  refine lv_pop hx hb dL_law_1337 rfl ?_
  refine lv_goto (tgt := 1456) hx hb dL_law_1338 (by decide) ?_
  refine W.widen (k := cells + 3) (n := slots + 464) (by omega) (by omega) ?_
  exact K _ _ _ _ _ _ _ _ _ _ _ _ _ _ wx wm _ _ ls hCX hCM hP hD hS hl
