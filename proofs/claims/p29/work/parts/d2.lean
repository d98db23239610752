theorem dL_law_18 : decode cL_law 18 = .ok (.iload_n 3, 1) := by decide +kernel
theorem dL_law_19 : decode cL_law 19 = .ok (.aload_n 0, 1) := by decide +kernel
theorem dL_law_20 : decode cL_law 20 = .ok (.arraylength, 1) := by decide +kernel
theorem dL_law_21 : decode cL_law 21 = .ok (.bipush 6, 2) := by decide +kernel
theorem dL_law_23 : decode cL_law 23 = .ok (.isub, 1) := by decide +kernel
theorem dL_law_24 : decode cL_law 24 = .ok (.if_icmp .gt 1438, 3) := by decide +kernel
theorem dL_law_1462 : decode cL_law 1462 = .ok (.iconst 1, 1) := by decide +kernel
theorem dL_law_1463 : decode cL_law 1463 = .ok (.ireturn, 1) := by decide +kernel
theorem dL_law_27 : decode cL_law 27 = .ok (.aload_n 0, 1) := by decide +kernel
theorem dL_law_28 : decode cL_law 28 = .ok (.iload_n 3, 1) := by decide +kernel
theorem dL_law_29 : decode cL_law 29 = .ok (.iaload, 1) := by decide +kernel
theorem dL_law_30 : decode cL_law 30 = .ok (.bipush 63, 2) := by decide +kernel
theorem dL_law_32 : decode cL_law 32 = .ok (.iand, 1) := by decide +kernel
theorem dL_law_1456 : decode cL_law 1456 = .ok (.iinc 3 6, 3) := by decide +kernel
theorem dL_law_1459 : decode cL_law 1459 = .ok (.goto (-1441), 3) := by decide +kernel
theorem dL_law_33 : decode cL_law 33 = .ok (.tableswitch 1423 0 43 #[191, 234, 267, 290, 323, 356, 389, 422, 455, 518, 541, 554, 567, 580, 593, 606, 619, 642, 685, 718, 741, 764, 797, 820, 843, 876, 889, 932, 995, 1038, 1071, 1084, 1097, 1120, 1153, 1176, 1209, 1252, 1275, 1308, 1341, 1364, 1387, 1410], 191) := by decide +kernel
set_option maxHeartbeats 4000000 in
set_option maxRecDepth 100000 in
theorem lw_loop {p : Program} {e : Env} {s : State} {m : MethodId} {below : List Frame} {meth : Method} {c : Code} (l : Launch) {sb L : Nat} {xs : Nat → Int32} {A : Nat → Prop} (C0 : lw_At p s m meth c sb L xs) (hL : L ≤ 3072) (hA : ∀ q, s.heap.size ≤ q → A q) (hA2 : ∀ q, A q → s.heap.size ≤ q) (hbA : ¬ A sb) {G : va_G} {cs : Nat → ClassId} {xe : XE} (hN : NW s) (hK : va_K G vwCl (tyL cs) s) (hxe : isRf xe.2.2) (hZ : XZ xe A s) {h0 m0 : Nat} : ∀ (n : Nat) (i : Int32) (cells slots : Nat), 0 ≤ i.toInt → i.toInt ≤ (L : Int) → (L : Int) - i.toInt < 6 * (n : Int) → cells + 3 * n ≤ 580000 → slots + 464 * n ≤ 7290000 → ∀ (kx : Nat → Int32) (lx : Int32) (tx : Nat → Int32) (zw : Nat → Int) (zU : UL) (zl : Nat → List Cls) (zWI : Nat → Nat → Int) (zLI : Nat → Nat → List Cls) (zft : Int) (zsp : Int) (zmd : Int) (zla : Int) (zrf : Nat → Int32) (zD : ODr) (wx wm : va_W) (H : Heap) (locs : List Loc) (ls : Array Slot), CX cs h0 kx lx tx zw zU zl zWI zLI zft zsp zmd zla zrf zD wx → CM cs m0 kx lx tx zw zU zl zWI zLI zft zsp zmd zla zrf zD wm → va_P G vwCl (wx ++ wm) H → va_D A (wx ++ wm) → va_S A s.heap H locs → lv_has ls 4 [(0, .ref sb), (1, .ref h0), (2, .ref m0), (3, .int i)] → W p l e room_1 s m #[Value.ref sb] below meth c H locs cells slots (lw_Z below #[Value.ref sb] s) (F0 m 18 ls []) := by
  obtain ⟨hx, hb, hr, hml, hown, hts, hX, hbl, hlocks, hgv⟩ := id C0
  have hb : c.code = cL_law := hb
  have hown : s.vm.findClass RL = some m.cls := hown
  have htl := gW_l hts
  intro n
  induction n with
  | zero =>
    intro i cells slots g0 g1 g2
    exfalso
    have g2 : (L : Int) - i.toInt < 6 * 0 := g2
    omega
  | succ n ih =>
    intro i cells slots hi0 hiL hm hc hs kx lx tx zw zU zl zWI zLI zft zsp zmd zla zrf zD wx wm H locs ls hCX hCM hP hD hS hl
    have hm : (L : Int) - i.toInt < 6 * ((n : Int) + 1) := by simpa using hm
    have hc : cells + 3 * n + 3 ≤ 580000 := by omega
    have hs : slots + 464 * n + 464 ≤ 7290000 := by omega
    refine lv_iload_n hx hb dL_law_18 rfl (lv_at hl 3 rfl) ?_
    refine lv_aload_n hx hb dL_law_19 rfl (lv_at hl 0 rfl) ?_
    refine va_slen hx hb hX hbl hbA hS dL_law_20 ?_
    refine W.eq (g2 := F0 m 21 ls [.int (Int32.ofNat L), .int i]) rfl ?_
    refine lv_bipush (v := 6) hx hb dL_law_21 (by decide) ?_
    refine lv_isub hx hb dL_law_23 ?_
    refine lv_topi (fun z ez => ?_)
    have ez1 : z.toInt = (L : Int) - 6 := by rw [ez]; exact sub_z (of_z (by omega)) rfl (by omega) (by omega)
    refine lv_icmp_gt (tgt := 1462) hx hb dL_law_24 (by decide) (fun hg => ?_) (fun hg => ?_)
    · refine lv_iconst (v := 1) hx hb dL_law_1462 (by decide) ?_
      refine va_forget (fun q hq => hA2 _ (hS.2.2 q hq)) ?_
      refine W.widen (k := 600000) (n := 7302250) (by omega) (by omega) ?_
      exact lw_ret hx hb hr hlocks dL_law_1463
    · have hg1 := nlt_z (a := z) (b := i) (x := z.toInt) (y := i.toInt) rfl rfl hg
      have hi1 : i.toInt + 6 ≤ (L : Int) := by omega
      refine lv_aload_n hx hb dL_law_27 rfl (lv_at hl 0 rfl) ?_
      refine lv_iload_n hx hb dL_law_28 rfl (lv_at hl 3 rfl) ?_
      refine va_sld hx hb hX hbl hbA hS (vpi (i := i) (x := i.toInt) rfl hi0 (by omega)) dL_law_29 ?_
      refine lv_topi (fun a ea => ?_)
      refine lv_bipush (v := 63) hx hb dL_law_30 (by decide) ?_
      refine lv_iand hx hb dL_law_32 ?_
      refine lv_topi (fun t et => ?_)
      have e6 : (i + 6).toInt = i.toInt + 6 := add_z (a := i) (b := 6) rfl rfl (by omega) (by omega)
      have K : ∀ (kx : Nat → Int32) (lx : Int32) (tx : Nat → Int32) (zw : Nat → Int) (zU : UL) (zl : Nat → List Cls) (zWI : Nat → Nat → Int) (zLI : Nat → Nat → List Cls) (zft : Int) (zsp : Int) (zmd : Int) (zla : Int) (zrf : Nat → Int32) (zD : ODr) (wx wm : va_W) (H : Heap) (locs : List Loc) (ls : Array Slot), CX cs h0 kx lx tx zw zU zl zWI zLI zft zsp zmd zla zrf zD wx → CM cs m0 kx lx tx zw zU zl zWI zLI zft zsp zmd zla zrf zD wm → va_P G vwCl (wx ++ wm) H → va_D A (wx ++ wm) → va_S A s.heap H locs → lv_has ls 4 [(0, .ref sb), (1, .ref h0), (2, .ref m0), (3, .int i)] → W p l e room_1 s m #[Value.ref sb] below meth c H locs (cells + 3) (slots + 464) (lw_Z below #[Value.ref sb] s) (F0 m 1456 ls []) := by
        intro kx lx tx zw zU zl zWI zLI zft zsp zmd zla zrf zD wx wm H locs ls hCX hCM hP hD hS hl
        refine lv_iinc (v := i + 6) (lv' := [(3, .int (i + 6)), (0, .ref sb), (1, .ref h0), (2, .ref m0)]) hx hb dL_law_1456 hl (k := 3) rfl (by first | rfl | decide) (by decide) rfl (fun ls hl => ?_)
        refine lv_goto (tgt := 18) hx hb dL_law_1459 (by decide) ?_
        exact ih (i + 6) (cells + 3) (slots + 464) (by omega) (by omega) (by omega) (by omega) (by omega) kx lx tx zw zU zl zWI zLI zft zsp zmd zla zrf zD wx wm _ _ ls hCX hCM hP hD hS (lv_sub hl [1, 2, 3, 0] rfl)
      have hf : cells ≤ 580000 ∧ slots ≤ 7290000 := ⟨by omega, by omega⟩
      by_cases s0 : t = 0
      · refine lv_tableIn (off := 191) (tgt := 224) hx hb dL_law_33 (by rw [s0]; decide) (by rw [s0]; decide) (by rw [s0]; decide) (by decide) ?_
        exact lw_c_put l C0 hL hA hbA hN hK hxe hZ hf hi0 hi1 K hCX hCM hP hD hS hl
      by_cases s1 : t = 1
      · refine lv_tableIn (off := 234) (tgt := 267) hx hb dL_law_33 (by rw [s1]; decide) (by rw [s1]; decide) (by rw [s1]; decide) (by decide) ?_
        exact lw_c_at l C0 hL hA hbA hN hK hxe hZ hf hi0 hi1 K hCX hCM hP hD hS hl
      by_cases s2 : t = 2
      · refine lv_tableIn (off := 267) (tgt := 300) hx hb dL_law_33 (by rw [s2]; decide) (by rw [s2]; decide) (by rw [s2]; decide) (by decide) ?_
        exact lw_c_sink l C0 hL hA hbA hN hK hxe hZ hf hi0 hi1 K hCX hCM hP hD hS hl
      by_cases s3 : t = 3
      · refine lv_tableIn (off := 290) (tgt := 323) hx hb dL_law_33 (by rw [s3]; decide) (by rw [s3]; decide) (by rw [s3]; decide) (by decide) ?_
        exact lw_c_of l C0 hL hA hbA hN hK hxe hZ hf hi0 hi1 K hCX hCM hP hD hS hl
      by_cases s4 : t = 4
      · refine lv_tableIn (off := 323) (tgt := 356) hx hb dL_law_33 (by rw [s4]; decide) (by rw [s4]; decide) (by rw [s4]; decide) (by decide) ?_
        exact lw_c_listener l C0 hL hA hbA hN hK hxe hZ hf hi0 hi1 K hCX hCM hP hD hS hl
      by_cases s5 : t = 5
      · refine lv_tableIn (off := 356) (tgt := 389) hx hb dL_law_33 (by rw [s5]; decide) (by rw [s5]; decide) (by rw [s5]; decide) (by decide) ?_
        exact lw_c_noise l C0 hL hA hbA hN hK hxe hZ hf hi0 hi1 K hCX hCM hP hD hS hl
      by_cases s6 : t = 6
      · refine lv_tableIn (off := 389) (tgt := 422) hx hb dL_law_33 (by rw [s6]; decide) (by rw [s6]; decide) (by rw [s6]; decide) (by decide) ?_
        exact lw_c_who l C0 hL hA hbA hN hK hxe hZ hf hi0 hi1 K hCX hCM hP hD hS hl
      by_cases s7 : t = 7
      · refine lv_tableIn (off := 422) (tgt := 455) hx hb dL_law_33 (by rw [s7]; decide) (by rw [s7]; decide) (by rw [s7]; decide) (by decide) ?_
        exact lw_c_terms l C0 hL hA hbA hN hK hxe hZ hf hi0 hi1 K hCX hCM hP hD hS hl
      by_cases s8 : t = 8
      · refine lv_tableIn (off := 455) (tgt := 488) hx hb dL_law_33 (by rw [s8]; decide) (by rw [s8]; decide) (by rw [s8]; decide) (by decide) ?_
        exact lw_c_feed l C0 hL hA hbA hN hK hxe hZ hf hi0 hi1 K hCX hCM hP hD hS hl
      by_cases s9 : t = 9
      · refine lv_tableIn (off := 518) (tgt := 551) hx hb dL_law_33 (by rw [s9]; decide) (by rw [s9]; decide) (by rw [s9]; decide) (by decide) ?_
        exact lw_c_end l C0 hL hA hbA hN hK hxe hZ hf hi0 hi1 K hCX hCM hP hD hS hl
      by_cases s10 : t = 10
      · refine lv_tableIn (off := 541) (tgt := 574) hx hb dL_law_33 (by rw [s10]; decide) (by rw [s10]; decide) (by rw [s10]; decide) (by decide) ?_
        exact lw_c_row l C0 hL hA hbA hN hK hxe hZ hf hi0 hi1 K hCX hCM hP hD hS hl
      by_cases s11 : t = 11
      · refine lv_tableIn (off := 554) (tgt := 587) hx hb dL_law_33 (by rw [s11]; decide) (by rw [s11]; decide) (by rw [s11]; decide) (by decide) ?_
        exact lw_c_mud l C0 hL hA hbA hN hK hxe hZ hf hi0 hi1 K hCX hCM hP hD hS hl
      by_cases s12 : t = 12
      · refine lv_tableIn (off := 567) (tgt := 600) hx hb dL_law_33 (by rw [s12]; decide) (by rw [s12]; decide) (by rw [s12]; decide) (by decide) ?_
        exact lw_c_law l C0 hL hA hbA hN hK hxe hZ hf hi0 hi1 K hCX hCM hP hD hS hl
      by_cases s13 : t = 13
      · refine lv_tableIn (off := 580) (tgt := 613) hx hb dL_law_33 (by rw [s13]; decide) (by rw [s13]; decide) (by rw [s13]; decide) (by decide) ?_
        exact lw_c_orders l C0 hL hA hbA hN hK hxe hZ hf hi0 hi1 K hCX hCM hP hD hS hl
      by_cases s14 : t = 14
      · refine lv_tableIn (off := 593) (tgt := 626) hx hb dL_law_33 (by rw [s14]; decide) (by rw [s14]; decide) (by rw [s14]; decide) (by decide) ?_
        exact lw_c_fault l C0 hL hA hbA hN hK hxe hZ hf hi0 hi1 K hCX hCM hP hD hS hl
      by_cases s15 : t = 15
      · refine lv_tableIn (off := 606) (tgt := 639) hx hb dL_law_33 (by rw [s15]; decide) (by rw [s15]; decide) (by rw [s15]; decide) (by decide) ?_
        exact lw_c_stopped l C0 hL hA hbA hN hK hxe hZ hf hi0 hi1 K hCX hCM hP hD hS hl
      by_cases s16 : t = 16
      · refine lv_tableIn (off := 619) (tgt := 652) hx hb dL_law_33 (by rw [s16]; decide) (by rw [s16]; decide) (by rw [s16]; decide) (by decide) ?_
        exact lw_c_force l C0 hL hA hbA hN hK hxe hZ hf hi0 hi1 K hCX hCM hP hD hS hl
      by_cases s17 : t = 17
      · refine lv_tableIn (off := 642) (tgt := 675) hx hb dL_law_33 (by rw [s17]; decide) (by rw [s17]; decide) (by rw [s17]; decide) (by decide) ?_
        exact lw_c_asks l C0 hL hA hbA hN hK hxe hZ hf hi0 hi1 K hCX hCM hP hD hS hl
      by_cases s18 : t = 18
      · refine lv_tableIn (off := 685) (tgt := 718) hx hb dL_law_33 (by rw [s18]; decide) (by rw [s18]; decide) (by rw [s18]; decide) (by decide) ?_
        exact lw_c_loud l C0 hL hA hbA hN hK hxe hZ hf hi0 hi1 K hCX hCM hP hD hS hl
      by_cases s19 : t = 19
      · refine lv_tableIn (off := 718) (tgt := 751) hx hb dL_law_33 (by rw [s19]; decide) (by rw [s19]; decide) (by rw [s19]; decide) (by decide) ?_
        exact lw_c_din l C0 hL hA hbA hN hK hxe hZ hf hi0 hi1 K hCX hCM hP hD hS hl
      by_cases s20 : t = 20
      · refine lv_tableIn (off := 741) (tgt := 774) hx hb dL_law_33 (by rw [s20]; decide) (by rw [s20]; decide) (by rw [s20]; decide) (by decide) ?_
        exact lw_c_hears l C0 hL hA hbA hN hK hxe hZ hf hi0 hi1 K hCX hCM hP hD hS hl
      by_cases s21 : t = 21
      · refine lv_tableIn (off := 764) (tgt := 797) hx hb dL_law_33 (by rw [s21]; decide) (by rw [s21]; decide) (by rw [s21]; decide) (by decide) ?_
        exact lw_c_dig l C0 hL hA hbA hN hK hxe hZ hf hi0 hi1 K hCX hCM hP hD hS hl
      by_cases s22 : t = 22
      · refine lv_tableIn (off := 797) (tgt := 830) hx hb dL_law_33 (by rw [s22]; decide) (by rw [s22]; decide) (by rw [s22]; decide) (by decide) ?_
        exact lw_c_haul l C0 hL hA hbA hN hK hxe hZ hf hi0 hi1 K hCX hCM hP hD hS hl
      by_cases s23 : t = 23
      · refine lv_tableIn (off := 820) (tgt := 853) hx hb dL_law_33 (by rw [s23]; decide) (by rw [s23]; decide) (by rw [s23]; decide) (by decide) ?_
        exact lw_c_hush l C0 hL hA hbA hN hK hxe hZ hf hi0 hi1 K hCX hCM hP hD hS hl
      by_cases s24 : t = 24
      · refine lv_tableIn (off := 843) (tgt := 876) hx hb dL_law_33 (by rw [s24]; decide) (by rw [s24]; decide) (by rw [s24]; decide) (by decide) ?_
        exact lw_c_lie l C0 hL hA hbA hN hK hxe hZ hf hi0 hi1 K hCX hCM hP hD hS hl
      by_cases s25 : t = 25
      · refine lv_tableIn (off := 876) (tgt := 909) hx hb dL_law_33 (by rw [s25]; decide) (by rw [s25]; decide) (by rw [s25]; decide) (by decide) ?_
        exact lw_c_undo l C0 hL hA hbA hN hK hxe hZ hf hi0 hi1 K hCX hCM hP hD hS hl
      by_cases s26 : t = 26
      · refine lv_tableIn (off := 889) (tgt := 922) hx hb dL_law_33 (by rw [s26]; decide) (by rw [s26]; decide) (by rw [s26]; decide) (by decide) ?_
        exact lw_c_down l C0 hL hA hbA hN hK hxe hZ hf hi0 hi1 K hCX hCM hP hD hS hl
      by_cases s27 : t = 27
      · refine lv_tableIn (off := 932) (tgt := 965) hx hb dL_law_33 (by rw [s27]; decide) (by rw [s27]; decide) (by rw [s27]; decide) (by decide) ?_
        exact lw_c_gangs l C0 hL hA hbA hN hK hxe hZ hf hi0 hi1 K hCX hCM hP hD hS hl
      by_cases s28 : t = 28
      · refine lv_tableIn (off := 995) (tgt := 1028) hx hb dL_law_33 (by rw [s28]; decide) (by rw [s28]; decide) (by rw [s28]; decide) (by decide) ?_
        exact lw_c_quiet l C0 hL hA hbA hN hK hxe hZ hf hi0 hi1 K hCX hCM hP hD hS hl
      by_cases s29 : t = 29
      · refine lv_tableIn (off := 1038) (tgt := 1071) hx hb dL_law_33 (by rw [s29]; decide) (by rw [s29]; decide) (by rw [s29]; decide) (by decide) ?_
        exact lw_c_heard l C0 hL hA hbA hN hK hxe hZ hf hi0 hi1 K hCX hCM hP hD hS hl
      by_cases s30 : t = 30
      · refine lv_tableIn (off := 1071) (tgt := 1104) hx hb dL_law_33 (by rw [s30]; decide) (by rw [s30]; decide) (by rw [s30]; decide) (by decide) ?_
        exact lw_c_forget l C0 hL hA hbA hN hK hxe hZ hf hi0 hi1 K hCX hCM hP hD hS hl
      by_cases s31 : t = 31
      · refine lv_tableIn (off := 1084) (tgt := 1117) hx hb dL_law_33 (by rw [s31]; decide) (by rw [s31]; decide) (by rw [s31]; decide) (by decide) ?_
        exact lw_c_hidden l C0 hL hA hbA hN hK hxe hZ hf hi0 hi1 K hCX hCM hP hD hS hl
      by_cases s32 : t = 32
      · refine lv_tableIn (off := 1097) (tgt := 1130) hx hb dL_law_33 (by rw [s32]; decide) (by rw [s32]; decide) (by rw [s32]; decide) (by decide) ?_
        exact lw_c_next l C0 hL hA hbA hN hK hxe hZ hf hi0 hi1 K hCX hCM hP hD hS hl
      by_cases s33 : t = 33
      · refine lv_tableIn (off := 1120) (tgt := 1153) hx hb dL_law_33 (by rw [s33]; decide) (by rw [s33]; decide) (by rw [s33]; decide) (by decide) ?_
        exact lw_c_well l C0 hL hA hbA hN hK hxe hZ hf hi0 hi1 K hCX hCM hP hD hS hl
      by_cases s34 : t = 34
      · refine lv_tableIn (off := 1153) (tgt := 1186) hx hb dL_law_33 (by rw [s34]; decide) (by rw [s34]; decide) (by rw [s34]; decide) (by decide) ?_
        exact lw_c_tongue l C0 hL hA hbA hN hK hxe hZ hf hi0 hi1 K hCX hCM hP hD hS hl
      by_cases s35 : t = 35
      · refine lv_tableIn (off := 1176) (tgt := 1209) hx hb dL_law_33 (by rw [s35]; decide) (by rw [s35]; decide) (by rw [s35]; decide) (by decide) ?_
        exact lw_c_vein l C0 hL hA hbA hN hK hxe hZ hf hi0 hi1 K hCX hCM hP hD hS hl
      by_cases s36 : t = 36
      · refine lv_tableIn (off := 1209) (tgt := 1242) hx hb dL_law_33 (by rw [s36]; decide) (by rw [s36]; decide) (by rw [s36]; decide) (by decide) ?_
        exact lw_c_time l C0 hL hA hbA hN hK hxe hZ hf hi0 hi1 K hCX hCM hP hD hS hl
      by_cases s37 : t = 37
      · refine lv_tableIn (off := 1252) (tgt := 1285) hx hb dL_law_33 (by rw [s37]; decide) (by rw [s37]; decide) (by rw [s37]; decide) (by decide) ?_
        exact lw_c_compare l C0 hL hA hbA hN hK hxe hZ hf hi0 hi1 K hCX hCM hP hD hS hl
      by_cases s38 : t = 38
      · refine lv_tableIn (off := 1275) (tgt := 1308) hx hb dL_law_33 (by rw [s38]; decide) (by rw [s38]; decide) (by rw [s38]; decide) (by decide) ?_
        exact lw_c_seasons l C0 hL hA hbA hN hK hxe hZ hf hi0 hi1 K hCX hCM hP hD hS hl
      by_cases s39 : t = 39
      · refine lv_tableIn (off := 1308) (tgt := 1341) hx hb dL_law_33 (by rw [s39]; decide) (by rw [s39]; decide) (by rw [s39]; decide) (by decide) ?_
        exact lw_c_drawn l C0 hL hA hbA hN hK hxe hZ hf hi0 hi1 K hCX hCM hP hD hS hl
      by_cases s40 : t = 40
      · refine lv_tableIn (off := 1341) (tgt := 1374) hx hb dL_law_33 (by rw [s40]; decide) (by rw [s40]; decide) (by rw [s40]; decide) (by decide) ?_
        exact lw_c_image l C0 hL hA hbA hN hK hxe hZ hf hi0 hi1 K hCX hCM hP hD hS hl
      by_cases s41 : t = 41
      · refine lv_tableIn (off := 1364) (tgt := 1397) hx hb dL_law_33 (by rw [s41]; decide) (by rw [s41]; decide) (by rw [s41]; decide) (by decide) ?_
        exact lw_c_back l C0 hL hA hbA hN hK hxe hZ hf hi0 hi1 K hCX hCM hP hD hS hl
      by_cases s42 : t = 42
      · refine lv_tableIn (off := 1387) (tgt := 1420) hx hb dL_law_33 (by rw [s42]; decide) (by rw [s42]; decide) (by rw [s42]; decide) (by decide) ?_
        exact lw_c_count l C0 hL hA hbA hN hK hxe hZ hf hi0 hi1 K hCX hCM hP hD hS hl
      by_cases s43 : t = 43
      · refine lv_tableIn (off := 1410) (tgt := 1443) hx hb dL_law_33 (by rw [s43]; decide) (by rw [s43]; decide) (by rw [s43]; decide) (by decide) ?_
        exact lw_c_status l C0 hL hA hbA hN hK hxe hZ hf hi0 hi1 K hCX hCM hP hD hS hl
      refine lv_tableOut (tgt := 1456) hx hb dL_law_33 (by have t0 := lv_neT (a := 0) s0 rfl; have t1 := lv_neT (a := 1) s1 rfl; have t2 := lv_neT (a := 2) s2 rfl; have t3 := lv_neT (a := 3) s3 rfl; have t4 := lv_neT (a := 4) s4 rfl; have t5 := lv_neT (a := 5) s5 rfl; have t6 := lv_neT (a := 6) s6 rfl; have t7 := lv_neT (a := 7) s7 rfl; have t8 := lv_neT (a := 8) s8 rfl; have t9 := lv_neT (a := 9) s9 rfl; have t10 := lv_neT (a := 10) s10 rfl; have t11 := lv_neT (a := 11) s11 rfl; have t12 := lv_neT (a := 12) s12 rfl; have t13 := lv_neT (a := 13) s13 rfl; have t14 := lv_neT (a := 14) s14 rfl; have t15 := lv_neT (a := 15) s15 rfl; have t16 := lv_neT (a := 16) s16 rfl; have t17 := lv_neT (a := 17) s17 rfl; have t18 := lv_neT (a := 18) s18 rfl; have t19 := lv_neT (a := 19) s19 rfl; have t20 := lv_neT (a := 20) s20 rfl; have t21 := lv_neT (a := 21) s21 rfl; have t22 := lv_neT (a := 22) s22 rfl; have t23 := lv_neT (a := 23) s23 rfl; have t24 := lv_neT (a := 24) s24 rfl; have t25 := lv_neT (a := 25) s25 rfl; have t26 := lv_neT (a := 26) s26 rfl; have t27 := lv_neT (a := 27) s27 rfl; have t28 := lv_neT (a := 28) s28 rfl; have t29 := lv_neT (a := 29) s29 rfl; have t30 := lv_neT (a := 30) s30 rfl; have t31 := lv_neT (a := 31) s31 rfl; have t32 := lv_neT (a := 32) s32 rfl; have t33 := lv_neT (a := 33) s33 rfl; have t34 := lv_neT (a := 34) s34 rfl; have t35 := lv_neT (a := 35) s35 rfl; have t36 := lv_neT (a := 36) s36 rfl; have t37 := lv_neT (a := 37) s37 rfl; have t38 := lv_neT (a := 38) s38 rfl; have t39 := lv_neT (a := 39) s39 rfl; have t40 := lv_neT (a := 40) s40 rfl; have t41 := lv_neT (a := 41) s41 rfl; have t42 := lv_neT (a := 42) s42 rfl; have t43 := lv_neT (a := 43) s43 rfl; omega) (by decide) ?_
      refine W.widen (k := cells + 3) (n := slots + 464) (by omega) (by omega) ?_
      exact K kx lx tx zw zU zl zWI zLI zft zsp zmd zla zrf zD wx wm H locs ls hCX hCM hP hD hS hl
