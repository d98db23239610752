def sp_J_ibc (a : Int32) : Int32 := ((((((((a - ((a.toUInt32 >>> ((1 : Int32).toUInt32 &&& Int32.toUInt32 31)).toInt32 &&& 1431655765)) &&& 858993459) + (((a - ((a.toUInt32 >>> ((1 : Int32).toUInt32 &&& Int32.toUInt32 31)).toInt32 &&& 1431655765)).toUInt32 >>> ((2 : Int32).toUInt32 &&& Int32.toUInt32 31)).toInt32 &&& 858993459)) + ((((a - ((a.toUInt32 >>> ((1 : Int32).toUInt32 &&& Int32.toUInt32 31)).toInt32 &&& 1431655765)) &&& 858993459) + (((a - ((a.toUInt32 >>> ((1 : Int32).toUInt32 &&& Int32.toUInt32 31)).toInt32 &&& 1431655765)).toUInt32 >>> ((2 : Int32).toUInt32 &&& Int32.toUInt32 31)).toInt32 &&& 858993459)).toUInt32 >>> ((4 : Int32).toUInt32 &&& Int32.toUInt32 31)).toInt32) &&& 252645135) + ((((((a - ((a.toUInt32 >>> ((1 : Int32).toUInt32 &&& Int32.toUInt32 31)).toInt32 &&& 1431655765)) &&& 858993459) + (((a - ((a.toUInt32 >>> ((1 : Int32).toUInt32 &&& Int32.toUInt32 31)).toInt32 &&& 1431655765)).toUInt32 >>> ((2 : Int32).toUInt32 &&& Int32.toUInt32 31)).toInt32 &&& 858993459)) + ((((a - ((a.toUInt32 >>> ((1 : Int32).toUInt32 &&& Int32.toUInt32 31)).toInt32 &&& 1431655765)) &&& 858993459) + (((a - ((a.toUInt32 >>> ((1 : Int32).toUInt32 &&& Int32.toUInt32 31)).toInt32 &&& 1431655765)).toUInt32 >>> ((2 : Int32).toUInt32 &&& Int32.toUInt32 31)).toInt32 &&& 858993459)).toUInt32 >>> ((4 : Int32).toUInt32 &&& Int32.toUInt32 31)).toInt32) &&& 252645135).toUInt32 >>> ((8 : Int32).toUInt32 &&& Int32.toUInt32 31)).toInt32) + (((((((a - ((a.toUInt32 >>> ((1 : Int32).toUInt32 &&& Int32.toUInt32 31)).toInt32 &&& 1431655765)) &&& 858993459) + (((a - ((a.toUInt32 >>> ((1 : Int32).toUInt32 &&& Int32.toUInt32 31)).toInt32 &&& 1431655765)).toUInt32 >>> ((2 : Int32).toUInt32 &&& Int32.toUInt32 31)).toInt32 &&& 858993459)) + ((((a - ((a.toUInt32 >>> ((1 : Int32).toUInt32 &&& Int32.toUInt32 31)).toInt32 &&& 1431655765)) &&& 858993459) + (((a - ((a.toUInt32 >>> ((1 : Int32).toUInt32 &&& Int32.toUInt32 31)).toInt32 &&& 1431655765)).toUInt32 >>> ((2 : Int32).toUInt32 &&& Int32.toUInt32 31)).toInt32 &&& 858993459)).toUInt32 >>> ((4 : Int32).toUInt32 &&& Int32.toUInt32 31)).toInt32) &&& 252645135) + ((((((a - ((a.toUInt32 >>> ((1 : Int32).toUInt32 &&& Int32.toUInt32 31)).toInt32 &&& 1431655765)) &&& 858993459) + (((a - ((a.toUInt32 >>> ((1 : Int32).toUInt32 &&& Int32.toUInt32 31)).toInt32 &&& 1431655765)).toUInt32 >>> ((2 : Int32).toUInt32 &&& Int32.toUInt32 31)).toInt32 &&& 858993459)) + ((((a - ((a.toUInt32 >>> ((1 : Int32).toUInt32 &&& Int32.toUInt32 31)).toInt32 &&& 1431655765)) &&& 858993459) + (((a - ((a.toUInt32 >>> ((1 : Int32).toUInt32 &&& Int32.toUInt32 31)).toInt32 &&& 1431655765)).toUInt32 >>> ((2 : Int32).toUInt32 &&& Int32.toUInt32 31)).toInt32 &&& 858993459)).toUInt32 >>> ((4 : Int32).toUInt32 &&& Int32.toUInt32 31)).toInt32) &&& 252645135).toUInt32 >>> ((8 : Int32).toUInt32 &&& Int32.toUInt32 31)).toInt32).toUInt32 >>> ((16 : Int32).toUInt32 &&& Int32.toUInt32 31)).toInt32) &&& 63)
set_option maxHeartbeats 1000000 in
set_option maxRecDepth 100000 in
theorem c_J_ibc (l : Launch) (G : va_G) (cs : Nat → ClassId) (a : Int32) : Met l yJ6_bitCount_0f7a4 (Cond.code yJ6_bitCount_0f7a4 cJ6_bitCount_0f7a4 1 (some .int) :: gW) ({ frames := 0, cells := 0, slots := 0, locals := 0 }) (va_Pc [.int a] (PrS G cs [])) (vp_Si (fun r => r = sp_J_ibc a)) 0 0 (fun _ => False) := by
  refine Met.ofW (cc := cJ6_bitCount_0f7a4) (maxL := 1) (ret := (some .int)) (by decide) rfl ?_
  intro p e s m args below meth c s₁ B hml hv
  obtain ⟨rfl, hP, hK, hN⟩ := hv
  have hx := B.exec
  have hb := B.bytes
  have hr := B.returns
  have hts := atoms_spec (ws := Cond.code yJ6_bitCount_0f7a4 cJ6_bitCount_0f7a4 1 (some .int) :: gW) B.pre
  have htl : ∀ w ∈ gW, w.before _ s = true := fun w h => hts w (List.mem_cons_of_mem _ h)
  have hown : s.vm.findClass RJ6 = some m.cls := findClass_of_methodNamed B.named
  have hlocks := B.notSynchronized
  have hl := lv_entry ([.int a]) (n := 1) (Nat.le_of_ble_eq_true rfl)
  rw [lg_entry_eq]
  generalize (lg_sl ([.int a]) ++ List.replicate (1 - (lg_sl ([.int a])).length) Slot.unset).toArray = ls at hl ⊢
  have hl : lv_has ls 1 [(0, .int a)] := hl
  refine lv_iload_n hx hb dJ6_bitCount_0f7a4_0 rfl (lv_at hl 0 rfl) ?_
  refine lv_iload_n hx hb dJ6_bitCount_0f7a4_1 rfl (lv_at hl 0 rfl) ?_
  refine lv_iconst (v := 1) hx hb dJ6_bitCount_0f7a4_2 (by decide) ?_
  refine lv_iushr (v := (a.toUInt32 >>> ((1 : Int32).toUInt32 &&& Int32.toUInt32 31)).toInt32) hx hb dJ6_bitCount_0f7a4_3 (by first | rfl | decide) ?_
  refine lv_ldcw hx hb hown (htl _ ct_RJ6_265) dJ6_bitCount_0f7a4_4 ?_
  refine lv_iand hx hb dJ6_bitCount_0f7a4_7 ?_
  refine lv_isub hx hb dJ6_bitCount_0f7a4_8 ?_
  refine lv_istore_n (lv' := [(0, .int (a - ((a.toUInt32 >>> ((1 : Int32).toUInt32 &&& Int32.toUInt32 31)).toInt32 &&& 1431655765)))]) hx hb dJ6_bitCount_0f7a4_9 rfl hl (by decide) rfl (fun ls hl => ?_)
  refine lv_iload_n hx hb dJ6_bitCount_0f7a4_10 rfl (lv_at hl 0 rfl) ?_
  refine lv_ldcw hx hb hown (htl _ ct_RJ6_266) dJ6_bitCount_0f7a4_11 ?_
  refine lv_iand hx hb dJ6_bitCount_0f7a4_14 ?_
  refine lv_iload_n hx hb dJ6_bitCount_0f7a4_15 rfl (lv_at hl 0 rfl) ?_
  refine lv_iconst (v := 2) hx hb dJ6_bitCount_0f7a4_16 (by decide) ?_
  refine lv_iushr (v := ((a - ((a.toUInt32 >>> ((1 : Int32).toUInt32 &&& Int32.toUInt32 31)).toInt32 &&& 1431655765)).toUInt32 >>> ((2 : Int32).toUInt32 &&& Int32.toUInt32 31)).toInt32) hx hb dJ6_bitCount_0f7a4_17 (by first | rfl | decide) ?_
  refine lv_ldcw hx hb hown (htl _ ct_RJ6_266) dJ6_bitCount_0f7a4_18 ?_
  refine lv_iand hx hb dJ6_bitCount_0f7a4_21 ?_
  refine lv_iadd hx hb dJ6_bitCount_0f7a4_22 ?_
  refine lv_istore_n (lv' := [(0, .int (((a - ((a.toUInt32 >>> ((1 : Int32).toUInt32 &&& Int32.toUInt32 31)).toInt32 &&& 1431655765)) &&& 858993459) + (((a - ((a.toUInt32 >>> ((1 : Int32).toUInt32 &&& Int32.toUInt32 31)).toInt32 &&& 1431655765)).toUInt32 >>> ((2 : Int32).toUInt32 &&& Int32.toUInt32 31)).toInt32 &&& 858993459)))]) hx hb dJ6_bitCount_0f7a4_23 rfl hl (by decide) rfl (fun ls hl => ?_)
  refine lv_iload_n hx hb dJ6_bitCount_0f7a4_24 rfl (lv_at hl 0 rfl) ?_
  refine lv_iload_n hx hb dJ6_bitCount_0f7a4_25 rfl (lv_at hl 0 rfl) ?_
  refine lv_iconst (v := 4) hx hb dJ6_bitCount_0f7a4_26 (by decide) ?_
  refine lv_iushr (v := ((((a - ((a.toUInt32 >>> ((1 : Int32).toUInt32 &&& Int32.toUInt32 31)).toInt32 &&& 1431655765)) &&& 858993459) + (((a - ((a.toUInt32 >>> ((1 : Int32).toUInt32 &&& Int32.toUInt32 31)).toInt32 &&& 1431655765)).toUInt32 >>> ((2 : Int32).toUInt32 &&& Int32.toUInt32 31)).toInt32 &&& 858993459)).toUInt32 >>> ((4 : Int32).toUInt32 &&& Int32.toUInt32 31)).toInt32) hx hb dJ6_bitCount_0f7a4_27 (by first | rfl | decide) ?_
  refine lv_iadd hx hb dJ6_bitCount_0f7a4_28 ?_
  refine lv_ldcw hx hb hown (htl _ ct_RJ6_267) dJ6_bitCount_0f7a4_29 ?_
  refine lv_iand hx hb dJ6_bitCount_0f7a4_32 ?_
  refine lv_istore_n (lv' := [(0, .int (((((a - ((a.toUInt32 >>> ((1 : Int32).toUInt32 &&& Int32.toUInt32 31)).toInt32 &&& 1431655765)) &&& 858993459) + (((a - ((a.toUInt32 >>> ((1 : Int32).toUInt32 &&& Int32.toUInt32 31)).toInt32 &&& 1431655765)).toUInt32 >>> ((2 : Int32).toUInt32 &&& Int32.toUInt32 31)).toInt32 &&& 858993459)) + ((((a - ((a.toUInt32 >>> ((1 : Int32).toUInt32 &&& Int32.toUInt32 31)).toInt32 &&& 1431655765)) &&& 858993459) + (((a - ((a.toUInt32 >>> ((1 : Int32).toUInt32 &&& Int32.toUInt32 31)).toInt32 &&& 1431655765)).toUInt32 >>> ((2 : Int32).toUInt32 &&& Int32.toUInt32 31)).toInt32 &&& 858993459)).toUInt32 >>> ((4 : Int32).toUInt32 &&& Int32.toUInt32 31)).toInt32) &&& 252645135))]) hx hb dJ6_bitCount_0f7a4_33 rfl hl (by decide) rfl (fun ls hl => ?_)
  refine lv_iload_n hx hb dJ6_bitCount_0f7a4_34 rfl (lv_at hl 0 rfl) ?_
  refine lv_iload_n hx hb dJ6_bitCount_0f7a4_35 rfl (lv_at hl 0 rfl) ?_
  refine lv_bipush (v := 8) hx hb dJ6_bitCount_0f7a4_36 (by decide) ?_
  refine lv_iushr (v := ((((((a - ((a.toUInt32 >>> ((1 : Int32).toUInt32 &&& Int32.toUInt32 31)).toInt32 &&& 1431655765)) &&& 858993459) + (((a - ((a.toUInt32 >>> ((1 : Int32).toUInt32 &&& Int32.toUInt32 31)).toInt32 &&& 1431655765)).toUInt32 >>> ((2 : Int32).toUInt32 &&& Int32.toUInt32 31)).toInt32 &&& 858993459)) + ((((a - ((a.toUInt32 >>> ((1 : Int32).toUInt32 &&& Int32.toUInt32 31)).toInt32 &&& 1431655765)) &&& 858993459) + (((a - ((a.toUInt32 >>> ((1 : Int32).toUInt32 &&& Int32.toUInt32 31)).toInt32 &&& 1431655765)).toUInt32 >>> ((2 : Int32).toUInt32 &&& Int32.toUInt32 31)).toInt32 &&& 858993459)).toUInt32 >>> ((4 : Int32).toUInt32 &&& Int32.toUInt32 31)).toInt32) &&& 252645135).toUInt32 >>> ((8 : Int32).toUInt32 &&& Int32.toUInt32 31)).toInt32) hx hb dJ6_bitCount_0f7a4_38 (by first | rfl | decide) ?_
  refine lv_iadd hx hb dJ6_bitCount_0f7a4_39 ?_
  refine lv_istore_n (lv' := [(0, .int ((((((a - ((a.toUInt32 >>> ((1 : Int32).toUInt32 &&& Int32.toUInt32 31)).toInt32 &&& 1431655765)) &&& 858993459) + (((a - ((a.toUInt32 >>> ((1 : Int32).toUInt32 &&& Int32.toUInt32 31)).toInt32 &&& 1431655765)).toUInt32 >>> ((2 : Int32).toUInt32 &&& Int32.toUInt32 31)).toInt32 &&& 858993459)) + ((((a - ((a.toUInt32 >>> ((1 : Int32).toUInt32 &&& Int32.toUInt32 31)).toInt32 &&& 1431655765)) &&& 858993459) + (((a - ((a.toUInt32 >>> ((1 : Int32).toUInt32 &&& Int32.toUInt32 31)).toInt32 &&& 1431655765)).toUInt32 >>> ((2 : Int32).toUInt32 &&& Int32.toUInt32 31)).toInt32 &&& 858993459)).toUInt32 >>> ((4 : Int32).toUInt32 &&& Int32.toUInt32 31)).toInt32) &&& 252645135) + ((((((a - ((a.toUInt32 >>> ((1 : Int32).toUInt32 &&& Int32.toUInt32 31)).toInt32 &&& 1431655765)) &&& 858993459) + (((a - ((a.toUInt32 >>> ((1 : Int32).toUInt32 &&& Int32.toUInt32 31)).toInt32 &&& 1431655765)).toUInt32 >>> ((2 : Int32).toUInt32 &&& Int32.toUInt32 31)).toInt32 &&& 858993459)) + ((((a - ((a.toUInt32 >>> ((1 : Int32).toUInt32 &&& Int32.toUInt32 31)).toInt32 &&& 1431655765)) &&& 858993459) + (((a - ((a.toUInt32 >>> ((1 : Int32).toUInt32 &&& Int32.toUInt32 31)).toInt32 &&& 1431655765)).toUInt32 >>> ((2 : Int32).toUInt32 &&& Int32.toUInt32 31)).toInt32 &&& 858993459)).toUInt32 >>> ((4 : Int32).toUInt32 &&& Int32.toUInt32 31)).toInt32) &&& 252645135).toUInt32 >>> ((8 : Int32).toUInt32 &&& Int32.toUInt32 31)).toInt32))]) hx hb dJ6_bitCount_0f7a4_40 rfl hl (by decide) rfl (fun ls hl => ?_)
  refine lv_iload_n hx hb dJ6_bitCount_0f7a4_41 rfl (lv_at hl 0 rfl) ?_
  refine lv_iload_n hx hb dJ6_bitCount_0f7a4_42 rfl (lv_at hl 0 rfl) ?_
  refine lv_bipush (v := 16) hx hb dJ6_bitCount_0f7a4_43 (by decide) ?_
  refine lv_iushr (v := (((((((a - ((a.toUInt32 >>> ((1 : Int32).toUInt32 &&& Int32.toUInt32 31)).toInt32 &&& 1431655765)) &&& 858993459) + (((a - ((a.toUInt32 >>> ((1 : Int32).toUInt32 &&& Int32.toUInt32 31)).toInt32 &&& 1431655765)).toUInt32 >>> ((2 : Int32).toUInt32 &&& Int32.toUInt32 31)).toInt32 &&& 858993459)) + ((((a - ((a.toUInt32 >>> ((1 : Int32).toUInt32 &&& Int32.toUInt32 31)).toInt32 &&& 1431655765)) &&& 858993459) + (((a - ((a.toUInt32 >>> ((1 : Int32).toUInt32 &&& Int32.toUInt32 31)).toInt32 &&& 1431655765)).toUInt32 >>> ((2 : Int32).toUInt32 &&& Int32.toUInt32 31)).toInt32 &&& 858993459)).toUInt32 >>> ((4 : Int32).toUInt32 &&& Int32.toUInt32 31)).toInt32) &&& 252645135) + ((((((a - ((a.toUInt32 >>> ((1 : Int32).toUInt32 &&& Int32.toUInt32 31)).toInt32 &&& 1431655765)) &&& 858993459) + (((a - ((a.toUInt32 >>> ((1 : Int32).toUInt32 &&& Int32.toUInt32 31)).toInt32 &&& 1431655765)).toUInt32 >>> ((2 : Int32).toUInt32 &&& Int32.toUInt32 31)).toInt32 &&& 858993459)) + ((((a - ((a.toUInt32 >>> ((1 : Int32).toUInt32 &&& Int32.toUInt32 31)).toInt32 &&& 1431655765)) &&& 858993459) + (((a - ((a.toUInt32 >>> ((1 : Int32).toUInt32 &&& Int32.toUInt32 31)).toInt32 &&& 1431655765)).toUInt32 >>> ((2 : Int32).toUInt32 &&& Int32.toUInt32 31)).toInt32 &&& 858993459)).toUInt32 >>> ((4 : Int32).toUInt32 &&& Int32.toUInt32 31)).toInt32) &&& 252645135).toUInt32 >>> ((8 : Int32).toUInt32 &&& Int32.toUInt32 31)).toInt32).toUInt32 >>> ((16 : Int32).toUInt32 &&& Int32.toUInt32 31)).toInt32) hx hb dJ6_bitCount_0f7a4_45 (by first | rfl | decide) ?_
  refine lv_iadd hx hb dJ6_bitCount_0f7a4_46 ?_
  refine lv_istore_n (lv' := [(0, .int (((((((a - ((a.toUInt32 >>> ((1 : Int32).toUInt32 &&& Int32.toUInt32 31)).toInt32 &&& 1431655765)) &&& 858993459) + (((a - ((a.toUInt32 >>> ((1 : Int32).toUInt32 &&& Int32.toUInt32 31)).toInt32 &&& 1431655765)).toUInt32 >>> ((2 : Int32).toUInt32 &&& Int32.toUInt32 31)).toInt32 &&& 858993459)) + ((((a - ((a.toUInt32 >>> ((1 : Int32).toUInt32 &&& Int32.toUInt32 31)).toInt32 &&& 1431655765)) &&& 858993459) + (((a - ((a.toUInt32 >>> ((1 : Int32).toUInt32 &&& Int32.toUInt32 31)).toInt32 &&& 1431655765)).toUInt32 >>> ((2 : Int32).toUInt32 &&& Int32.toUInt32 31)).toInt32 &&& 858993459)).toUInt32 >>> ((4 : Int32).toUInt32 &&& Int32.toUInt32 31)).toInt32) &&& 252645135) + ((((((a - ((a.toUInt32 >>> ((1 : Int32).toUInt32 &&& Int32.toUInt32 31)).toInt32 &&& 1431655765)) &&& 858993459) + (((a - ((a.toUInt32 >>> ((1 : Int32).toUInt32 &&& Int32.toUInt32 31)).toInt32 &&& 1431655765)).toUInt32 >>> ((2 : Int32).toUInt32 &&& Int32.toUInt32 31)).toInt32 &&& 858993459)) + ((((a - ((a.toUInt32 >>> ((1 : Int32).toUInt32 &&& Int32.toUInt32 31)).toInt32 &&& 1431655765)) &&& 858993459) + (((a - ((a.toUInt32 >>> ((1 : Int32).toUInt32 &&& Int32.toUInt32 31)).toInt32 &&& 1431655765)).toUInt32 >>> ((2 : Int32).toUInt32 &&& Int32.toUInt32 31)).toInt32 &&& 858993459)).toUInt32 >>> ((4 : Int32).toUInt32 &&& Int32.toUInt32 31)).toInt32) &&& 252645135).toUInt32 >>> ((8 : Int32).toUInt32 &&& Int32.toUInt32 31)).toInt32) + (((((((a - ((a.toUInt32 >>> ((1 : Int32).toUInt32 &&& Int32.toUInt32 31)).toInt32 &&& 1431655765)) &&& 858993459) + (((a - ((a.toUInt32 >>> ((1 : Int32).toUInt32 &&& Int32.toUInt32 31)).toInt32 &&& 1431655765)).toUInt32 >>> ((2 : Int32).toUInt32 &&& Int32.toUInt32 31)).toInt32 &&& 858993459)) + ((((a - ((a.toUInt32 >>> ((1 : Int32).toUInt32 &&& Int32.toUInt32 31)).toInt32 &&& 1431655765)) &&& 858993459) + (((a - ((a.toUInt32 >>> ((1 : Int32).toUInt32 &&& Int32.toUInt32 31)).toInt32 &&& 1431655765)).toUInt32 >>> ((2 : Int32).toUInt32 &&& Int32.toUInt32 31)).toInt32 &&& 858993459)).toUInt32 >>> ((4 : Int32).toUInt32 &&& Int32.toUInt32 31)).toInt32) &&& 252645135) + ((((((a - ((a.toUInt32 >>> ((1 : Int32).toUInt32 &&& Int32.toUInt32 31)).toInt32 &&& 1431655765)) &&& 858993459) + (((a - ((a.toUInt32 >>> ((1 : Int32).toUInt32 &&& Int32.toUInt32 31)).toInt32 &&& 1431655765)).toUInt32 >>> ((2 : Int32).toUInt32 &&& Int32.toUInt32 31)).toInt32 &&& 858993459)) + ((((a - ((a.toUInt32 >>> ((1 : Int32).toUInt32 &&& Int32.toUInt32 31)).toInt32 &&& 1431655765)) &&& 858993459) + (((a - ((a.toUInt32 >>> ((1 : Int32).toUInt32 &&& Int32.toUInt32 31)).toInt32 &&& 1431655765)).toUInt32 >>> ((2 : Int32).toUInt32 &&& Int32.toUInt32 31)).toInt32 &&& 858993459)).toUInt32 >>> ((4 : Int32).toUInt32 &&& Int32.toUInt32 31)).toInt32) &&& 252645135).toUInt32 >>> ((8 : Int32).toUInt32 &&& Int32.toUInt32 31)).toInt32).toUInt32 >>> ((16 : Int32).toUInt32 &&& Int32.toUInt32 31)).toInt32))]) hx hb dJ6_bitCount_0f7a4_47 rfl hl (by decide) rfl (fun ls hl => ?_)
  refine lv_iload_n hx hb dJ6_bitCount_0f7a4_48 rfl (lv_at hl 0 rfl) ?_
  refine lv_bipush (v := 63) hx hb dJ6_bitCount_0f7a4_49 (by decide) ?_
  refine lv_iand hx hb dJ6_bitCount_0f7a4_51 ?_
  exact W.iret (v := ((((((((a - ((a.toUInt32 >>> ((1 : Int32).toUInt32 &&& Int32.toUInt32 31)).toInt32 &&& 1431655765)) &&& 858993459) + (((a - ((a.toUInt32 >>> ((1 : Int32).toUInt32 &&& Int32.toUInt32 31)).toInt32 &&& 1431655765)).toUInt32 >>> ((2 : Int32).toUInt32 &&& Int32.toUInt32 31)).toInt32 &&& 858993459)) + ((((a - ((a.toUInt32 >>> ((1 : Int32).toUInt32 &&& Int32.toUInt32 31)).toInt32 &&& 1431655765)) &&& 858993459) + (((a - ((a.toUInt32 >>> ((1 : Int32).toUInt32 &&& Int32.toUInt32 31)).toInt32 &&& 1431655765)).toUInt32 >>> ((2 : Int32).toUInt32 &&& Int32.toUInt32 31)).toInt32 &&& 858993459)).toUInt32 >>> ((4 : Int32).toUInt32 &&& Int32.toUInt32 31)).toInt32) &&& 252645135) + ((((((a - ((a.toUInt32 >>> ((1 : Int32).toUInt32 &&& Int32.toUInt32 31)).toInt32 &&& 1431655765)) &&& 858993459) + (((a - ((a.toUInt32 >>> ((1 : Int32).toUInt32 &&& Int32.toUInt32 31)).toInt32 &&& 1431655765)).toUInt32 >>> ((2 : Int32).toUInt32 &&& Int32.toUInt32 31)).toInt32 &&& 858993459)) + ((((a - ((a.toUInt32 >>> ((1 : Int32).toUInt32 &&& Int32.toUInt32 31)).toInt32 &&& 1431655765)) &&& 858993459) + (((a - ((a.toUInt32 >>> ((1 : Int32).toUInt32 &&& Int32.toUInt32 31)).toInt32 &&& 1431655765)).toUInt32 >>> ((2 : Int32).toUInt32 &&& Int32.toUInt32 31)).toInt32 &&& 858993459)).toUInt32 >>> ((4 : Int32).toUInt32 &&& Int32.toUInt32 31)).toInt32) &&& 252645135).toUInt32 >>> ((8 : Int32).toUInt32 &&& Int32.toUInt32 31)).toInt32) + (((((((a - ((a.toUInt32 >>> ((1 : Int32).toUInt32 &&& Int32.toUInt32 31)).toInt32 &&& 1431655765)) &&& 858993459) + (((a - ((a.toUInt32 >>> ((1 : Int32).toUInt32 &&& Int32.toUInt32 31)).toInt32 &&& 1431655765)).toUInt32 >>> ((2 : Int32).toUInt32 &&& Int32.toUInt32 31)).toInt32 &&& 858993459)) + ((((a - ((a.toUInt32 >>> ((1 : Int32).toUInt32 &&& Int32.toUInt32 31)).toInt32 &&& 1431655765)) &&& 858993459) + (((a - ((a.toUInt32 >>> ((1 : Int32).toUInt32 &&& Int32.toUInt32 31)).toInt32 &&& 1431655765)).toUInt32 >>> ((2 : Int32).toUInt32 &&& Int32.toUInt32 31)).toInt32 &&& 858993459)).toUInt32 >>> ((4 : Int32).toUInt32 &&& Int32.toUInt32 31)).toInt32) &&& 252645135) + ((((((a - ((a.toUInt32 >>> ((1 : Int32).toUInt32 &&& Int32.toUInt32 31)).toInt32 &&& 1431655765)) &&& 858993459) + (((a - ((a.toUInt32 >>> ((1 : Int32).toUInt32 &&& Int32.toUInt32 31)).toInt32 &&& 1431655765)).toUInt32 >>> ((2 : Int32).toUInt32 &&& Int32.toUInt32 31)).toInt32 &&& 858993459)) + ((((a - ((a.toUInt32 >>> ((1 : Int32).toUInt32 &&& Int32.toUInt32 31)).toInt32 &&& 1431655765)) &&& 858993459) + (((a - ((a.toUInt32 >>> ((1 : Int32).toUInt32 &&& Int32.toUInt32 31)).toInt32 &&& 1431655765)).toUInt32 >>> ((2 : Int32).toUInt32 &&& Int32.toUInt32 31)).toInt32 &&& 858993459)).toUInt32 >>> ((4 : Int32).toUInt32 &&& Int32.toUInt32 31)).toInt32) &&& 252645135).toUInt32 >>> ((8 : Int32).toUInt32 &&& Int32.toUInt32 31)).toInt32).toUInt32 >>> ((16 : Int32).toUInt32 &&& Int32.toUInt32 31)).toInt32) &&& 63)) hx hb hr (fun t ht hW => ⟨((((((((a - ((a.toUInt32 >>> ((1 : Int32).toUInt32 &&& Int32.toUInt32 31)).toInt32 &&& 1431655765)) &&& 858993459) + (((a - ((a.toUInt32 >>> ((1 : Int32).toUInt32 &&& Int32.toUInt32 31)).toInt32 &&& 1431655765)).toUInt32 >>> ((2 : Int32).toUInt32 &&& Int32.toUInt32 31)).toInt32 &&& 858993459)) + ((((a - ((a.toUInt32 >>> ((1 : Int32).toUInt32 &&& Int32.toUInt32 31)).toInt32 &&& 1431655765)) &&& 858993459) + (((a - ((a.toUInt32 >>> ((1 : Int32).toUInt32 &&& Int32.toUInt32 31)).toInt32 &&& 1431655765)).toUInt32 >>> ((2 : Int32).toUInt32 &&& Int32.toUInt32 31)).toInt32 &&& 858993459)).toUInt32 >>> ((4 : Int32).toUInt32 &&& Int32.toUInt32 31)).toInt32) &&& 252645135) + ((((((a - ((a.toUInt32 >>> ((1 : Int32).toUInt32 &&& Int32.toUInt32 31)).toInt32 &&& 1431655765)) &&& 858993459) + (((a - ((a.toUInt32 >>> ((1 : Int32).toUInt32 &&& Int32.toUInt32 31)).toInt32 &&& 1431655765)).toUInt32 >>> ((2 : Int32).toUInt32 &&& Int32.toUInt32 31)).toInt32 &&& 858993459)) + ((((a - ((a.toUInt32 >>> ((1 : Int32).toUInt32 &&& Int32.toUInt32 31)).toInt32 &&& 1431655765)) &&& 858993459) + (((a - ((a.toUInt32 >>> ((1 : Int32).toUInt32 &&& Int32.toUInt32 31)).toInt32 &&& 1431655765)).toUInt32 >>> ((2 : Int32).toUInt32 &&& Int32.toUInt32 31)).toInt32 &&& 858993459)).toUInt32 >>> ((4 : Int32).toUInt32 &&& Int32.toUInt32 31)).toInt32) &&& 252645135).toUInt32 >>> ((8 : Int32).toUInt32 &&& Int32.toUInt32 31)).toInt32) + (((((((a - ((a.toUInt32 >>> ((1 : Int32).toUInt32 &&& Int32.toUInt32 31)).toInt32 &&& 1431655765)) &&& 858993459) + (((a - ((a.toUInt32 >>> ((1 : Int32).toUInt32 &&& Int32.toUInt32 31)).toInt32 &&& 1431655765)).toUInt32 >>> ((2 : Int32).toUInt32 &&& Int32.toUInt32 31)).toInt32 &&& 858993459)) + ((((a - ((a.toUInt32 >>> ((1 : Int32).toUInt32 &&& Int32.toUInt32 31)).toInt32 &&& 1431655765)) &&& 858993459) + (((a - ((a.toUInt32 >>> ((1 : Int32).toUInt32 &&& Int32.toUInt32 31)).toInt32 &&& 1431655765)).toUInt32 >>> ((2 : Int32).toUInt32 &&& Int32.toUInt32 31)).toInt32 &&& 858993459)).toUInt32 >>> ((4 : Int32).toUInt32 &&& Int32.toUInt32 31)).toInt32) &&& 252645135) + ((((((a - ((a.toUInt32 >>> ((1 : Int32).toUInt32 &&& Int32.toUInt32 31)).toInt32 &&& 1431655765)) &&& 858993459) + (((a - ((a.toUInt32 >>> ((1 : Int32).toUInt32 &&& Int32.toUInt32 31)).toInt32 &&& 1431655765)).toUInt32 >>> ((2 : Int32).toUInt32 &&& Int32.toUInt32 31)).toInt32 &&& 858993459)) + ((((a - ((a.toUInt32 >>> ((1 : Int32).toUInt32 &&& Int32.toUInt32 31)).toInt32 &&& 1431655765)) &&& 858993459) + (((a - ((a.toUInt32 >>> ((1 : Int32).toUInt32 &&& Int32.toUInt32 31)).toInt32 &&& 1431655765)).toUInt32 >>> ((2 : Int32).toUInt32 &&& Int32.toUInt32 31)).toInt32 &&& 858993459)).toUInt32 >>> ((4 : Int32).toUInt32 &&& Int32.toUInt32 31)).toInt32) &&& 252645135).toUInt32 >>> ((8 : Int32).toUInt32 &&& Int32.toUInt32 31)).toInt32).toUInt32 >>> ((16 : Int32).toUInt32 &&& Int32.toUInt32 31)).toInt32) &&& 63), rfl, rfl, ht⟩) (fun q h => by cases h) dJ6_bitCount_0f7a4_52

def sp_X4_meanWater : Int32 := 1
set_option maxHeartbeats 1000000 in
set_option maxRecDepth 100000 in
theorem c_X4_meanWater (l : Launch) (G : va_G) (cs : Nat → ClassId) (h0 : Nat) (a : Int32) (f_h0_0 : Value) (f_h0_1 : Value) (f_h0_2 : Value) (f_h0_3 : Value) (f_h0_4 : Value) (f_h0_5 : Value) (f_h0_6 : Value) (f_h0_7 : Value) (f_h0_8 : Value) (f_h0_9 : Value) (f_h0_10 : Value) (f_h0_11 : Value) : Met l yX4_meanWater (Cond.code yX4_meanWater cX4_meanWater 4 (some .boolean) :: gW) ({ frames := 0, cells := 0, slots := 0, locals := 0 }) (va_Pc [.ref h0, .int a] (PrS G cs [(h0, .inr (4, [f_h0_0, f_h0_1, f_h0_2, f_h0_3, f_h0_4, f_h0_5, f_h0_6, f_h0_7, f_h0_8, f_h0_9, f_h0_10, f_h0_11, .int 0]))])) (vp_Si (fun r => r = sp_X4_meanWater ∧ narrow .boolean (.int r) = .int r)) 0 0 (fun _ => False) := by
  refine Met.ofW (cc := cX4_meanWater) (maxL := 4) (ret := (some .boolean)) (by decide) rfl ?_
  intro p e s m args below meth c s₁ B hml hv
  obtain ⟨rfl, hP, hK, hN⟩ := hv
  have hx := B.exec
  have hb := B.bytes
  have hr := B.returns
  have hts := atoms_spec (ws := Cond.code yX4_meanWater cX4_meanWater 4 (some .boolean) :: gW) B.pre
  have htl : ∀ w ∈ gW, w.before _ s = true := fun w h => hts w (List.mem_cons_of_mem _ h)
  have hown : s.vm.findClass RX4 = some m.cls := findClass_of_methodNamed B.named
  have hlocks := B.notSynchronized
  have hl := lv_entry ([.ref h0, .int a]) (n := 4) (Nat.le_of_ble_eq_true rfl)
  rw [lg_entry_eq]
  generalize (lg_sl ([.ref h0, .int a]) ++ List.replicate (4 - (lg_sl ([.ref h0, .int a])).length) Slot.unset).toArray = ls at hl ⊢
  have hl : lv_has ls 4 [(0, .ref h0), (1, .int a)] := hl
  refine lv_iconst (v := 0) hx hb dX4_meanWater_0 (by decide) ?_
  refine lv_istore_n (lv' := [(2, .int 0), (0, .ref h0), (1, .int a)]) hx hb dX4_meanWater_1 rfl hl (by decide) rfl (fun ls hl => ?_)
  refine lv_iload_n hx hb dX4_meanWater_2 rfl (lv_at hl 0 rfl) ?_
  refine lv_aload_n hx hb dX4_meanWater_3 rfl (lv_at hl 1 rfl) ?_
  refine va_get (ci := 4) (v := .int 0) (C := RX4) (T := TX4) (N := 13) hx hb htl inX4 hown hK hP 0 rfl rfl 12 (by decide) (htl _ fl_RX4_59) (fun _ h9 => h9) rfl dX4_meanWater_4 ?_
  refine lv_icmp_ge (tgt := 56) hx hb dX4_meanWater_7 (by decide) (fun _ => ?_) (fun h => absurd (by decide) h)
  refine lv_iconst (v := 1) hx hb dX4_meanWater_56 (by decide) ?_
  exact W.zret (ty := .boolean) (v := 1) hx hb hr (by decide) (fun t ht hW => ⟨1, rfl, ⟨rfl, (by decide)⟩, ht⟩) (fun q h => by cases h) dX4_meanWater_57

def sp_X4_fewestSounds : Int32 := 0
set_option maxHeartbeats 1000000 in
set_option maxRecDepth 100000 in
theorem c_X4_fewestSounds (l : Launch) (G : va_G) (cs : Nat → ClassId) (h0 : Nat) (f_h0_0 : Value) (f_h0_1 : Value) (f_h0_2 : Value) (f_h0_3 : Value) (f_h0_4 : Value) (f_h0_5 : Value) (f_h0_6 : Value) (f_h0_7 : Value) (f_h0_8 : Value) (f_h0_9 : Value) (f_h0_10 : Value) (f_h0_11 : Value) : Met l yX4_fewestSounds (Cond.code yX4_fewestSounds cX4_fewestSounds 4 (some .int) :: gW) ({ frames := 1, cells := 0, slots := 0, locals := 23 }) (va_Pc [.ref h0] (PrS G cs [(h0, .inr (4, [f_h0_0, f_h0_1, f_h0_2, f_h0_3, f_h0_4, f_h0_5, f_h0_6, f_h0_7, f_h0_8, f_h0_9, f_h0_10, f_h0_11, .int 0]))])) (vp_Si (fun r => r = sp_X4_fewestSounds)) 0 0 (fun _ => False) := by
  refine Met.ofW (cc := cX4_fewestSounds) (maxL := 4) (ret := (some .int)) (by decide) rfl ?_
  intro p e s m args below meth c s₁ B hml hv
  obtain ⟨rfl, hP, hK, hN⟩ := hv
  have hx := B.exec
  have hb := B.bytes
  have hr := B.returns
  have hts := atoms_spec (ws := Cond.code yX4_fewestSounds cX4_fewestSounds 4 (some .int) :: gW) B.pre
  have htl : ∀ w ∈ gW, w.before _ s = true := fun w h => hts w (List.mem_cons_of_mem _ h)
  have hown : s.vm.findClass RX4 = some m.cls := findClass_of_methodNamed B.named
  have hlocks := B.notSynchronized
  have hl := lv_entry ([.ref h0]) (n := 4) (Nat.le_of_ble_eq_true rfl)
  rw [lg_entry_eq]
  generalize (lg_sl ([.ref h0]) ++ List.replicate (4 - (lg_sl ([.ref h0])).length) Slot.unset).toArray = ls at hl ⊢
  have hl : lv_has ls 4 [(0, .ref h0)] := hl
  refine lv_iconst (v := (-1)) hx hb dX4_fewestSounds_0 (by decide) ?_
  refine lv_istore_n (lv' := [(1, .int (-1)), (0, .ref h0)]) hx hb dX4_fewestSounds_1 rfl hl (by decide) rfl (fun ls hl => ?_)
  refine lv_iconst (v := 0) hx hb dX4_fewestSounds_2 (by decide) ?_
  refine lv_istore_n (lv' := [(2, .int 0), (1, .int (-1)), (0, .ref h0)]) hx hb dX4_fewestSounds_3 rfl hl (by decide) rfl (fun ls hl => ?_)
  refine lv_iload_n hx hb dX4_fewestSounds_4 rfl (lv_at hl 0 rfl) ?_
  refine lv_bipush (v := 64) hx hb dX4_fewestSounds_5 (by decide) ?_
  refine lv_icmp_ge (tgt := 52) hx hb dX4_fewestSounds_7 (by decide) (fun h => absurd h (by decide)) (fun _ => ?_)
  refine lv_iload_n hx hb dX4_fewestSounds_10 rfl (lv_at hl 1 rfl) ?_
  refine lv_iconst (v := (-1)) hx hb dX4_fewestSounds_11 (by decide) ?_
  refine lv_icmp_eq (tgt := 26) hx hb dX4_fewestSounds_12 (by decide) (fun _ => ?_) (fun h => absurd (by decide) h)
  refine lv_iconst (v := 1) hx hb dX4_fewestSounds_26 (by decide) ?_
  refine lv_goto (tgt := 31) hx hb dX4_fewestSounds_27 (by decide) ?_
  refine lv_istore_n (lv' := [(3, .int 1), (2, .int 0), (1, .int (-1)), (0, .ref h0)]) hx hb dX4_fewestSounds_31 rfl hl (by decide) rfl (fun ls hl => ?_)
  refine lv_iload_n hx hb dX4_fewestSounds_32 rfl (lv_at hl 0 rfl) ?_
  refine lv_if_eq (tgt := 46) hx hb dX4_fewestSounds_33 (by decide) (fun h => absurd h (by decide)) (fun _ => ?_)
  refine lv_aload_n hx hb dX4_fewestSounds_36 rfl (lv_at hl 3 rfl) ?_
  refine lv_iload_n hx hb dX4_fewestSounds_37 rfl (lv_at hl 1 rfl) ?_
  refine vp_callSi (mkVr (rest := []) ⟨hx, hb, hml, hown, htl⟩ hN hK hP (c_X4_meanWater l G cs h0 0 f_h0_0 f_h0_1 f_h0_2 f_h0_3 f_h0_4 f_h0_5 f_h0_6 f_h0_7 f_h0_8 f_h0_9 f_h0_10 f_h0_11) [0] rfl 0 4 rfl rfl (cV 1 htl lk_RX4_67 mI_X4_meanWater mS_X4_meanWater mN_RX4 mC_X4_meanWater ok_X4_meanWater rfl rfl ⟨(Nat.le_of_ble_eq_true rfl), (Nat.le_of_ble_eq_true rfl)⟩) rfl hl.1 rfl (Nat.le_of_ble_eq_true rfl) dX4_fewestSounds_38 ⟨(Nat.le_of_ble_eq_true rfl), (Nat.le_of_ble_eq_true rfl)⟩) (fun r hw => ?_)
  obtain rfl : r = 1 := hw.1.trans (by first | decide +kernel | rfl)
  refine lv_if_eq (tgt := 46) hx hb dX4_fewestSounds_41 (by decide) (fun h => absurd h (by decide)) (fun _ => ?_)
  refine lv_iload_n hx hb dX4_fewestSounds_44 rfl (lv_at hl 1 rfl) ?_
  refine lv_istore_n (lv' := [(1, .int 0), (3, .int 1), (2, .int 0), (0, .ref h0)]) hx hb dX4_fewestSounds_45 rfl hl (by decide) rfl (fun ls hl => ?_)
  refine lv_iinc (v := 1) (lv' := [(2, .int 1), (1, .int 0), (3, .int 1), (0, .ref h0)]) hx hb dX4_fewestSounds_46 hl (k := 2) rfl (by first | rfl | decide) (by decide) rfl (fun ls hl => ?_)
  refine lv_goto (tgt := 4) hx hb dX4_fewestSounds_49 (by decide) ?_
  refine lv_iload_n hx hb dX4_fewestSounds_4 rfl (lv_at hl 0 rfl) ?_
  refine lv_bipush (v := 64) hx hb dX4_fewestSounds_5 (by decide) ?_
  refine lv_icmp_ge (tgt := 52) hx hb dX4_fewestSounds_7 (by decide) (fun h => absurd h (by decide)) (fun _ => ?_)
  refine lv_iload_n hx hb dX4_fewestSounds_10 rfl (lv_at hl 1 rfl) ?_
  refine lv_iconst (v := (-1)) hx hb dX4_fewestSounds_11 (by decide) ?_
  refine lv_icmp_eq (tgt := 26) hx hb dX4_fewestSounds_12 (by decide) (fun h => absurd h (by decide)) (fun _ => ?_)
  refine lv_iload_n hx hb dX4_fewestSounds_15 rfl (lv_at hl 0 rfl) ?_
  refine vp_callSi (mkSr (rest := []) ⟨hx, hb, hml, hown, htl⟩ hN hK (c_J_ibc l G cs 1) (cS 1 htl lk_RX4_62 mT_J6_bitCount_0f7a4 mN_RJ6 mC_J6_bitCount_0f7a4 ok_J6_bitCount_0f7a4 rfl rfl ⟨(Nat.le_of_ble_eq_true rfl), (Nat.le_of_ble_eq_true rfl)⟩) rfl hl.1 rfl (Nat.le_of_ble_eq_true rfl) dX4_fewestSounds_16 ⟨(Nat.le_of_ble_eq_true rfl), (Nat.le_of_ble_eq_true rfl)⟩) (fun r hw => ?_)
  obtain rfl : r = 1 := hw.trans (by first | decide +kernel | rfl)
  refine lv_iload_n hx hb dX4_fewestSounds_19 rfl (lv_at hl 1 rfl) ?_
  refine vp_callSi (mkSr (rest := [.int 1]) ⟨hx, hb, hml, hown, htl⟩ hN hK (c_J_ibc l G cs 0) (cS 1 htl lk_RX4_62 mT_J6_bitCount_0f7a4 mN_RJ6 mC_J6_bitCount_0f7a4 ok_J6_bitCount_0f7a4 rfl rfl ⟨(Nat.le_of_ble_eq_true rfl), (Nat.le_of_ble_eq_true rfl)⟩) rfl hl.1 rfl (Nat.le_of_ble_eq_true rfl) dX4_fewestSounds_20 ⟨(Nat.le_of_ble_eq_true rfl), (Nat.le_of_ble_eq_true rfl)⟩) (fun r hw => ?_)
  obtain rfl : r = 0 := hw.trans (by first | decide +kernel | rfl)
  refine lv_icmp_ge (tgt := 30) hx hb dX4_fewestSounds_23 (by decide) (fun _ => ?_) (fun h => absurd (by decide) h)
  refine lv_iconst (v := 0) hx hb dX4_fewestSounds_30 (by decide) ?_
  refine lv_istore_n (lv' := [(3, .int 0), (2, .int 1), (1, .int 0), (0, .ref h0)]) hx hb dX4_fewestSounds_31 rfl hl (by decide) rfl (fun ls hl => ?_)
  refine lv_iload_n hx hb dX4_fewestSounds_32 rfl (lv_at hl 0 rfl) ?_
  refine lv_if_eq (tgt := 46) hx hb dX4_fewestSounds_33 (by decide) (fun _ => ?_) (fun h => absurd (by decide) h)
  refine lv_iinc (v := 2) (lv' := [(2, .int 2), (3, .int 0), (1, .int 0), (0, .ref h0)]) hx hb dX4_fewestSounds_46 hl (k := 1) rfl (by first | rfl | decide) (by decide) rfl (fun ls hl => ?_)
  refine lv_goto (tgt := 4) hx hb dX4_fewestSounds_49 (by decide) ?_
  refine lv_iload_n hx hb dX4_fewestSounds_4 rfl (lv_at hl 0 rfl) ?_
  refine lv_bipush (v := 64) hx hb dX4_fewestSounds_5 (by decide) ?_
  refine lv_icmp_ge (tgt := 52) hx hb dX4_fewestSounds_7 (by decide) (fun h => absurd h (by decide)) (fun _ => ?_)
  refine lv_iload_n hx hb dX4_fewestSounds_10 rfl (lv_at hl 2 rfl) ?_
  refine lv_iconst (v := (-1)) hx hb dX4_fewestSounds_11 (by decide) ?_
  refine lv_icmp_eq (tgt := 26) hx hb dX4_fewestSounds_12 (by decide) (fun h => absurd h (by decide)) (fun _ => ?_)
  refine lv_iload_n hx hb dX4_fewestSounds_15 rfl (lv_at hl 0 rfl) ?_
  refine vp_callSi (mkSr (rest := []) ⟨hx, hb, hml, hown, htl⟩ hN hK (c_J_ibc l G cs 2) (cS 1 htl lk_RX4_62 mT_J6_bitCount_0f7a4 mN_RJ6 mC_J6_bitCount_0f7a4 ok_J6_bitCount_0f7a4 rfl rfl ⟨(Nat.le_of_ble_eq_true rfl), (Nat.le_of_ble_eq_true rfl)⟩) rfl hl.1 rfl (Nat.le_of_ble_eq_true rfl) dX4_fewestSounds_16 ⟨(Nat.le_of_ble_eq_true rfl), (Nat.le_of_ble_eq_true rfl)⟩) (fun r hw => ?_)
  obtain rfl : r = 1 := hw.trans (by first | decide +kernel | rfl)
  refine lv_iload_n hx hb dX4_fewestSounds_19 rfl (lv_at hl 2 rfl) ?_
  refine vp_callSi (mkSr (rest := [.int 1]) ⟨hx, hb, hml, hown, htl⟩ hN hK (c_J_ibc l G cs 0) (cS 1 htl lk_RX4_62 mT_J6_bitCount_0f7a4 mN_RJ6 mC_J6_bitCount_0f7a4 ok_J6_bitCount_0f7a4 rfl rfl ⟨(Nat.le_of_ble_eq_true rfl), (Nat.le_of_ble_eq_true rfl)⟩) rfl hl.1 rfl (Nat.le_of_ble_eq_true rfl) dX4_fewestSounds_20 ⟨(Nat.le_of_ble_eq_true rfl), (Nat.le_of_ble_eq_true rfl)⟩) (fun r hw => ?_)
  obtain rfl : r = 0 := hw.trans (by first | decide +kernel | rfl)
  refine lv_icmp_ge (tgt := 30) hx hb dX4_fewestSounds_23 (by decide) (fun _ => ?_) (fun h => absurd (by decide) h)
  refine lv_iconst (v := 0) hx hb dX4_fewestSounds_30 (by decide) ?_
  refine lv_istore_n (lv' := [(3, .int 0), (2, .int 2), (1, .int 0), (0, .ref h0)]) hx hb dX4_fewestSounds_31 rfl hl (by decide) rfl (fun ls hl => ?_)
  refine lv_iload_n hx hb dX4_fewestSounds_32 rfl (lv_at hl 0 rfl) ?_
  refine lv_if_eq (tgt := 46) hx hb dX4_fewestSounds_33 (by decide) (fun _ => ?_) (fun h => absurd (by decide) h)
  refine lv_iinc (v := 3) (lv' := [(2, .int 3), (3, .int 0), (1, .int 0), (0, .ref h0)]) hx hb dX4_fewestSounds_46 hl (k := 1) rfl (by first | rfl | decide) (by decide) rfl (fun ls hl => ?_)
  refine lv_goto (tgt := 4) hx hb dX4_fewestSounds_49 (by decide) ?_
  refine lv_iload_n hx hb dX4_fewestSounds_4 rfl (lv_at hl 0 rfl) ?_
  refine lv_bipush (v := 64) hx hb dX4_fewestSounds_5 (by decide) ?_
  refine lv_icmp_ge (tgt := 52) hx hb dX4_fewestSounds_7 (by decide) (fun h => absurd h (by decide)) (fun _ => ?_)
  refine lv_iload_n hx hb dX4_fewestSounds_10 rfl (lv_at hl 2 rfl) ?_
  refine lv_iconst (v := (-1)) hx hb dX4_fewestSounds_11 (by decide) ?_
  refine lv_icmp_eq (tgt := 26) hx hb dX4_fewestSounds_12 (by decide) (fun h => absurd h (by decide)) (fun _ => ?_)
  refine lv_iload_n hx hb dX4_fewestSounds_15 rfl (lv_at hl 0 rfl) ?_
  refine vp_callSi (mkSr (rest := []) ⟨hx, hb, hml, hown, htl⟩ hN hK (c_J_ibc l G cs 3) (cS 1 htl lk_RX4_62 mT_J6_bitCount_0f7a4 mN_RJ6 mC_J6_bitCount_0f7a4 ok_J6_bitCount_0f7a4 rfl rfl ⟨(Nat.le_of_ble_eq_true rfl), (Nat.le_of_ble_eq_true rfl)⟩) rfl hl.1 rfl (Nat.le_of_ble_eq_true rfl) dX4_fewestSounds_16 ⟨(Nat.le_of_ble_eq_true rfl), (Nat.le_of_ble_eq_true rfl)⟩) (fun r hw => ?_)
  obtain rfl : r = 2 := hw.trans (by first | decide +kernel | rfl)
  refine lv_iload_n hx hb dX4_fewestSounds_19 rfl (lv_at hl 2 rfl) ?_
  refine vp_callSi (mkSr (rest := [.int 2]) ⟨hx, hb, hml, hown, htl⟩ hN hK (c_J_ibc l G cs 0) (cS 1 htl lk_RX4_62 mT_J6_bitCount_0f7a4 mN_RJ6 mC_J6_bitCount_0f7a4 ok_J6_bitCount_0f7a4 rfl rfl ⟨(Nat.le_of_ble_eq_true rfl), (Nat.le_of_ble_eq_true rfl)⟩) rfl hl.1 rfl (Nat.le_of_ble_eq_true rfl) dX4_fewestSounds_20 ⟨(Nat.le_of_ble_eq_true rfl), (Nat.le_of_ble_eq_true rfl)⟩) (fun r hw => ?_)
  obtain rfl : r = 0 := hw.trans (by first | decide +kernel | rfl)
  refine lv_icmp_ge (tgt := 30) hx hb dX4_fewestSounds_23 (by decide) (fun _ => ?_) (fun h => absurd (by decide) h)
  refine lv_iconst (v := 0) hx hb dX4_fewestSounds_30 (by decide) ?_
  refine lv_istore_n (lv' := [(3, .int 0), (2, .int 3), (1, .int 0), (0, .ref h0)]) hx hb dX4_fewestSounds_31 rfl hl (by decide) rfl (fun ls hl => ?_)
  refine lv_iload_n hx hb dX4_fewestSounds_32 rfl (lv_at hl 0 rfl) ?_
  refine lv_if_eq (tgt := 46) hx hb dX4_fewestSounds_33 (by decide) (fun _ => ?_) (fun h => absurd (by decide) h)
  refine lv_iinc (v := 4) (lv' := [(2, .int 4), (3, .int 0), (1, .int 0), (0, .ref h0)]) hx hb dX4_fewestSounds_46 hl (k := 1) rfl (by first | rfl | decide) (by decide) rfl (fun ls hl => ?_)
  refine lv_goto (tgt := 4) hx hb dX4_fewestSounds_49 (by decide) ?_
  refine lv_iload_n hx hb dX4_fewestSounds_4 rfl (lv_at hl 0 rfl) ?_
  refine lv_bipush (v := 64) hx hb dX4_fewestSounds_5 (by decide) ?_
  refine lv_icmp_ge (tgt := 52) hx hb dX4_fewestSounds_7 (by decide) (fun h => absurd h (by decide)) (fun _ => ?_)
  refine lv_iload_n hx hb dX4_fewestSounds_10 rfl (lv_at hl 2 rfl) ?_
  refine lv_iconst (v := (-1)) hx hb dX4_fewestSounds_11 (by decide) ?_
  refine lv_icmp_eq (tgt := 26) hx hb dX4_fewestSounds_12 (by decide) (fun h => absurd h (by decide)) (fun _ => ?_)
  refine lv_iload_n hx hb dX4_fewestSounds_15 rfl (lv_at hl 0 rfl) ?_
  refine vp_callSi (mkSr (rest := []) ⟨hx, hb, hml, hown, htl⟩ hN hK (c_J_ibc l G cs 4) (cS 1 htl lk_RX4_62 mT_J6_bitCount_0f7a4 mN_RJ6 mC_J6_bitCount_0f7a4 ok_J6_bitCount_0f7a4 rfl rfl ⟨(Nat.le_of_ble_eq_true rfl), (Nat.le_of_ble_eq_true rfl)⟩) rfl hl.1 rfl (Nat.le_of_ble_eq_true rfl) dX4_fewestSounds_16 ⟨(Nat.le_of_ble_eq_true rfl), (Nat.le_of_ble_eq_true rfl)⟩) (fun r hw => ?_)
  obtain rfl : r = 1 := hw.trans (by first | decide +kernel | rfl)
  refine lv_iload_n hx hb dX4_fewestSounds_19 rfl (lv_at hl 2 rfl) ?_
  refine vp_callSi (mkSr (rest := [.int 1]) ⟨hx, hb, hml, hown, htl⟩ hN hK (c_J_ibc l G cs 0) (cS 1 htl lk_RX4_62 mT_J6_bitCount_0f7a4 mN_RJ6 mC_J6_bitCount_0f7a4 ok_J6_bitCount_0f7a4 rfl rfl ⟨(Nat.le_of_ble_eq_true rfl), (Nat.le_of_ble_eq_true rfl)⟩) rfl hl.1 rfl (Nat.le_of_ble_eq_true rfl) dX4_fewestSounds_20 ⟨(Nat.le_of_ble_eq_true rfl), (Nat.le_of_ble_eq_true rfl)⟩) (fun r hw => ?_)
  obtain rfl : r = 0 := hw.trans (by first | decide +kernel | rfl)
  refine lv_icmp_ge (tgt := 30) hx hb dX4_fewestSounds_23 (by decide) (fun _ => ?_) (fun h => absurd (by decide) h)
  refine lv_iconst (v := 0) hx hb dX4_fewestSounds_30 (by decide) ?_
  refine lv_istore_n (lv' := [(3, .int 0), (2, .int 4), (1, .int 0), (0, .ref h0)]) hx hb dX4_fewestSounds_31 rfl hl (by decide) rfl (fun ls hl => ?_)
  refine lv_iload_n hx hb dX4_fewestSounds_32 rfl (lv_at hl 0 rfl) ?_
  refine lv_if_eq (tgt := 46) hx hb dX4_fewestSounds_33 (by decide) (fun _ => ?_) (fun h => absurd (by decide) h)
  refine lv_iinc (v := 5) (lv' := [(2, .int 5), (3, .int 0), (1, .int 0), (0, .ref h0)]) hx hb dX4_fewestSounds_46 hl (k := 1) rfl (by first | rfl | decide) (by decide) rfl (fun ls hl => ?_)
  refine lv_goto (tgt := 4) hx hb dX4_fewestSounds_49 (by decide) ?_
  refine lv_iload_n hx hb dX4_fewestSounds_4 rfl (lv_at hl 0 rfl) ?_
  refine lv_bipush (v := 64) hx hb dX4_fewestSounds_5 (by decide) ?_
  refine lv_icmp_ge (tgt := 52) hx hb dX4_fewestSounds_7 (by decide) (fun h => absurd h (by decide)) (fun _ => ?_)
  refine lv_iload_n hx hb dX4_fewestSounds_10 rfl (lv_at hl 2 rfl) ?_
  refine lv_iconst (v := (-1)) hx hb dX4_fewestSounds_11 (by decide) ?_
  refine lv_icmp_eq (tgt := 26) hx hb dX4_fewestSounds_12 (by decide) (fun h => absurd h (by decide)) (fun _ => ?_)
  refine lv_iload_n hx hb dX4_fewestSounds_15 rfl (lv_at hl 0 rfl) ?_
  refine vp_callSi (mkSr (rest := []) ⟨hx, hb, hml, hown, htl⟩ hN hK (c_J_ibc l G cs 5) (cS 1 htl lk_RX4_62 mT_J6_bitCount_0f7a4 mN_RJ6 mC_J6_bitCount_0f7a4 ok_J6_bitCount_0f7a4 rfl rfl ⟨(Nat.le_of_ble_eq_true rfl), (Nat.le_of_ble_eq_true rfl)⟩) rfl hl.1 rfl (Nat.le_of_ble_eq_true rfl) dX4_fewestSounds_16 ⟨(Nat.le_of_ble_eq_true rfl), (Nat.le_of_ble_eq_true rfl)⟩) (fun r hw => ?_)
  obtain rfl : r = 2 := hw.trans (by first | decide +kernel | rfl)
  refine lv_iload_n hx hb dX4_fewestSounds_19 rfl (lv_at hl 2 rfl) ?_
  refine vp_callSi (mkSr (rest := [.int 2]) ⟨hx, hb, hml, hown, htl⟩ hN hK (c_J_ibc l G cs 0) (cS 1 htl lk_RX4_62 mT_J6_bitCount_0f7a4 mN_RJ6 mC_J6_bitCount_0f7a4 ok_J6_bitCount_0f7a4 rfl rfl ⟨(Nat.le_of_ble_eq_true rfl), (Nat.le_of_ble_eq_true rfl)⟩) rfl hl.1 rfl (Nat.le_of_ble_eq_true rfl) dX4_fewestSounds_20 ⟨(Nat.le_of_ble_eq_true rfl), (Nat.le_of_ble_eq_true rfl)⟩) (fun r hw => ?_)
  obtain rfl : r = 0 := hw.trans (by first | decide +kernel | rfl)
  refine lv_icmp_ge (tgt := 30) hx hb dX4_fewestSounds_23 (by decide) (fun _ => ?_) (fun h => absurd (by decide) h)
  refine lv_iconst (v := 0) hx hb dX4_fewestSounds_30 (by decide) ?_
  refine lv_istore_n (lv' := [(3, .int 0), (2, .int 5), (1, .int 0), (0, .ref h0)]) hx hb dX4_fewestSounds_31 rfl hl (by decide) rfl (fun ls hl => ?_)
  refine lv_iload_n hx hb dX4_fewestSounds_32 rfl (lv_at hl 0 rfl) ?_
  refine lv_if_eq (tgt := 46) hx hb dX4_fewestSounds_33 (by decide) (fun _ => ?_) (fun h => absurd (by decide) h)
  refine lv_iinc (v := 6) (lv' := [(2, .int 6), (3, .int 0), (1, .int 0), (0, .ref h0)]) hx hb dX4_fewestSounds_46 hl (k := 1) rfl (by first | rfl | decide) (by decide) rfl (fun ls hl => ?_)
  refine lv_goto (tgt := 4) hx hb dX4_fewestSounds_49 (by decide) ?_
  refine lv_iload_n hx hb dX4_fewestSounds_4 rfl (lv_at hl 0 rfl) ?_
  refine lv_bipush (v := 64) hx hb dX4_fewestSounds_5 (by decide) ?_
  refine lv_icmp_ge (tgt := 52) hx hb dX4_fewestSounds_7 (by decide) (fun h => absurd h (by decide)) (fun _ => ?_)
  refine lv_iload_n hx hb dX4_fewestSounds_10 rfl (lv_at hl 2 rfl) ?_
  refine lv_iconst (v := (-1)) hx hb dX4_fewestSounds_11 (by decide) ?_
  refine lv_icmp_eq (tgt := 26) hx hb dX4_fewestSounds_12 (by decide) (fun h => absurd h (by decide)) (fun _ => ?_)
  refine lv_iload_n hx hb dX4_fewestSounds_15 rfl (lv_at hl 0 rfl) ?_
  refine vp_callSi (mkSr (rest := []) ⟨hx, hb, hml, hown, htl⟩ hN hK (c_J_ibc l G cs 6) (cS 1 htl lk_RX4_62 mT_J6_bitCount_0f7a4 mN_RJ6 mC_J6_bitCount_0f7a4 ok_J6_bitCount_0f7a4 rfl rfl ⟨(Nat.le_of_ble_eq_true rfl), (Nat.le_of_ble_eq_true rfl)⟩) rfl hl.1 rfl (Nat.le_of_ble_eq_true rfl) dX4_fewestSounds_16 ⟨(Nat.le_of_ble_eq_true rfl), (Nat.le_of_ble_eq_true rfl)⟩) (fun r hw => ?_)
  obtain rfl : r = 2 := hw.trans (by first | decide +kernel | rfl)
  refine lv_iload_n hx hb dX4_fewestSounds_19 rfl (lv_at hl 2 rfl) ?_
  refine vp_callSi (mkSr (rest := [.int 2]) ⟨hx, hb, hml, hown, htl⟩ hN hK (c_J_ibc l G cs 0) (cS 1 htl lk_RX4_62 mT_J6_bitCount_0f7a4 mN_RJ6 mC_J6_bitCount_0f7a4 ok_J6_bitCount_0f7a4 rfl rfl ⟨(Nat.le_of_ble_eq_true rfl), (Nat.le_of_ble_eq_true rfl)⟩) rfl hl.1 rfl (Nat.le_of_ble_eq_true rfl) dX4_fewestSounds_20 ⟨(Nat.le_of_ble_eq_true rfl), (Nat.le_of_ble_eq_true rfl)⟩) (fun r hw => ?_)
  obtain rfl : r = 0 := hw.trans (by first | decide +kernel | rfl)
  refine lv_icmp_ge (tgt := 30) hx hb dX4_fewestSounds_23 (by decide) (fun _ => ?_) (fun h => absurd (by decide) h)
  refine lv_iconst (v := 0) hx hb dX4_fewestSounds_30 (by decide) ?_
  refine lv_istore_n (lv' := [(3, .int 0), (2, .int 6), (1, .int 0), (0, .ref h0)]) hx hb dX4_fewestSounds_31 rfl hl (by decide) rfl (fun ls hl => ?_)
  refine lv_iload_n hx hb dX4_fewestSounds_32 rfl (lv_at hl 0 rfl) ?_
  refine lv_if_eq (tgt := 46) hx hb dX4_fewestSounds_33 (by decide) (fun _ => ?_) (fun h => absurd (by decide) h)
  refine lv_iinc (v := 7) (lv' := [(2, .int 7), (3, .int 0), (1, .int 0), (0, .ref h0)]) hx hb dX4_fewestSounds_46 hl (k := 1) rfl (by first | rfl | decide) (by decide) rfl (fun ls hl => ?_)
  refine lv_goto (tgt := 4) hx hb dX4_fewestSounds_49 (by decide) ?_
  refine lv_iload_n hx hb dX4_fewestSounds_4 rfl (lv_at hl 0 rfl) ?_
  refine lv_bipush (v := 64) hx hb dX4_fewestSounds_5 (by decide) ?_
  refine lv_icmp_ge (tgt := 52) hx hb dX4_fewestSounds_7 (by decide) (fun h => absurd h (by decide)) (fun _ => ?_)
  refine lv_iload_n hx hb dX4_fewestSounds_10 rfl (lv_at hl 2 rfl) ?_
  refine lv_iconst (v := (-1)) hx hb dX4_fewestSounds_11 (by decide) ?_
  refine lv_icmp_eq (tgt := 26) hx hb dX4_fewestSounds_12 (by decide) (fun h => absurd h (by decide)) (fun _ => ?_)
  refine lv_iload_n hx hb dX4_fewestSounds_15 rfl (lv_at hl 0 rfl) ?_
  refine vp_callSi (mkSr (rest := []) ⟨hx, hb, hml, hown, htl⟩ hN hK (c_J_ibc l G cs 7) (cS 1 htl lk_RX4_62 mT_J6_bitCount_0f7a4 mN_RJ6 mC_J6_bitCount_0f7a4 ok_J6_bitCount_0f7a4 rfl rfl ⟨(Nat.le_of_ble_eq_true rfl), (Nat.le_of_ble_eq_true rfl)⟩) rfl hl.1 rfl (Nat.le_of_ble_eq_true rfl) dX4_fewestSounds_16 ⟨(Nat.le_of_ble_eq_true rfl), (Nat.le_of_ble_eq_true rfl)⟩) (fun r hw => ?_)
  obtain rfl : r = 3 := hw.trans (by first | decide +kernel | rfl)
  refine lv_iload_n hx hb dX4_fewestSounds_19 rfl (lv_at hl 2 rfl) ?_
  refine vp_callSi (mkSr (rest := [.int 3]) ⟨hx, hb, hml, hown, htl⟩ hN hK (c_J_ibc l G cs 0) (cS 1 htl lk_RX4_62 mT_J6_bitCount_0f7a4 mN_RJ6 mC_J6_bitCount_0f7a4 ok_J6_bitCount_0f7a4 rfl rfl ⟨(Nat.le_of_ble_eq_true rfl), (Nat.le_of_ble_eq_true rfl)⟩) rfl hl.1 rfl (Nat.le_of_ble_eq_true rfl) dX4_fewestSounds_20 ⟨(Nat.le_of_ble_eq_true rfl), (Nat.le_of_ble_eq_true rfl)⟩) (fun r hw => ?_)
  obtain rfl : r = 0 := hw.trans (by first | decide +kernel | rfl)
  refine lv_icmp_ge (tgt := 30) hx hb dX4_fewestSounds_23 (by decide) (fun _ => ?_) (fun h => absurd (by decide) h)
  refine lv_iconst (v := 0) hx hb dX4_fewestSounds_30 (by decide) ?_
  refine lv_istore_n (lv' := [(3, .int 0), (2, .int 7), (1, .int 0), (0, .ref h0)]) hx hb dX4_fewestSounds_31 rfl hl (by decide) rfl (fun ls hl => ?_)
  refine lv_iload_n hx hb dX4_fewestSounds_32 rfl (lv_at hl 0 rfl) ?_
  refine lv_if_eq (tgt := 46) hx hb dX4_fewestSounds_33 (by decide) (fun _ => ?_) (fun h => absurd (by decide) h)
  refine lv_iinc (v := 8) (lv' := [(2, .int 8), (3, .int 0), (1, .int 0), (0, .ref h0)]) hx hb dX4_fewestSounds_46 hl (k := 1) rfl (by first | rfl | decide) (by decide) rfl (fun ls hl => ?_)
  refine lv_goto (tgt := 4) hx hb dX4_fewestSounds_49 (by decide) ?_
  refine lv_iload_n hx hb dX4_fewestSounds_4 rfl (lv_at hl 0 rfl) ?_
  refine lv_bipush (v := 64) hx hb dX4_fewestSounds_5 (by decide) ?_
  refine lv_icmp_ge (tgt := 52) hx hb dX4_fewestSounds_7 (by decide) (fun h => absurd h (by decide)) (fun _ => ?_)
  refine lv_iload_n hx hb dX4_fewestSounds_10 rfl (lv_at hl 2 rfl) ?_
  refine lv_iconst (v := (-1)) hx hb dX4_fewestSounds_11 (by decide) ?_
  refine lv_icmp_eq (tgt := 26) hx hb dX4_fewestSounds_12 (by decide) (fun h => absurd h (by decide)) (fun _ => ?_)
  refine lv_iload_n hx hb dX4_fewestSounds_15 rfl (lv_at hl 0 rfl) ?_
  refine vp_callSi (mkSr (rest := []) ⟨hx, hb, hml, hown, htl⟩ hN hK (c_J_ibc l G cs 8) (cS 1 htl lk_RX4_62 mT_J6_bitCount_0f7a4 mN_RJ6 mC_J6_bitCount_0f7a4 ok_J6_bitCount_0f7a4 rfl rfl ⟨(Nat.le_of_ble_eq_true rfl), (Nat.le_of_ble_eq_true rfl)⟩) rfl hl.1 rfl (Nat.le_of_ble_eq_true rfl) dX4_fewestSounds_16 ⟨(Nat.le_of_ble_eq_true rfl), (Nat.le_of_ble_eq_true rfl)⟩) (fun r hw => ?_)
  obtain rfl : r = 1 := hw.trans (by first | decide +kernel | rfl)
  refine lv_iload_n hx hb dX4_fewestSounds_19 rfl (lv_at hl 2 rfl) ?_
  refine vp_callSi (mkSr (rest := [.int 1]) ⟨hx, hb, hml, hown, htl⟩ hN hK (c_J_ibc l G cs 0) (cS 1 htl lk_RX4_62 mT_J6_bitCount_0f7a4 mN_RJ6 mC_J6_bitCount_0f7a4 ok_J6_bitCount_0f7a4 rfl rfl ⟨(Nat.le_of_ble_eq_true rfl), (Nat.le_of_ble_eq_true rfl)⟩) rfl hl.1 rfl (Nat.le_of_ble_eq_true rfl) dX4_fewestSounds_20 ⟨(Nat.le_of_ble_eq_true rfl), (Nat.le_of_ble_eq_true rfl)⟩) (fun r hw => ?_)
  obtain rfl : r = 0 := hw.trans (by first | decide +kernel | rfl)
  refine lv_icmp_ge (tgt := 30) hx hb dX4_fewestSounds_23 (by decide) (fun _ => ?_) (fun h => absurd (by decide) h)
  refine lv_iconst (v := 0) hx hb dX4_fewestSounds_30 (by decide) ?_
  refine lv_istore_n (lv' := [(3, .int 0), (2, .int 8), (1, .int 0), (0, .ref h0)]) hx hb dX4_fewestSounds_31 rfl hl (by decide) rfl (fun ls hl => ?_)
  refine lv_iload_n hx hb dX4_fewestSounds_32 rfl (lv_at hl 0 rfl) ?_
  refine lv_if_eq (tgt := 46) hx hb dX4_fewestSounds_33 (by decide) (fun _ => ?_) (fun h => absurd (by decide) h)
  refine lv_iinc (v := 9) (lv' := [(2, .int 9), (3, .int 0), (1, .int 0), (0, .ref h0)]) hx hb dX4_fewestSounds_46 hl (k := 1) rfl (by first | rfl | decide) (by decide) rfl (fun ls hl => ?_)
  refine lv_goto (tgt := 4) hx hb dX4_fewestSounds_49 (by decide) ?_
  refine lv_iload_n hx hb dX4_fewestSounds_4 rfl (lv_at hl 0 rfl) ?_
  refine lv_bipush (v := 64) hx hb dX4_fewestSounds_5 (by decide) ?_
  refine lv_icmp_ge (tgt := 52) hx hb dX4_fewestSounds_7 (by decide) (fun h => absurd h (by decide)) (fun _ => ?_)
  refine lv_iload_n hx hb dX4_fewestSounds_10 rfl (lv_at hl 2 rfl) ?_
  refine lv_iconst (v := (-1)) hx hb dX4_fewestSounds_11 (by decide) ?_
  refine lv_icmp_eq (tgt := 26) hx hb dX4_fewestSounds_12 (by decide) (fun h => absurd h (by decide)) (fun _ => ?_)
  refine lv_iload_n hx hb dX4_fewestSounds_15 rfl (lv_at hl 0 rfl) ?_
  refine vp_callSi (mkSr (rest := []) ⟨hx, hb, hml, hown, htl⟩ hN hK (c_J_ibc l G cs 9) (cS 1 htl lk_RX4_62 mT_J6_bitCount_0f7a4 mN_RJ6 mC_J6_bitCount_0f7a4 ok_J6_bitCount_0f7a4 rfl rfl ⟨(Nat.le_of_ble_eq_true rfl), (Nat.le_of_ble_eq_true rfl)⟩) rfl hl.1 rfl (Nat.le_of_ble_eq_true rfl) dX4_fewestSounds_16 ⟨(Nat.le_of_ble_eq_true rfl), (Nat.le_of_ble_eq_true rfl)⟩) (fun r hw => ?_)
  obtain rfl : r = 2 := hw.trans (by first | decide +kernel | rfl)
  refine lv_iload_n hx hb dX4_fewestSounds_19 rfl (lv_at hl 2 rfl) ?_
  refine vp_callSi (mkSr (rest := [.int 2]) ⟨hx, hb, hml, hown, htl⟩ hN hK (c_J_ibc l G cs 0) (cS 1 htl lk_RX4_62 mT_J6_bitCount_0f7a4 mN_RJ6 mC_J6_bitCount_0f7a4 ok_J6_bitCount_0f7a4 rfl rfl ⟨(Nat.le_of_ble_eq_true rfl), (Nat.le_of_ble_eq_true rfl)⟩) rfl hl.1 rfl (Nat.le_of_ble_eq_true rfl) dX4_fewestSounds_20 ⟨(Nat.le_of_ble_eq_true rfl), (Nat.le_of_ble_eq_true rfl)⟩) (fun r hw => ?_)
  obtain rfl : r = 0 := hw.trans (by first | decide +kernel | rfl)
  refine lv_icmp_ge (tgt := 30) hx hb dX4_fewestSounds_23 (by decide) (fun _ => ?_) (fun h => absurd (by decide) h)
  refine lv_iconst (v := 0) hx hb dX4_fewestSounds_30 (by decide) ?_
  refine lv_istore_n (lv' := [(3, .int 0), (2, .int 9), (1, .int 0), (0, .ref h0)]) hx hb dX4_fewestSounds_31 rfl hl (by decide) rfl (fun ls hl => ?_)
  refine lv_iload_n hx hb dX4_fewestSounds_32 rfl (lv_at hl 0 rfl) ?_
  refine lv_if_eq (tgt := 46) hx hb dX4_fewestSounds_33 (by decide) (fun _ => ?_) (fun h => absurd (by decide) h)
  refine lv_iinc (v := 10) (lv' := [(2, .int 10), (3, .int 0), (1, .int 0), (0, .ref h0)]) hx hb dX4_fewestSounds_46 hl (k := 1) rfl (by first | rfl | decide) (by decide) rfl (fun ls hl => ?_)
  refine lv_goto (tgt := 4) hx hb dX4_fewestSounds_49 (by decide) ?_
  refine lv_iload_n hx hb dX4_fewestSounds_4 rfl (lv_at hl 0 rfl) ?_
  refine lv_bipush (v := 64) hx hb dX4_fewestSounds_5 (by decide) ?_
  refine lv_icmp_ge (tgt := 52) hx hb dX4_fewestSounds_7 (by decide) (fun h => absurd h (by decide)) (fun _ => ?_)
  refine lv_iload_n hx hb dX4_fewestSounds_10 rfl (lv_at hl 2 rfl) ?_
  refine lv_iconst (v := (-1)) hx hb dX4_fewestSounds_11 (by decide) ?_
  refine lv_icmp_eq (tgt := 26) hx hb dX4_fewestSounds_12 (by decide) (fun h => absurd h (by decide)) (fun _ => ?_)
  refine lv_iload_n hx hb dX4_fewestSounds_15 rfl (lv_at hl 0 rfl) ?_
  refine vp_callSi (mkSr (rest := []) ⟨hx, hb, hml, hown, htl⟩ hN hK (c_J_ibc l G cs 10) (cS 1 htl lk_RX4_62 mT_J6_bitCount_0f7a4 mN_RJ6 mC_J6_bitCount_0f7a4 ok_J6_bitCount_0f7a4 rfl rfl ⟨(Nat.le_of_ble_eq_true rfl), (Nat.le_of_ble_eq_true rfl)⟩) rfl hl.1 rfl (Nat.le_of_ble_eq_true rfl) dX4_fewestSounds_16 ⟨(Nat.le_of_ble_eq_true rfl), (Nat.le_of_ble_eq_true rfl)⟩) (fun r hw => ?_)
  obtain rfl : r = 2 := hw.trans (by first | decide +kernel | rfl)
  refine lv_iload_n hx hb dX4_fewestSounds_19 rfl (lv_at hl 2 rfl) ?_
  refine vp_callSi (mkSr (rest := [.int 2]) ⟨hx, hb, hml, hown, htl⟩ hN hK (c_J_ibc l G cs 0) (cS 1 htl lk_RX4_62 mT_J6_bitCount_0f7a4 mN_RJ6 mC_J6_bitCount_0f7a4 ok_J6_bitCount_0f7a4 rfl rfl ⟨(Nat.le_of_ble_eq_true rfl), (Nat.le_of_ble_eq_true rfl)⟩) rfl hl.1 rfl (Nat.le_of_ble_eq_true rfl) dX4_fewestSounds_20 ⟨(Nat.le_of_ble_eq_true rfl), (Nat.le_of_ble_eq_true rfl)⟩) (fun r hw => ?_)
  obtain rfl : r = 0 := hw.trans (by first | decide +kernel | rfl)
  refine lv_icmp_ge (tgt := 30) hx hb dX4_fewestSounds_23 (by decide) (fun _ => ?_) (fun h => absurd (by decide) h)
  refine lv_iconst (v := 0) hx hb dX4_fewestSounds_30 (by decide) ?_
  refine lv_istore_n (lv' := [(3, .int 0), (2, .int 10), (1, .int 0), (0, .ref h0)]) hx hb dX4_fewestSounds_31 rfl hl (by decide) rfl (fun ls hl => ?_)
  refine lv_iload_n hx hb dX4_fewestSounds_32 rfl (lv_at hl 0 rfl) ?_
  refine lv_if_eq (tgt := 46) hx hb dX4_fewestSounds_33 (by decide) (fun _ => ?_) (fun h => absurd (by decide) h)
  refine lv_iinc (v := 11) (lv' := [(2, .int 11), (3, .int 0), (1, .int 0), (0, .ref h0)]) hx hb dX4_fewestSounds_46 hl (k := 1) rfl (by first | rfl | decide) (by decide) rfl (fun ls hl => ?_)
  refine lv_goto (tgt := 4) hx hb dX4_fewestSounds_49 (by decide) ?_
  refine lv_iload_n hx hb dX4_fewestSounds_4 rfl (lv_at hl 0 rfl) ?_
  refine lv_bipush (v := 64) hx hb dX4_fewestSounds_5 (by decide) ?_
  refine lv_icmp_ge (tgt := 52) hx hb dX4_fewestSounds_7 (by decide) (fun h => absurd h (by decide)) (fun _ => ?_)
  refine lv_iload_n hx hb dX4_fewestSounds_10 rfl (lv_at hl 2 rfl) ?_
  refine lv_iconst (v := (-1)) hx hb dX4_fewestSounds_11 (by decide) ?_
  refine lv_icmp_eq (tgt := 26) hx hb dX4_fewestSounds_12 (by decide) (fun h => absurd h (by decide)) (fun _ => ?_)
  refine lv_iload_n hx hb dX4_fewestSounds_15 rfl (lv_at hl 0 rfl) ?_
  refine vp_callSi (mkSr (rest := []) ⟨hx, hb, hml, hown, htl⟩ hN hK (c_J_ibc l G cs 11) (cS 1 htl lk_RX4_62 mT_J6_bitCount_0f7a4 mN_RJ6 mC_J6_bitCount_0f7a4 ok_J6_bitCount_0f7a4 rfl rfl ⟨(Nat.le_of_ble_eq_true rfl), (Nat.le_of_ble_eq_true rfl)⟩) rfl hl.1 rfl (Nat.le_of_ble_eq_true rfl) dX4_fewestSounds_16 ⟨(Nat.le_of_ble_eq_true rfl), (Nat.le_of_ble_eq_true rfl)⟩) (fun r hw => ?_)
  obtain rfl : r = 3 := hw.trans (by first | decide +kernel | rfl)
  refine lv_iload_n hx hb dX4_fewestSounds_19 rfl (lv_at hl 2 rfl) ?_
  refine vp_callSi (mkSr (rest := [.int 3]) ⟨hx, hb, hml, hown, htl⟩ hN hK (c_J_ibc l G cs 0) (cS 1 htl lk_RX4_62 mT_J6_bitCount_0f7a4 mN_RJ6 mC_J6_bitCount_0f7a4 ok_J6_bitCount_0f7a4 rfl rfl ⟨(Nat.le_of_ble_eq_true rfl), (Nat.le_of_ble_eq_true rfl)⟩) rfl hl.1 rfl (Nat.le_of_ble_eq_true rfl) dX4_fewestSounds_20 ⟨(Nat.le_of_ble_eq_true rfl), (Nat.le_of_ble_eq_true rfl)⟩) (fun r hw => ?_)
  obtain rfl : r = 0 := hw.trans (by first | decide +kernel | rfl)
  refine lv_icmp_ge (tgt := 30) hx hb dX4_fewestSounds_23 (by decide) (fun _ => ?_) (fun h => absurd (by decide) h)
  refine lv_iconst (v := 0) hx hb dX4_fewestSounds_30 (by decide) ?_
  refine lv_istore_n (lv' := [(3, .int 0), (2, .int 11), (1, .int 0), (0, .ref h0)]) hx hb dX4_fewestSounds_31 rfl hl (by decide) rfl (fun ls hl => ?_)
  refine lv_iload_n hx hb dX4_fewestSounds_32 rfl (lv_at hl 0 rfl) ?_
  refine lv_if_eq (tgt := 46) hx hb dX4_fewestSounds_33 (by decide) (fun _ => ?_) (fun h => absurd (by decide) h)
  refine lv_iinc (v := 12) (lv' := [(2, .int 12), (3, .int 0), (1, .int 0), (0, .ref h0)]) hx hb dX4_fewestSounds_46 hl (k := 1) rfl (by first | rfl | decide) (by decide) rfl (fun ls hl => ?_)
  refine lv_goto (tgt := 4) hx hb dX4_fewestSounds_49 (by decide) ?_
  refine lv_iload_n hx hb dX4_fewestSounds_4 rfl (lv_at hl 0 rfl) ?_
  refine lv_bipush (v := 64) hx hb dX4_fewestSounds_5 (by decide) ?_
  refine lv_icmp_ge (tgt := 52) hx hb dX4_fewestSounds_7 (by decide) (fun h => absurd h (by decide)) (fun _ => ?_)
  refine lv_iload_n hx hb dX4_fewestSounds_10 rfl (lv_at hl 2 rfl) ?_
  refine lv_iconst (v := (-1)) hx hb dX4_fewestSounds_11 (by decide) ?_
  refine lv_icmp_eq (tgt := 26) hx hb dX4_fewestSounds_12 (by decide) (fun h => absurd h (by decide)) (fun _ => ?_)
  refine lv_iload_n hx hb dX4_fewestSounds_15 rfl (lv_at hl 0 rfl) ?_
  refine vp_callSi (mkSr (rest := []) ⟨hx, hb, hml, hown, htl⟩ hN hK (c_J_ibc l G cs 12) (cS 1 htl lk_RX4_62 mT_J6_bitCount_0f7a4 mN_RJ6 mC_J6_bitCount_0f7a4 ok_J6_bitCount_0f7a4 rfl rfl ⟨(Nat.le_of_ble_eq_true rfl), (Nat.le_of_ble_eq_true rfl)⟩) rfl hl.1 rfl (Nat.le_of_ble_eq_true rfl) dX4_fewestSounds_16 ⟨(Nat.le_of_ble_eq_true rfl), (Nat.le_of_ble_eq_true rfl)⟩) (fun r hw => ?_)
  obtain rfl : r = 2 := hw.trans (by first | decide +kernel | rfl)
  refine lv_iload_n hx hb dX4_fewestSounds_19 rfl (lv_at hl 2 rfl) ?_
  refine vp_callSi (mkSr (rest := [.int 2]) ⟨hx, hb, hml, hown, htl⟩ hN hK (c_J_ibc l G cs 0) (cS 1 htl lk_RX4_62 mT_J6_bitCount_0f7a4 mN_RJ6 mC_J6_bitCount_0f7a4 ok_J6_bitCount_0f7a4 rfl rfl ⟨(Nat.le_of_ble_eq_true rfl), (Nat.le_of_ble_eq_true rfl)⟩) rfl hl.1 rfl (Nat.le_of_ble_eq_true rfl) dX4_fewestSounds_20 ⟨(Nat.le_of_ble_eq_true rfl), (Nat.le_of_ble_eq_true rfl)⟩) (fun r hw => ?_)
  obtain rfl : r = 0 := hw.trans (by first | decide +kernel | rfl)
  refine lv_icmp_ge (tgt := 30) hx hb dX4_fewestSounds_23 (by decide) (fun _ => ?_) (fun h => absurd (by decide) h)
  refine lv_iconst (v := 0) hx hb dX4_fewestSounds_30 (by decide) ?_
  refine lv_istore_n (lv' := [(3, .int 0), (2, .int 12), (1, .int 0), (0, .ref h0)]) hx hb dX4_fewestSounds_31 rfl hl (by decide) rfl (fun ls hl => ?_)
  refine lv_iload_n hx hb dX4_fewestSounds_32 rfl (lv_at hl 0 rfl) ?_
  refine lv_if_eq (tgt := 46) hx hb dX4_fewestSounds_33 (by decide) (fun _ => ?_) (fun h => absurd (by decide) h)
  refine lv_iinc (v := 13) (lv' := [(2, .int 13), (3, .int 0), (1, .int 0), (0, .ref h0)]) hx hb dX4_fewestSounds_46 hl (k := 1) rfl (by first | rfl | decide) (by decide) rfl (fun ls hl => ?_)
  refine lv_goto (tgt := 4) hx hb dX4_fewestSounds_49 (by decide) ?_
  refine lv_iload_n hx hb dX4_fewestSounds_4 rfl (lv_at hl 0 rfl) ?_
  refine lv_bipush (v := 64) hx hb dX4_fewestSounds_5 (by decide) ?_
  refine lv_icmp_ge (tgt := 52) hx hb dX4_fewestSounds_7 (by decide) (fun h => absurd h (by decide)) (fun _ => ?_)
  refine lv_iload_n hx hb dX4_fewestSounds_10 rfl (lv_at hl 2 rfl) ?_
  refine lv_iconst (v := (-1)) hx hb dX4_fewestSounds_11 (by decide) ?_
  refine lv_icmp_eq (tgt := 26) hx hb dX4_fewestSounds_12 (by decide) (fun h => absurd h (by decide)) (fun _ => ?_)
  refine lv_iload_n hx hb dX4_fewestSounds_15 rfl (lv_at hl 0 rfl) ?_
  refine vp_callSi (mkSr (rest := []) ⟨hx, hb, hml, hown, htl⟩ hN hK (c_J_ibc l G cs 13) (cS 1 htl lk_RX4_62 mT_J6_bitCount_0f7a4 mN_RJ6 mC_J6_bitCount_0f7a4 ok_J6_bitCount_0f7a4 rfl rfl ⟨(Nat.le_of_ble_eq_true rfl), (Nat.le_of_ble_eq_true rfl)⟩) rfl hl.1 rfl (Nat.le_of_ble_eq_true rfl) dX4_fewestSounds_16 ⟨(Nat.le_of_ble_eq_true rfl), (Nat.le_of_ble_eq_true rfl)⟩) (fun r hw => ?_)
  obtain rfl : r = 3 := hw.trans (by first | decide +kernel | rfl)
  refine lv_iload_n hx hb dX4_fewestSounds_19 rfl (lv_at hl 2 rfl) ?_
  refine vp_callSi (mkSr (rest := [.int 3]) ⟨hx, hb, hml, hown, htl⟩ hN hK (c_J_ibc l G cs 0) (cS 1 htl lk_RX4_62 mT_J6_bitCount_0f7a4 mN_RJ6 mC_J6_bitCount_0f7a4 ok_J6_bitCount_0f7a4 rfl rfl ⟨(Nat.le_of_ble_eq_true rfl), (Nat.le_of_ble_eq_true rfl)⟩) rfl hl.1 rfl (Nat.le_of_ble_eq_true rfl) dX4_fewestSounds_20 ⟨(Nat.le_of_ble_eq_true rfl), (Nat.le_of_ble_eq_true rfl)⟩) (fun r hw => ?_)
  obtain rfl : r = 0 := hw.trans (by first | decide +kernel | rfl)
  refine lv_icmp_ge (tgt := 30) hx hb dX4_fewestSounds_23 (by decide) (fun _ => ?_) (fun h => absurd (by decide) h)
  refine lv_iconst (v := 0) hx hb dX4_fewestSounds_30 (by decide) ?_
  refine lv_istore_n (lv' := [(3, .int 0), (2, .int 13), (1, .int 0), (0, .ref h0)]) hx hb dX4_fewestSounds_31 rfl hl (by decide) rfl (fun ls hl => ?_)
  refine lv_iload_n hx hb dX4_fewestSounds_32 rfl (lv_at hl 0 rfl) ?_
  refine lv_if_eq (tgt := 46) hx hb dX4_fewestSounds_33 (by decide) (fun _ => ?_) (fun h => absurd (by decide) h)
  refine lv_iinc (v := 14) (lv' := [(2, .int 14), (3, .int 0), (1, .int 0), (0, .ref h0)]) hx hb dX4_fewestSounds_46 hl (k := 1) rfl (by first | rfl | decide) (by decide) rfl (fun ls hl => ?_)
  refine lv_goto (tgt := 4) hx hb dX4_fewestSounds_49 (by decide) ?_
  refine lv_iload_n hx hb dX4_fewestSounds_4 rfl (lv_at hl 0 rfl) ?_
  refine lv_bipush (v := 64) hx hb dX4_fewestSounds_5 (by decide) ?_
  refine lv_icmp_ge (tgt := 52) hx hb dX4_fewestSounds_7 (by decide) (fun h => absurd h (by decide)) (fun _ => ?_)
  refine lv_iload_n hx hb dX4_fewestSounds_10 rfl (lv_at hl 2 rfl) ?_
  refine lv_iconst (v := (-1)) hx hb dX4_fewestSounds_11 (by decide) ?_
  refine lv_icmp_eq (tgt := 26) hx hb dX4_fewestSounds_12 (by decide) (fun h => absurd h (by decide)) (fun _ => ?_)
  refine lv_iload_n hx hb dX4_fewestSounds_15 rfl (lv_at hl 0 rfl) ?_
  refine vp_callSi (mkSr (rest := []) ⟨hx, hb, hml, hown, htl⟩ hN hK (c_J_ibc l G cs 14) (cS 1 htl lk_RX4_62 mT_J6_bitCount_0f7a4 mN_RJ6 mC_J6_bitCount_0f7a4 ok_J6_bitCount_0f7a4 rfl rfl ⟨(Nat.le_of_ble_eq_true rfl), (Nat.le_of_ble_eq_true rfl)⟩) rfl hl.1 rfl (Nat.le_of_ble_eq_true rfl) dX4_fewestSounds_16 ⟨(Nat.le_of_ble_eq_true rfl), (Nat.le_of_ble_eq_true rfl)⟩) (fun r hw => ?_)
  obtain rfl : r = 3 := hw.trans (by first | decide +kernel | rfl)
  refine lv_iload_n hx hb dX4_fewestSounds_19 rfl (lv_at hl 2 rfl) ?_
  refine vp_callSi (mkSr (rest := [.int 3]) ⟨hx, hb, hml, hown, htl⟩ hN hK (c_J_ibc l G cs 0) (cS 1 htl lk_RX4_62 mT_J6_bitCount_0f7a4 mN_RJ6 mC_J6_bitCount_0f7a4 ok_J6_bitCount_0f7a4 rfl rfl ⟨(Nat.le_of_ble_eq_true rfl), (Nat.le_of_ble_eq_true rfl)⟩) rfl hl.1 rfl (Nat.le_of_ble_eq_true rfl) dX4_fewestSounds_20 ⟨(Nat.le_of_ble_eq_true rfl), (Nat.le_of_ble_eq_true rfl)⟩) (fun r hw => ?_)
  obtain rfl : r = 0 := hw.trans (by first | decide +kernel | rfl)
  refine lv_icmp_ge (tgt := 30) hx hb dX4_fewestSounds_23 (by decide) (fun _ => ?_) (fun h => absurd (by decide) h)
  refine lv_iconst (v := 0) hx hb dX4_fewestSounds_30 (by decide) ?_
  refine lv_istore_n (lv' := [(3, .int 0), (2, .int 14), (1, .int 0), (0, .ref h0)]) hx hb dX4_fewestSounds_31 rfl hl (by decide) rfl (fun ls hl => ?_)
  refine lv_iload_n hx hb dX4_fewestSounds_32 rfl (lv_at hl 0 rfl) ?_
  refine lv_if_eq (tgt := 46) hx hb dX4_fewestSounds_33 (by decide) (fun _ => ?_) (fun h => absurd (by decide) h)
  refine lv_iinc (v := 15) (lv' := [(2, .int 15), (3, .int 0), (1, .int 0), (0, .ref h0)]) hx hb dX4_fewestSounds_46 hl (k := 1) rfl (by first | rfl | decide) (by decide) rfl (fun ls hl => ?_)
  refine lv_goto (tgt := 4) hx hb dX4_fewestSounds_49 (by decide) ?_
  refine lv_iload_n hx hb dX4_fewestSounds_4 rfl (lv_at hl 0 rfl) ?_
  refine lv_bipush (v := 64) hx hb dX4_fewestSounds_5 (by decide) ?_
  refine lv_icmp_ge (tgt := 52) hx hb dX4_fewestSounds_7 (by decide) (fun h => absurd h (by decide)) (fun _ => ?_)
  refine lv_iload_n hx hb dX4_fewestSounds_10 rfl (lv_at hl 2 rfl) ?_
  refine lv_iconst (v := (-1)) hx hb dX4_fewestSounds_11 (by decide) ?_
  refine lv_icmp_eq (tgt := 26) hx hb dX4_fewestSounds_12 (by decide) (fun h => absurd h (by decide)) (fun _ => ?_)
  refine lv_iload_n hx hb dX4_fewestSounds_15 rfl (lv_at hl 0 rfl) ?_
  refine vp_callSi (mkSr (rest := []) ⟨hx, hb, hml, hown, htl⟩ hN hK (c_J_ibc l G cs 15) (cS 1 htl lk_RX4_62 mT_J6_bitCount_0f7a4 mN_RJ6 mC_J6_bitCount_0f7a4 ok_J6_bitCount_0f7a4 rfl rfl ⟨(Nat.le_of_ble_eq_true rfl), (Nat.le_of_ble_eq_true rfl)⟩) rfl hl.1 rfl (Nat.le_of_ble_eq_true rfl) dX4_fewestSounds_16 ⟨(Nat.le_of_ble_eq_true rfl), (Nat.le_of_ble_eq_true rfl)⟩) (fun r hw => ?_)
  obtain rfl : r = 4 := hw.trans (by first | decide +kernel | rfl)
  refine lv_iload_n hx hb dX4_fewestSounds_19 rfl (lv_at hl 2 rfl) ?_
  refine vp_callSi (mkSr (rest := [.int 4]) ⟨hx, hb, hml, hown, htl⟩ hN hK (c_J_ibc l G cs 0) (cS 1 htl lk_RX4_62 mT_J6_bitCount_0f7a4 mN_RJ6 mC_J6_bitCount_0f7a4 ok_J6_bitCount_0f7a4 rfl rfl ⟨(Nat.le_of_ble_eq_true rfl), (Nat.le_of_ble_eq_true rfl)⟩) rfl hl.1 rfl (Nat.le_of_ble_eq_true rfl) dX4_fewestSounds_20 ⟨(Nat.le_of_ble_eq_true rfl), (Nat.le_of_ble_eq_true rfl)⟩) (fun r hw => ?_)
  obtain rfl : r = 0 := hw.trans (by first | decide +kernel | rfl)
  refine lv_icmp_ge (tgt := 30) hx hb dX4_fewestSounds_23 (by decide) (fun _ => ?_) (fun h => absurd (by decide) h)
  refine lv_iconst (v := 0) hx hb dX4_fewestSounds_30 (by decide) ?_
  refine lv_istore_n (lv' := [(3, .int 0), (2, .int 15), (1, .int 0), (0, .ref h0)]) hx hb dX4_fewestSounds_31 rfl hl (by decide) rfl (fun ls hl => ?_)
  refine lv_iload_n hx hb dX4_fewestSounds_32 rfl (lv_at hl 0 rfl) ?_
  refine lv_if_eq (tgt := 46) hx hb dX4_fewestSounds_33 (by decide) (fun _ => ?_) (fun h => absurd (by decide) h)
  refine lv_iinc (v := 16) (lv' := [(2, .int 16), (3, .int 0), (1, .int 0), (0, .ref h0)]) hx hb dX4_fewestSounds_46 hl (k := 1) rfl (by first | rfl | decide) (by decide) rfl (fun ls hl => ?_)
  refine lv_goto (tgt := 4) hx hb dX4_fewestSounds_49 (by decide) ?_
  refine lv_iload_n hx hb dX4_fewestSounds_4 rfl (lv_at hl 0 rfl) ?_
  refine lv_bipush (v := 64) hx hb dX4_fewestSounds_5 (by decide) ?_
  refine lv_icmp_ge (tgt := 52) hx hb dX4_fewestSounds_7 (by decide) (fun h => absurd h (by decide)) (fun _ => ?_)
  refine lv_iload_n hx hb dX4_fewestSounds_10 rfl (lv_at hl 2 rfl) ?_
  refine lv_iconst (v := (-1)) hx hb dX4_fewestSounds_11 (by decide) ?_
  refine lv_icmp_eq (tgt := 26) hx hb dX4_fewestSounds_12 (by decide) (fun h => absurd h (by decide)) (fun _ => ?_)
  refine lv_iload_n hx hb dX4_fewestSounds_15 rfl (lv_at hl 0 rfl) ?_
  refine vp_callSi (mkSr (rest := []) ⟨hx, hb, hml, hown, htl⟩ hN hK (c_J_ibc l G cs 16) (cS 1 htl lk_RX4_62 mT_J6_bitCount_0f7a4 mN_RJ6 mC_J6_bitCount_0f7a4 ok_J6_bitCount_0f7a4 rfl rfl ⟨(Nat.le_of_ble_eq_true rfl), (Nat.le_of_ble_eq_true rfl)⟩) rfl hl.1 rfl (Nat.le_of_ble_eq_true rfl) dX4_fewestSounds_16 ⟨(Nat.le_of_ble_eq_true rfl), (Nat.le_of_ble_eq_true rfl)⟩) (fun r hw => ?_)
  obtain rfl : r = 1 := hw.trans (by first | decide +kernel | rfl)
  refine lv_iload_n hx hb dX4_fewestSounds_19 rfl (lv_at hl 2 rfl) ?_
  refine vp_callSi (mkSr (rest := [.int 1]) ⟨hx, hb, hml, hown, htl⟩ hN hK (c_J_ibc l G cs 0) (cS 1 htl lk_RX4_62 mT_J6_bitCount_0f7a4 mN_RJ6 mC_J6_bitCount_0f7a4 ok_J6_bitCount_0f7a4 rfl rfl ⟨(Nat.le_of_ble_eq_true rfl), (Nat.le_of_ble_eq_true rfl)⟩) rfl hl.1 rfl (Nat.le_of_ble_eq_true rfl) dX4_fewestSounds_20 ⟨(Nat.le_of_ble_eq_true rfl), (Nat.le_of_ble_eq_true rfl)⟩) (fun r hw => ?_)
  obtain rfl : r = 0 := hw.trans (by first | decide +kernel | rfl)
  refine lv_icmp_ge (tgt := 30) hx hb dX4_fewestSounds_23 (by decide) (fun _ => ?_) (fun h => absurd (by decide) h)
  refine lv_iconst (v := 0) hx hb dX4_fewestSounds_30 (by decide) ?_
  refine lv_istore_n (lv' := [(3, .int 0), (2, .int 16), (1, .int 0), (0, .ref h0)]) hx hb dX4_fewestSounds_31 rfl hl (by decide) rfl (fun ls hl => ?_)
  refine lv_iload_n hx hb dX4_fewestSounds_32 rfl (lv_at hl 0 rfl) ?_
  refine lv_if_eq (tgt := 46) hx hb dX4_fewestSounds_33 (by decide) (fun _ => ?_) (fun h => absurd (by decide) h)
  refine lv_iinc (v := 17) (lv' := [(2, .int 17), (3, .int 0), (1, .int 0), (0, .ref h0)]) hx hb dX4_fewestSounds_46 hl (k := 1) rfl (by first | rfl | decide) (by decide) rfl (fun ls hl => ?_)
  refine lv_goto (tgt := 4) hx hb dX4_fewestSounds_49 (by decide) ?_
  refine lv_iload_n hx hb dX4_fewestSounds_4 rfl (lv_at hl 0 rfl) ?_
  refine lv_bipush (v := 64) hx hb dX4_fewestSounds_5 (by decide) ?_
  refine lv_icmp_ge (tgt := 52) hx hb dX4_fewestSounds_7 (by decide) (fun h => absurd h (by decide)) (fun _ => ?_)
  refine lv_iload_n hx hb dX4_fewestSounds_10 rfl (lv_at hl 2 rfl) ?_
  refine lv_iconst (v := (-1)) hx hb dX4_fewestSounds_11 (by decide) ?_
  refine lv_icmp_eq (tgt := 26) hx hb dX4_fewestSounds_12 (by decide) (fun h => absurd h (by decide)) (fun _ => ?_)
  refine lv_iload_n hx hb dX4_fewestSounds_15 rfl (lv_at hl 0 rfl) ?_
  refine vp_callSi (mkSr (rest := []) ⟨hx, hb, hml, hown, htl⟩ hN hK (c_J_ibc l G cs 17) (cS 1 htl lk_RX4_62 mT_J6_bitCount_0f7a4 mN_RJ6 mC_J6_bitCount_0f7a4 ok_J6_bitCount_0f7a4 rfl rfl ⟨(Nat.le_of_ble_eq_true rfl), (Nat.le_of_ble_eq_true rfl)⟩) rfl hl.1 rfl (Nat.le_of_ble_eq_true rfl) dX4_fewestSounds_16 ⟨(Nat.le_of_ble_eq_true rfl), (Nat.le_of_ble_eq_true rfl)⟩) (fun r hw => ?_)
  obtain rfl : r = 2 := hw.trans (by first | decide +kernel | rfl)
  refine lv_iload_n hx hb dX4_fewestSounds_19 rfl (lv_at hl 2 rfl) ?_
  refine vp_callSi (mkSr (rest := [.int 2]) ⟨hx, hb, hml, hown, htl⟩ hN hK (c_J_ibc l G cs 0) (cS 1 htl lk_RX4_62 mT_J6_bitCount_0f7a4 mN_RJ6 mC_J6_bitCount_0f7a4 ok_J6_bitCount_0f7a4 rfl rfl ⟨(Nat.le_of_ble_eq_true rfl), (Nat.le_of_ble_eq_true rfl)⟩) rfl hl.1 rfl (Nat.le_of_ble_eq_true rfl) dX4_fewestSounds_20 ⟨(Nat.le_of_ble_eq_true rfl), (Nat.le_of_ble_eq_true rfl)⟩) (fun r hw => ?_)
  obtain rfl : r = 0 := hw.trans (by first | decide +kernel | rfl)
  refine lv_icmp_ge (tgt := 30) hx hb dX4_fewestSounds_23 (by decide) (fun _ => ?_) (fun h => absurd (by decide) h)
  refine lv_iconst (v := 0) hx hb dX4_fewestSounds_30 (by decide) ?_
  refine lv_istore_n (lv' := [(3, .int 0), (2, .int 17), (1, .int 0), (0, .ref h0)]) hx hb dX4_fewestSounds_31 rfl hl (by decide) rfl (fun ls hl => ?_)
  refine lv_iload_n hx hb dX4_fewestSounds_32 rfl (lv_at hl 0 rfl) ?_
  refine lv_if_eq (tgt := 46) hx hb dX4_fewestSounds_33 (by decide) (fun _ => ?_) (fun h => absurd (by decide) h)
  refine lv_iinc (v := 18) (lv' := [(2, .int 18), (3, .int 0), (1, .int 0), (0, .ref h0)]) hx hb dX4_fewestSounds_46 hl (k := 1) rfl (by first | rfl | decide) (by decide) rfl (fun ls hl => ?_)
  refine lv_goto (tgt := 4) hx hb dX4_fewestSounds_49 (by decide) ?_
  refine lv_iload_n hx hb dX4_fewestSounds_4 rfl (lv_at hl 0 rfl) ?_
  refine lv_bipush (v := 64) hx hb dX4_fewestSounds_5 (by decide) ?_
  refine lv_icmp_ge (tgt := 52) hx hb dX4_fewestSounds_7 (by decide) (fun h => absurd h (by decide)) (fun _ => ?_)
  refine lv_iload_n hx hb dX4_fewestSounds_10 rfl (lv_at hl 2 rfl) ?_
  refine lv_iconst (v := (-1)) hx hb dX4_fewestSounds_11 (by decide) ?_
  refine lv_icmp_eq (tgt := 26) hx hb dX4_fewestSounds_12 (by decide) (fun h => absurd h (by decide)) (fun _ => ?_)
  refine lv_iload_n hx hb dX4_fewestSounds_15 rfl (lv_at hl 0 rfl) ?_
  refine vp_callSi (mkSr (rest := []) ⟨hx, hb, hml, hown, htl⟩ hN hK (c_J_ibc l G cs 18) (cS 1 htl lk_RX4_62 mT_J6_bitCount_0f7a4 mN_RJ6 mC_J6_bitCount_0f7a4 ok_J6_bitCount_0f7a4 rfl rfl ⟨(Nat.le_of_ble_eq_true rfl), (Nat.le_of_ble_eq_true rfl)⟩) rfl hl.1 rfl (Nat.le_of_ble_eq_true rfl) dX4_fewestSounds_16 ⟨(Nat.le_of_ble_eq_true rfl), (Nat.le_of_ble_eq_true rfl)⟩) (fun r hw => ?_)
  obtain rfl : r = 2 := hw.trans (by first | decide +kernel | rfl)
  refine lv_iload_n hx hb dX4_fewestSounds_19 rfl (lv_at hl 2 rfl) ?_
  refine vp_callSi (mkSr (rest := [.int 2]) ⟨hx, hb, hml, hown, htl⟩ hN hK (c_J_ibc l G cs 0) (cS 1 htl lk_RX4_62 mT_J6_bitCount_0f7a4 mN_RJ6 mC_J6_bitCount_0f7a4 ok_J6_bitCount_0f7a4 rfl rfl ⟨(Nat.le_of_ble_eq_true rfl), (Nat.le_of_ble_eq_true rfl)⟩) rfl hl.1 rfl (Nat.le_of_ble_eq_true rfl) dX4_fewestSounds_20 ⟨(Nat.le_of_ble_eq_true rfl), (Nat.le_of_ble_eq_true rfl)⟩) (fun r hw => ?_)
  obtain rfl : r = 0 := hw.trans (by first | decide +kernel | rfl)
  refine lv_icmp_ge (tgt := 30) hx hb dX4_fewestSounds_23 (by decide) (fun _ => ?_) (fun h => absurd (by decide) h)
  refine lv_iconst (v := 0) hx hb dX4_fewestSounds_30 (by decide) ?_
  refine lv_istore_n (lv' := [(3, .int 0), (2, .int 18), (1, .int 0), (0, .ref h0)]) hx hb dX4_fewestSounds_31 rfl hl (by decide) rfl (fun ls hl => ?_)
  refine lv_iload_n hx hb dX4_fewestSounds_32 rfl (lv_at hl 0 rfl) ?_
  refine lv_if_eq (tgt := 46) hx hb dX4_fewestSounds_33 (by decide) (fun _ => ?_) (fun h => absurd (by decide) h)
  refine lv_iinc (v := 19) (lv' := [(2, .int 19), (3, .int 0), (1, .int 0), (0, .ref h0)]) hx hb dX4_fewestSounds_46 hl (k := 1) rfl (by first | rfl | decide) (by decide) rfl (fun ls hl => ?_)
  refine lv_goto (tgt := 4) hx hb dX4_fewestSounds_49 (by decide) ?_
  refine lv_iload_n hx hb dX4_fewestSounds_4 rfl (lv_at hl 0 rfl) ?_
  refine lv_bipush (v := 64) hx hb dX4_fewestSounds_5 (by decide) ?_
  refine lv_icmp_ge (tgt := 52) hx hb dX4_fewestSounds_7 (by decide) (fun h => absurd h (by decide)) (fun _ => ?_)
  refine lv_iload_n hx hb dX4_fewestSounds_10 rfl (lv_at hl 2 rfl) ?_
  refine lv_iconst (v := (-1)) hx hb dX4_fewestSounds_11 (by decide) ?_
  refine lv_icmp_eq (tgt := 26) hx hb dX4_fewestSounds_12 (by decide) (fun h => absurd h (by decide)) (fun _ => ?_)
  refine lv_iload_n hx hb dX4_fewestSounds_15 rfl (lv_at hl 0 rfl) ?_
  refine vp_callSi (mkSr (rest := []) ⟨hx, hb, hml, hown, htl⟩ hN hK (c_J_ibc l G cs 19) (cS 1 htl lk_RX4_62 mT_J6_bitCount_0f7a4 mN_RJ6 mC_J6_bitCount_0f7a4 ok_J6_bitCount_0f7a4 rfl rfl ⟨(Nat.le_of_ble_eq_true rfl), (Nat.le_of_ble_eq_true rfl)⟩) rfl hl.1 rfl (Nat.le_of_ble_eq_true rfl) dX4_fewestSounds_16 ⟨(Nat.le_of_ble_eq_true rfl), (Nat.le_of_ble_eq_true rfl)⟩) (fun r hw => ?_)
  obtain rfl : r = 3 := hw.trans (by first | decide +kernel | rfl)
  refine lv_iload_n hx hb dX4_fewestSounds_19 rfl (lv_at hl 2 rfl) ?_
  refine vp_callSi (mkSr (rest := [.int 3]) ⟨hx, hb, hml, hown, htl⟩ hN hK (c_J_ibc l G cs 0) (cS 1 htl lk_RX4_62 mT_J6_bitCount_0f7a4 mN_RJ6 mC_J6_bitCount_0f7a4 ok_J6_bitCount_0f7a4 rfl rfl ⟨(Nat.le_of_ble_eq_true rfl), (Nat.le_of_ble_eq_true rfl)⟩) rfl hl.1 rfl (Nat.le_of_ble_eq_true rfl) dX4_fewestSounds_20 ⟨(Nat.le_of_ble_eq_true rfl), (Nat.le_of_ble_eq_true rfl)⟩) (fun r hw => ?_)
  obtain rfl : r = 0 := hw.trans (by first | decide +kernel | rfl)
  refine lv_icmp_ge (tgt := 30) hx hb dX4_fewestSounds_23 (by decide) (fun _ => ?_) (fun h => absurd (by decide) h)
  refine lv_iconst (v := 0) hx hb dX4_fewestSounds_30 (by decide) ?_
  refine lv_istore_n (lv' := [(3, .int 0), (2, .int 19), (1, .int 0), (0, .ref h0)]) hx hb dX4_fewestSounds_31 rfl hl (by decide) rfl (fun ls hl => ?_)
  refine lv_iload_n hx hb dX4_fewestSounds_32 rfl (lv_at hl 0 rfl) ?_
  refine lv_if_eq (tgt := 46) hx hb dX4_fewestSounds_33 (by decide) (fun _ => ?_) (fun h => absurd (by decide) h)
  refine lv_iinc (v := 20) (lv' := [(2, .int 20), (3, .int 0), (1, .int 0), (0, .ref h0)]) hx hb dX4_fewestSounds_46 hl (k := 1) rfl (by first | rfl | decide) (by decide) rfl (fun ls hl => ?_)
  refine lv_goto (tgt := 4) hx hb dX4_fewestSounds_49 (by decide) ?_
  refine lv_iload_n hx hb dX4_fewestSounds_4 rfl (lv_at hl 0 rfl) ?_
  refine lv_bipush (v := 64) hx hb dX4_fewestSounds_5 (by decide) ?_
  refine lv_icmp_ge (tgt := 52) hx hb dX4_fewestSounds_7 (by decide) (fun h => absurd h (by decide)) (fun _ => ?_)
  refine lv_iload_n hx hb dX4_fewestSounds_10 rfl (lv_at hl 2 rfl) ?_
  refine lv_iconst (v := (-1)) hx hb dX4_fewestSounds_11 (by decide) ?_
  refine lv_icmp_eq (tgt := 26) hx hb dX4_fewestSounds_12 (by decide) (fun h => absurd h (by decide)) (fun _ => ?_)
  refine lv_iload_n hx hb dX4_fewestSounds_15 rfl (lv_at hl 0 rfl) ?_
  refine vp_callSi (mkSr (rest := []) ⟨hx, hb, hml, hown, htl⟩ hN hK (c_J_ibc l G cs 20) (cS 1 htl lk_RX4_62 mT_J6_bitCount_0f7a4 mN_RJ6 mC_J6_bitCount_0f7a4 ok_J6_bitCount_0f7a4 rfl rfl ⟨(Nat.le_of_ble_eq_true rfl), (Nat.le_of_ble_eq_true rfl)⟩) rfl hl.1 rfl (Nat.le_of_ble_eq_true rfl) dX4_fewestSounds_16 ⟨(Nat.le_of_ble_eq_true rfl), (Nat.le_of_ble_eq_true rfl)⟩) (fun r hw => ?_)
  obtain rfl : r = 2 := hw.trans (by first | decide +kernel | rfl)
  refine lv_iload_n hx hb dX4_fewestSounds_19 rfl (lv_at hl 2 rfl) ?_
  refine vp_callSi (mkSr (rest := [.int 2]) ⟨hx, hb, hml, hown, htl⟩ hN hK (c_J_ibc l G cs 0) (cS 1 htl lk_RX4_62 mT_J6_bitCount_0f7a4 mN_RJ6 mC_J6_bitCount_0f7a4 ok_J6_bitCount_0f7a4 rfl rfl ⟨(Nat.le_of_ble_eq_true rfl), (Nat.le_of_ble_eq_true rfl)⟩) rfl hl.1 rfl (Nat.le_of_ble_eq_true rfl) dX4_fewestSounds_20 ⟨(Nat.le_of_ble_eq_true rfl), (Nat.le_of_ble_eq_true rfl)⟩) (fun r hw => ?_)
  obtain rfl : r = 0 := hw.trans (by first | decide +kernel | rfl)
  refine lv_icmp_ge (tgt := 30) hx hb dX4_fewestSounds_23 (by decide) (fun _ => ?_) (fun h => absurd (by decide) h)
  refine lv_iconst (v := 0) hx hb dX4_fewestSounds_30 (by decide) ?_
  refine lv_istore_n (lv' := [(3, .int 0), (2, .int 20), (1, .int 0), (0, .ref h0)]) hx hb dX4_fewestSounds_31 rfl hl (by decide) rfl (fun ls hl => ?_)
  refine lv_iload_n hx hb dX4_fewestSounds_32 rfl (lv_at hl 0 rfl) ?_
  refine lv_if_eq (tgt := 46) hx hb dX4_fewestSounds_33 (by decide) (fun _ => ?_) (fun h => absurd (by decide) h)
  refine lv_iinc (v := 21) (lv' := [(2, .int 21), (3, .int 0), (1, .int 0), (0, .ref h0)]) hx hb dX4_fewestSounds_46 hl (k := 1) rfl (by first | rfl | decide) (by decide) rfl (fun ls hl => ?_)
  refine lv_goto (tgt := 4) hx hb dX4_fewestSounds_49 (by decide) ?_
  refine lv_iload_n hx hb dX4_fewestSounds_4 rfl (lv_at hl 0 rfl) ?_
  refine lv_bipush (v := 64) hx hb dX4_fewestSounds_5 (by decide) ?_
  refine lv_icmp_ge (tgt := 52) hx hb dX4_fewestSounds_7 (by decide) (fun h => absurd h (by decide)) (fun _ => ?_)
  refine lv_iload_n hx hb dX4_fewestSounds_10 rfl (lv_at hl 2 rfl) ?_
  refine lv_iconst (v := (-1)) hx hb dX4_fewestSounds_11 (by decide) ?_
  refine lv_icmp_eq (tgt := 26) hx hb dX4_fewestSounds_12 (by decide) (fun h => absurd h (by decide)) (fun _ => ?_)
  refine lv_iload_n hx hb dX4_fewestSounds_15 rfl (lv_at hl 0 rfl) ?_
  refine vp_callSi (mkSr (rest := []) ⟨hx, hb, hml, hown, htl⟩ hN hK (c_J_ibc l G cs 21) (cS 1 htl lk_RX4_62 mT_J6_bitCount_0f7a4 mN_RJ6 mC_J6_bitCount_0f7a4 ok_J6_bitCount_0f7a4 rfl rfl ⟨(Nat.le_of_ble_eq_true rfl), (Nat.le_of_ble_eq_true rfl)⟩) rfl hl.1 rfl (Nat.le_of_ble_eq_true rfl) dX4_fewestSounds_16 ⟨(Nat.le_of_ble_eq_true rfl), (Nat.le_of_ble_eq_true rfl)⟩) (fun r hw => ?_)
  obtain rfl : r = 3 := hw.trans (by first | decide +kernel | rfl)
  refine lv_iload_n hx hb dX4_fewestSounds_19 rfl (lv_at hl 2 rfl) ?_
  refine vp_callSi (mkSr (rest := [.int 3]) ⟨hx, hb, hml, hown, htl⟩ hN hK (c_J_ibc l G cs 0) (cS 1 htl lk_RX4_62 mT_J6_bitCount_0f7a4 mN_RJ6 mC_J6_bitCount_0f7a4 ok_J6_bitCount_0f7a4 rfl rfl ⟨(Nat.le_of_ble_eq_true rfl), (Nat.le_of_ble_eq_true rfl)⟩) rfl hl.1 rfl (Nat.le_of_ble_eq_true rfl) dX4_fewestSounds_20 ⟨(Nat.le_of_ble_eq_true rfl), (Nat.le_of_ble_eq_true rfl)⟩) (fun r hw => ?_)
  obtain rfl : r = 0 := hw.trans (by first | decide +kernel | rfl)
  refine lv_icmp_ge (tgt := 30) hx hb dX4_fewestSounds_23 (by decide) (fun _ => ?_) (fun h => absurd (by decide) h)
  refine lv_iconst (v := 0) hx hb dX4_fewestSounds_30 (by decide) ?_
  refine lv_istore_n (lv' := [(3, .int 0), (2, .int 21), (1, .int 0), (0, .ref h0)]) hx hb dX4_fewestSounds_31 rfl hl (by decide) rfl (fun ls hl => ?_)
  refine lv_iload_n hx hb dX4_fewestSounds_32 rfl (lv_at hl 0 rfl) ?_
  refine lv_if_eq (tgt := 46) hx hb dX4_fewestSounds_33 (by decide) (fun _ => ?_) (fun h => absurd (by decide) h)
  refine lv_iinc (v := 22) (lv' := [(2, .int 22), (3, .int 0), (1, .int 0), (0, .ref h0)]) hx hb dX4_fewestSounds_46 hl (k := 1) rfl (by first | rfl | decide) (by decide) rfl (fun ls hl => ?_)
  refine lv_goto (tgt := 4) hx hb dX4_fewestSounds_49 (by decide) ?_
  refine lv_iload_n hx hb dX4_fewestSounds_4 rfl (lv_at hl 0 rfl) ?_
  refine lv_bipush (v := 64) hx hb dX4_fewestSounds_5 (by decide) ?_
  refine lv_icmp_ge (tgt := 52) hx hb dX4_fewestSounds_7 (by decide) (fun h => absurd h (by decide)) (fun _ => ?_)
  refine lv_iload_n hx hb dX4_fewestSounds_10 rfl (lv_at hl 2 rfl) ?_
  refine lv_iconst (v := (-1)) hx hb dX4_fewestSounds_11 (by decide) ?_
  refine lv_icmp_eq (tgt := 26) hx hb dX4_fewestSounds_12 (by decide) (fun h => absurd h (by decide)) (fun _ => ?_)
  refine lv_iload_n hx hb dX4_fewestSounds_15 rfl (lv_at hl 0 rfl) ?_
  refine vp_callSi (mkSr (rest := []) ⟨hx, hb, hml, hown, htl⟩ hN hK (c_J_ibc l G cs 22) (cS 1 htl lk_RX4_62 mT_J6_bitCount_0f7a4 mN_RJ6 mC_J6_bitCount_0f7a4 ok_J6_bitCount_0f7a4 rfl rfl ⟨(Nat.le_of_ble_eq_true rfl), (Nat.le_of_ble_eq_true rfl)⟩) rfl hl.1 rfl (Nat.le_of_ble_eq_true rfl) dX4_fewestSounds_16 ⟨(Nat.le_of_ble_eq_true rfl), (Nat.le_of_ble_eq_true rfl)⟩) (fun r hw => ?_)
  obtain rfl : r = 3 := hw.trans (by first | decide +kernel | rfl)
  refine lv_iload_n hx hb dX4_fewestSounds_19 rfl (lv_at hl 2 rfl) ?_
  refine vp_callSi (mkSr (rest := [.int 3]) ⟨hx, hb, hml, hown, htl⟩ hN hK (c_J_ibc l G cs 0) (cS 1 htl lk_RX4_62 mT_J6_bitCount_0f7a4 mN_RJ6 mC_J6_bitCount_0f7a4 ok_J6_bitCount_0f7a4 rfl rfl ⟨(Nat.le_of_ble_eq_true rfl), (Nat.le_of_ble_eq_true rfl)⟩) rfl hl.1 rfl (Nat.le_of_ble_eq_true rfl) dX4_fewestSounds_20 ⟨(Nat.le_of_ble_eq_true rfl), (Nat.le_of_ble_eq_true rfl)⟩) (fun r hw => ?_)
  obtain rfl : r = 0 := hw.trans (by first | decide +kernel | rfl)
  refine lv_icmp_ge (tgt := 30) hx hb dX4_fewestSounds_23 (by decide) (fun _ => ?_) (fun h => absurd (by decide) h)
  refine lv_iconst (v := 0) hx hb dX4_fewestSounds_30 (by decide) ?_
  refine lv_istore_n (lv' := [(3, .int 0), (2, .int 22), (1, .int 0), (0, .ref h0)]) hx hb dX4_fewestSounds_31 rfl hl (by decide) rfl (fun ls hl => ?_)
  refine lv_iload_n hx hb dX4_fewestSounds_32 rfl (lv_at hl 0 rfl) ?_
  refine lv_if_eq (tgt := 46) hx hb dX4_fewestSounds_33 (by decide) (fun _ => ?_) (fun h => absurd (by decide) h)
  refine lv_iinc (v := 23) (lv' := [(2, .int 23), (3, .int 0), (1, .int 0), (0, .ref h0)]) hx hb dX4_fewestSounds_46 hl (k := 1) rfl (by first | rfl | decide) (by decide) rfl (fun ls hl => ?_)
  refine lv_goto (tgt := 4) hx hb dX4_fewestSounds_49 (by decide) ?_
  refine lv_iload_n hx hb dX4_fewestSounds_4 rfl (lv_at hl 0 rfl) ?_
  refine lv_bipush (v := 64) hx hb dX4_fewestSounds_5 (by decide) ?_
  refine lv_icmp_ge (tgt := 52) hx hb dX4_fewestSounds_7 (by decide) (fun h => absurd h (by decide)) (fun _ => ?_)
  refine lv_iload_n hx hb dX4_fewestSounds_10 rfl (lv_at hl 2 rfl) ?_
  refine lv_iconst (v := (-1)) hx hb dX4_fewestSounds_11 (by decide) ?_
  refine lv_icmp_eq (tgt := 26) hx hb dX4_fewestSounds_12 (by decide) (fun h => absurd h (by decide)) (fun _ => ?_)
  refine lv_iload_n hx hb dX4_fewestSounds_15 rfl (lv_at hl 0 rfl) ?_
  refine vp_callSi (mkSr (rest := []) ⟨hx, hb, hml, hown, htl⟩ hN hK (c_J_ibc l G cs 23) (cS 1 htl lk_RX4_62 mT_J6_bitCount_0f7a4 mN_RJ6 mC_J6_bitCount_0f7a4 ok_J6_bitCount_0f7a4 rfl rfl ⟨(Nat.le_of_ble_eq_true rfl), (Nat.le_of_ble_eq_true rfl)⟩) rfl hl.1 rfl (Nat.le_of_ble_eq_true rfl) dX4_fewestSounds_16 ⟨(Nat.le_of_ble_eq_true rfl), (Nat.le_of_ble_eq_true rfl)⟩) (fun r hw => ?_)
  obtain rfl : r = 4 := hw.trans (by first | decide +kernel | rfl)
  refine lv_iload_n hx hb dX4_fewestSounds_19 rfl (lv_at hl 2 rfl) ?_
  refine vp_callSi (mkSr (rest := [.int 4]) ⟨hx, hb, hml, hown, htl⟩ hN hK (c_J_ibc l G cs 0) (cS 1 htl lk_RX4_62 mT_J6_bitCount_0f7a4 mN_RJ6 mC_J6_bitCount_0f7a4 ok_J6_bitCount_0f7a4 rfl rfl ⟨(Nat.le_of_ble_eq_true rfl), (Nat.le_of_ble_eq_true rfl)⟩) rfl hl.1 rfl (Nat.le_of_ble_eq_true rfl) dX4_fewestSounds_20 ⟨(Nat.le_of_ble_eq_true rfl), (Nat.le_of_ble_eq_true rfl)⟩) (fun r hw => ?_)
  obtain rfl : r = 0 := hw.trans (by first | decide +kernel | rfl)
  refine lv_icmp_ge (tgt := 30) hx hb dX4_fewestSounds_23 (by decide) (fun _ => ?_) (fun h => absurd (by decide) h)
  refine lv_iconst (v := 0) hx hb dX4_fewestSounds_30 (by decide) ?_
  refine lv_istore_n (lv' := [(3, .int 0), (2, .int 23), (1, .int 0), (0, .ref h0)]) hx hb dX4_fewestSounds_31 rfl hl (by decide) rfl (fun ls hl => ?_)
  refine lv_iload_n hx hb dX4_fewestSounds_32 rfl (lv_at hl 0 rfl) ?_
  refine lv_if_eq (tgt := 46) hx hb dX4_fewestSounds_33 (by decide) (fun _ => ?_) (fun h => absurd (by decide) h)
  refine lv_iinc (v := 24) (lv' := [(2, .int 24), (3, .int 0), (1, .int 0), (0, .ref h0)]) hx hb dX4_fewestSounds_46 hl (k := 1) rfl (by first | rfl | decide) (by decide) rfl (fun ls hl => ?_)
  refine lv_goto (tgt := 4) hx hb dX4_fewestSounds_49 (by decide) ?_
  refine lv_iload_n hx hb dX4_fewestSounds_4 rfl (lv_at hl 0 rfl) ?_
  refine lv_bipush (v := 64) hx hb dX4_fewestSounds_5 (by decide) ?_
  refine lv_icmp_ge (tgt := 52) hx hb dX4_fewestSounds_7 (by decide) (fun h => absurd h (by decide)) (fun _ => ?_)
  refine lv_iload_n hx hb dX4_fewestSounds_10 rfl (lv_at hl 2 rfl) ?_
  refine lv_iconst (v := (-1)) hx hb dX4_fewestSounds_11 (by decide) ?_
  refine lv_icmp_eq (tgt := 26) hx hb dX4_fewestSounds_12 (by decide) (fun h => absurd h (by decide)) (fun _ => ?_)
  refine lv_iload_n hx hb dX4_fewestSounds_15 rfl (lv_at hl 0 rfl) ?_
  refine vp_callSi (mkSr (rest := []) ⟨hx, hb, hml, hown, htl⟩ hN hK (c_J_ibc l G cs 24) (cS 1 htl lk_RX4_62 mT_J6_bitCount_0f7a4 mN_RJ6 mC_J6_bitCount_0f7a4 ok_J6_bitCount_0f7a4 rfl rfl ⟨(Nat.le_of_ble_eq_true rfl), (Nat.le_of_ble_eq_true rfl)⟩) rfl hl.1 rfl (Nat.le_of_ble_eq_true rfl) dX4_fewestSounds_16 ⟨(Nat.le_of_ble_eq_true rfl), (Nat.le_of_ble_eq_true rfl)⟩) (fun r hw => ?_)
  obtain rfl : r = 2 := hw.trans (by first | decide +kernel | rfl)
  refine lv_iload_n hx hb dX4_fewestSounds_19 rfl (lv_at hl 2 rfl) ?_
  refine vp_callSi (mkSr (rest := [.int 2]) ⟨hx, hb, hml, hown, htl⟩ hN hK (c_J_ibc l G cs 0) (cS 1 htl lk_RX4_62 mT_J6_bitCount_0f7a4 mN_RJ6 mC_J6_bitCount_0f7a4 ok_J6_bitCount_0f7a4 rfl rfl ⟨(Nat.le_of_ble_eq_true rfl), (Nat.le_of_ble_eq_true rfl)⟩) rfl hl.1 rfl (Nat.le_of_ble_eq_true rfl) dX4_fewestSounds_20 ⟨(Nat.le_of_ble_eq_true rfl), (Nat.le_of_ble_eq_true rfl)⟩) (fun r hw => ?_)
  obtain rfl : r = 0 := hw.trans (by first | decide +kernel | rfl)
  refine lv_icmp_ge (tgt := 30) hx hb dX4_fewestSounds_23 (by decide) (fun _ => ?_) (fun h => absurd (by decide) h)
  refine lv_iconst (v := 0) hx hb dX4_fewestSounds_30 (by decide) ?_
  refine lv_istore_n (lv' := [(3, .int 0), (2, .int 24), (1, .int 0), (0, .ref h0)]) hx hb dX4_fewestSounds_31 rfl hl (by decide) rfl (fun ls hl => ?_)
  refine lv_iload_n hx hb dX4_fewestSounds_32 rfl (lv_at hl 0 rfl) ?_
  refine lv_if_eq (tgt := 46) hx hb dX4_fewestSounds_33 (by decide) (fun _ => ?_) (fun h => absurd (by decide) h)
  refine lv_iinc (v := 25) (lv' := [(2, .int 25), (3, .int 0), (1, .int 0), (0, .ref h0)]) hx hb dX4_fewestSounds_46 hl (k := 1) rfl (by first | rfl | decide) (by decide) rfl (fun ls hl => ?_)
  refine lv_goto (tgt := 4) hx hb dX4_fewestSounds_49 (by decide) ?_
  refine lv_iload_n hx hb dX4_fewestSounds_4 rfl (lv_at hl 0 rfl) ?_
  refine lv_bipush (v := 64) hx hb dX4_fewestSounds_5 (by decide) ?_
  refine lv_icmp_ge (tgt := 52) hx hb dX4_fewestSounds_7 (by decide) (fun h => absurd h (by decide)) (fun _ => ?_)
  refine lv_iload_n hx hb dX4_fewestSounds_10 rfl (lv_at hl 2 rfl) ?_
  refine lv_iconst (v := (-1)) hx hb dX4_fewestSounds_11 (by decide) ?_
  refine lv_icmp_eq (tgt := 26) hx hb dX4_fewestSounds_12 (by decide) (fun h => absurd h (by decide)) (fun _ => ?_)
  refine lv_iload_n hx hb dX4_fewestSounds_15 rfl (lv_at hl 0 rfl) ?_
  refine vp_callSi (mkSr (rest := []) ⟨hx, hb, hml, hown, htl⟩ hN hK (c_J_ibc l G cs 25) (cS 1 htl lk_RX4_62 mT_J6_bitCount_0f7a4 mN_RJ6 mC_J6_bitCount_0f7a4 ok_J6_bitCount_0f7a4 rfl rfl ⟨(Nat.le_of_ble_eq_true rfl), (Nat.le_of_ble_eq_true rfl)⟩) rfl hl.1 rfl (Nat.le_of_ble_eq_true rfl) dX4_fewestSounds_16 ⟨(Nat.le_of_ble_eq_true rfl), (Nat.le_of_ble_eq_true rfl)⟩) (fun r hw => ?_)
  obtain rfl : r = 3 := hw.trans (by first | decide +kernel | rfl)
  refine lv_iload_n hx hb dX4_fewestSounds_19 rfl (lv_at hl 2 rfl) ?_
  refine vp_callSi (mkSr (rest := [.int 3]) ⟨hx, hb, hml, hown, htl⟩ hN hK (c_J_ibc l G cs 0) (cS 1 htl lk_RX4_62 mT_J6_bitCount_0f7a4 mN_RJ6 mC_J6_bitCount_0f7a4 ok_J6_bitCount_0f7a4 rfl rfl ⟨(Nat.le_of_ble_eq_true rfl), (Nat.le_of_ble_eq_true rfl)⟩) rfl hl.1 rfl (Nat.le_of_ble_eq_true rfl) dX4_fewestSounds_20 ⟨(Nat.le_of_ble_eq_true rfl), (Nat.le_of_ble_eq_true rfl)⟩) (fun r hw => ?_)
  obtain rfl : r = 0 := hw.trans (by first | decide +kernel | rfl)
  refine lv_icmp_ge (tgt := 30) hx hb dX4_fewestSounds_23 (by decide) (fun _ => ?_) (fun h => absurd (by decide) h)
  refine lv_iconst (v := 0) hx hb dX4_fewestSounds_30 (by decide) ?_
  refine lv_istore_n (lv' := [(3, .int 0), (2, .int 25), (1, .int 0), (0, .ref h0)]) hx hb dX4_fewestSounds_31 rfl hl (by decide) rfl (fun ls hl => ?_)
  refine lv_iload_n hx hb dX4_fewestSounds_32 rfl (lv_at hl 0 rfl) ?_
  refine lv_if_eq (tgt := 46) hx hb dX4_fewestSounds_33 (by decide) (fun _ => ?_) (fun h => absurd (by decide) h)
  refine lv_iinc (v := 26) (lv' := [(2, .int 26), (3, .int 0), (1, .int 0), (0, .ref h0)]) hx hb dX4_fewestSounds_46 hl (k := 1) rfl (by first | rfl | decide) (by decide) rfl (fun ls hl => ?_)
  refine lv_goto (tgt := 4) hx hb dX4_fewestSounds_49 (by decide) ?_
  refine lv_iload_n hx hb dX4_fewestSounds_4 rfl (lv_at hl 0 rfl) ?_
  refine lv_bipush (v := 64) hx hb dX4_fewestSounds_5 (by decide) ?_
  refine lv_icmp_ge (tgt := 52) hx hb dX4_fewestSounds_7 (by decide) (fun h => absurd h (by decide)) (fun _ => ?_)
  refine lv_iload_n hx hb dX4_fewestSounds_10 rfl (lv_at hl 2 rfl) ?_
  refine lv_iconst (v := (-1)) hx hb dX4_fewestSounds_11 (by decide) ?_
  refine lv_icmp_eq (tgt := 26) hx hb dX4_fewestSounds_12 (by decide) (fun h => absurd h (by decide)) (fun _ => ?_)
  refine lv_iload_n hx hb dX4_fewestSounds_15 rfl (lv_at hl 0 rfl) ?_
  refine vp_callSi (mkSr (rest := []) ⟨hx, hb, hml, hown, htl⟩ hN hK (c_J_ibc l G cs 26) (cS 1 htl lk_RX4_62 mT_J6_bitCount_0f7a4 mN_RJ6 mC_J6_bitCount_0f7a4 ok_J6_bitCount_0f7a4 rfl rfl ⟨(Nat.le_of_ble_eq_true rfl), (Nat.le_of_ble_eq_true rfl)⟩) rfl hl.1 rfl (Nat.le_of_ble_eq_true rfl) dX4_fewestSounds_16 ⟨(Nat.le_of_ble_eq_true rfl), (Nat.le_of_ble_eq_true rfl)⟩) (fun r hw => ?_)
  obtain rfl : r = 3 := hw.trans (by first | decide +kernel | rfl)
  refine lv_iload_n hx hb dX4_fewestSounds_19 rfl (lv_at hl 2 rfl) ?_
  refine vp_callSi (mkSr (rest := [.int 3]) ⟨hx, hb, hml, hown, htl⟩ hN hK (c_J_ibc l G cs 0) (cS 1 htl lk_RX4_62 mT_J6_bitCount_0f7a4 mN_RJ6 mC_J6_bitCount_0f7a4 ok_J6_bitCount_0f7a4 rfl rfl ⟨(Nat.le_of_ble_eq_true rfl), (Nat.le_of_ble_eq_true rfl)⟩) rfl hl.1 rfl (Nat.le_of_ble_eq_true rfl) dX4_fewestSounds_20 ⟨(Nat.le_of_ble_eq_true rfl), (Nat.le_of_ble_eq_true rfl)⟩) (fun r hw => ?_)
  obtain rfl : r = 0 := hw.trans (by first | decide +kernel | rfl)
  refine lv_icmp_ge (tgt := 30) hx hb dX4_fewestSounds_23 (by decide) (fun _ => ?_) (fun h => absurd (by decide) h)
  refine lv_iconst (v := 0) hx hb dX4_fewestSounds_30 (by decide) ?_
  refine lv_istore_n (lv' := [(3, .int 0), (2, .int 26), (1, .int 0), (0, .ref h0)]) hx hb dX4_fewestSounds_31 rfl hl (by decide) rfl (fun ls hl => ?_)
  refine lv_iload_n hx hb dX4_fewestSounds_32 rfl (lv_at hl 0 rfl) ?_
  refine lv_if_eq (tgt := 46) hx hb dX4_fewestSounds_33 (by decide) (fun _ => ?_) (fun h => absurd (by decide) h)
  refine lv_iinc (v := 27) (lv' := [(2, .int 27), (3, .int 0), (1, .int 0), (0, .ref h0)]) hx hb dX4_fewestSounds_46 hl (k := 1) rfl (by first | rfl | decide) (by decide) rfl (fun ls hl => ?_)
  refine lv_goto (tgt := 4) hx hb dX4_fewestSounds_49 (by decide) ?_
  refine lv_iload_n hx hb dX4_fewestSounds_4 rfl (lv_at hl 0 rfl) ?_
  refine lv_bipush (v := 64) hx hb dX4_fewestSounds_5 (by decide) ?_
  refine lv_icmp_ge (tgt := 52) hx hb dX4_fewestSounds_7 (by decide) (fun h => absurd h (by decide)) (fun _ => ?_)
  refine lv_iload_n hx hb dX4_fewestSounds_10 rfl (lv_at hl 2 rfl) ?_
  refine lv_iconst (v := (-1)) hx hb dX4_fewestSounds_11 (by decide) ?_
  refine lv_icmp_eq (tgt := 26) hx hb dX4_fewestSounds_12 (by decide) (fun h => absurd h (by decide)) (fun _ => ?_)
  refine lv_iload_n hx hb dX4_fewestSounds_15 rfl (lv_at hl 0 rfl) ?_
  refine vp_callSi (mkSr (rest := []) ⟨hx, hb, hml, hown, htl⟩ hN hK (c_J_ibc l G cs 27) (cS 1 htl lk_RX4_62 mT_J6_bitCount_0f7a4 mN_RJ6 mC_J6_bitCount_0f7a4 ok_J6_bitCount_0f7a4 rfl rfl ⟨(Nat.le_of_ble_eq_true rfl), (Nat.le_of_ble_eq_true rfl)⟩) rfl hl.1 rfl (Nat.le_of_ble_eq_true rfl) dX4_fewestSounds_16 ⟨(Nat.le_of_ble_eq_true rfl), (Nat.le_of_ble_eq_true rfl)⟩) (fun r hw => ?_)
  obtain rfl : r = 4 := hw.trans (by first | decide +kernel | rfl)
  refine lv_iload_n hx hb dX4_fewestSounds_19 rfl (lv_at hl 2 rfl) ?_
  refine vp_callSi (mkSr (rest := [.int 4]) ⟨hx, hb, hml, hown, htl⟩ hN hK (c_J_ibc l G cs 0) (cS 1 htl lk_RX4_62 mT_J6_bitCount_0f7a4 mN_RJ6 mC_J6_bitCount_0f7a4 ok_J6_bitCount_0f7a4 rfl rfl ⟨(Nat.le_of_ble_eq_true rfl), (Nat.le_of_ble_eq_true rfl)⟩) rfl hl.1 rfl (Nat.le_of_ble_eq_true rfl) dX4_fewestSounds_20 ⟨(Nat.le_of_ble_eq_true rfl), (Nat.le_of_ble_eq_true rfl)⟩) (fun r hw => ?_)
  obtain rfl : r = 0 := hw.trans (by first | decide +kernel | rfl)
  refine lv_icmp_ge (tgt := 30) hx hb dX4_fewestSounds_23 (by decide) (fun _ => ?_) (fun h => absurd (by decide) h)
  refine lv_iconst (v := 0) hx hb dX4_fewestSounds_30 (by decide) ?_
  refine lv_istore_n (lv' := [(3, .int 0), (2, .int 27), (1, .int 0), (0, .ref h0)]) hx hb dX4_fewestSounds_31 rfl hl (by decide) rfl (fun ls hl => ?_)
  refine lv_iload_n hx hb dX4_fewestSounds_32 rfl (lv_at hl 0 rfl) ?_
  refine lv_if_eq (tgt := 46) hx hb dX4_fewestSounds_33 (by decide) (fun _ => ?_) (fun h => absurd (by decide) h)
  refine lv_iinc (v := 28) (lv' := [(2, .int 28), (3, .int 0), (1, .int 0), (0, .ref h0)]) hx hb dX4_fewestSounds_46 hl (k := 1) rfl (by first | rfl | decide) (by decide) rfl (fun ls hl => ?_)
  refine lv_goto (tgt := 4) hx hb dX4_fewestSounds_49 (by decide) ?_
  refine lv_iload_n hx hb dX4_fewestSounds_4 rfl (lv_at hl 0 rfl) ?_
  refine lv_bipush (v := 64) hx hb dX4_fewestSounds_5 (by decide) ?_
  refine lv_icmp_ge (tgt := 52) hx hb dX4_fewestSounds_7 (by decide) (fun h => absurd h (by decide)) (fun _ => ?_)
  refine lv_iload_n hx hb dX4_fewestSounds_10 rfl (lv_at hl 2 rfl) ?_
  refine lv_iconst (v := (-1)) hx hb dX4_fewestSounds_11 (by decide) ?_
  refine lv_icmp_eq (tgt := 26) hx hb dX4_fewestSounds_12 (by decide) (fun h => absurd h (by decide)) (fun _ => ?_)
  refine lv_iload_n hx hb dX4_fewestSounds_15 rfl (lv_at hl 0 rfl) ?_
  refine vp_callSi (mkSr (rest := []) ⟨hx, hb, hml, hown, htl⟩ hN hK (c_J_ibc l G cs 28) (cS 1 htl lk_RX4_62 mT_J6_bitCount_0f7a4 mN_RJ6 mC_J6_bitCount_0f7a4 ok_J6_bitCount_0f7a4 rfl rfl ⟨(Nat.le_of_ble_eq_true rfl), (Nat.le_of_ble_eq_true rfl)⟩) rfl hl.1 rfl (Nat.le_of_ble_eq_true rfl) dX4_fewestSounds_16 ⟨(Nat.le_of_ble_eq_true rfl), (Nat.le_of_ble_eq_true rfl)⟩) (fun r hw => ?_)
  obtain rfl : r = 3 := hw.trans (by first | decide +kernel | rfl)
  refine lv_iload_n hx hb dX4_fewestSounds_19 rfl (lv_at hl 2 rfl) ?_
  refine vp_callSi (mkSr (rest := [.int 3]) ⟨hx, hb, hml, hown, htl⟩ hN hK (c_J_ibc l G cs 0) (cS 1 htl lk_RX4_62 mT_J6_bitCount_0f7a4 mN_RJ6 mC_J6_bitCount_0f7a4 ok_J6_bitCount_0f7a4 rfl rfl ⟨(Nat.le_of_ble_eq_true rfl), (Nat.le_of_ble_eq_true rfl)⟩) rfl hl.1 rfl (Nat.le_of_ble_eq_true rfl) dX4_fewestSounds_20 ⟨(Nat.le_of_ble_eq_true rfl), (Nat.le_of_ble_eq_true rfl)⟩) (fun r hw => ?_)
  obtain rfl : r = 0 := hw.trans (by first | decide +kernel | rfl)
  refine lv_icmp_ge (tgt := 30) hx hb dX4_fewestSounds_23 (by decide) (fun _ => ?_) (fun h => absurd (by decide) h)
  refine lv_iconst (v := 0) hx hb dX4_fewestSounds_30 (by decide) ?_
  refine lv_istore_n (lv' := [(3, .int 0), (2, .int 28), (1, .int 0), (0, .ref h0)]) hx hb dX4_fewestSounds_31 rfl hl (by decide) rfl (fun ls hl => ?_)
  refine lv_iload_n hx hb dX4_fewestSounds_32 rfl (lv_at hl 0 rfl) ?_
  refine lv_if_eq (tgt := 46) hx hb dX4_fewestSounds_33 (by decide) (fun _ => ?_) (fun h => absurd (by decide) h)
  refine lv_iinc (v := 29) (lv' := [(2, .int 29), (3, .int 0), (1, .int 0), (0, .ref h0)]) hx hb dX4_fewestSounds_46 hl (k := 1) rfl (by first | rfl | decide) (by decide) rfl (fun ls hl => ?_)
  refine lv_goto (tgt := 4) hx hb dX4_fewestSounds_49 (by decide) ?_
  refine lv_iload_n hx hb dX4_fewestSounds_4 rfl (lv_at hl 0 rfl) ?_
  refine lv_bipush (v := 64) hx hb dX4_fewestSounds_5 (by decide) ?_
  refine lv_icmp_ge (tgt := 52) hx hb dX4_fewestSounds_7 (by decide) (fun h => absurd h (by decide)) (fun _ => ?_)
  refine lv_iload_n hx hb dX4_fewestSounds_10 rfl (lv_at hl 2 rfl) ?_
  refine lv_iconst (v := (-1)) hx hb dX4_fewestSounds_11 (by decide) ?_
  refine lv_icmp_eq (tgt := 26) hx hb dX4_fewestSounds_12 (by decide) (fun h => absurd h (by decide)) (fun _ => ?_)
  refine lv_iload_n hx hb dX4_fewestSounds_15 rfl (lv_at hl 0 rfl) ?_
  refine vp_callSi (mkSr (rest := []) ⟨hx, hb, hml, hown, htl⟩ hN hK (c_J_ibc l G cs 29) (cS 1 htl lk_RX4_62 mT_J6_bitCount_0f7a4 mN_RJ6 mC_J6_bitCount_0f7a4 ok_J6_bitCount_0f7a4 rfl rfl ⟨(Nat.le_of_ble_eq_true rfl), (Nat.le_of_ble_eq_true rfl)⟩) rfl hl.1 rfl (Nat.le_of_ble_eq_true rfl) dX4_fewestSounds_16 ⟨(Nat.le_of_ble_eq_true rfl), (Nat.le_of_ble_eq_true rfl)⟩) (fun r hw => ?_)
  obtain rfl : r = 4 := hw.trans (by first | decide +kernel | rfl)
  refine lv_iload_n hx hb dX4_fewestSounds_19 rfl (lv_at hl 2 rfl) ?_
  refine vp_callSi (mkSr (rest := [.int 4]) ⟨hx, hb, hml, hown, htl⟩ hN hK (c_J_ibc l G cs 0) (cS 1 htl lk_RX4_62 mT_J6_bitCount_0f7a4 mN_RJ6 mC_J6_bitCount_0f7a4 ok_J6_bitCount_0f7a4 rfl rfl ⟨(Nat.le_of_ble_eq_true rfl), (Nat.le_of_ble_eq_true rfl)⟩) rfl hl.1 rfl (Nat.le_of_ble_eq_true rfl) dX4_fewestSounds_20 ⟨(Nat.le_of_ble_eq_true rfl), (Nat.le_of_ble_eq_true rfl)⟩) (fun r hw => ?_)
  obtain rfl : r = 0 := hw.trans (by first | decide +kernel | rfl)
  refine lv_icmp_ge (tgt := 30) hx hb dX4_fewestSounds_23 (by decide) (fun _ => ?_) (fun h => absurd (by decide) h)
  refine lv_iconst (v := 0) hx hb dX4_fewestSounds_30 (by decide) ?_
  refine lv_istore_n (lv' := [(3, .int 0), (2, .int 29), (1, .int 0), (0, .ref h0)]) hx hb dX4_fewestSounds_31 rfl hl (by decide) rfl (fun ls hl => ?_)
  refine lv_iload_n hx hb dX4_fewestSounds_32 rfl (lv_at hl 0 rfl) ?_
  refine lv_if_eq (tgt := 46) hx hb dX4_fewestSounds_33 (by decide) (fun _ => ?_) (fun h => absurd (by decide) h)
  refine lv_iinc (v := 30) (lv' := [(2, .int 30), (3, .int 0), (1, .int 0), (0, .ref h0)]) hx hb dX4_fewestSounds_46 hl (k := 1) rfl (by first | rfl | decide) (by decide) rfl (fun ls hl => ?_)
  refine lv_goto (tgt := 4) hx hb dX4_fewestSounds_49 (by decide) ?_
  refine lv_iload_n hx hb dX4_fewestSounds_4 rfl (lv_at hl 0 rfl) ?_
  refine lv_bipush (v := 64) hx hb dX4_fewestSounds_5 (by decide) ?_
  refine lv_icmp_ge (tgt := 52) hx hb dX4_fewestSounds_7 (by decide) (fun h => absurd h (by decide)) (fun _ => ?_)
  refine lv_iload_n hx hb dX4_fewestSounds_10 rfl (lv_at hl 2 rfl) ?_
  refine lv_iconst (v := (-1)) hx hb dX4_fewestSounds_11 (by decide) ?_
  refine lv_icmp_eq (tgt := 26) hx hb dX4_fewestSounds_12 (by decide) (fun h => absurd h (by decide)) (fun _ => ?_)
  refine lv_iload_n hx hb dX4_fewestSounds_15 rfl (lv_at hl 0 rfl) ?_
  refine vp_callSi (mkSr (rest := []) ⟨hx, hb, hml, hown, htl⟩ hN hK (c_J_ibc l G cs 30) (cS 1 htl lk_RX4_62 mT_J6_bitCount_0f7a4 mN_RJ6 mC_J6_bitCount_0f7a4 ok_J6_bitCount_0f7a4 rfl rfl ⟨(Nat.le_of_ble_eq_true rfl), (Nat.le_of_ble_eq_true rfl)⟩) rfl hl.1 rfl (Nat.le_of_ble_eq_true rfl) dX4_fewestSounds_16 ⟨(Nat.le_of_ble_eq_true rfl), (Nat.le_of_ble_eq_true rfl)⟩) (fun r hw => ?_)
  obtain rfl : r = 4 := hw.trans (by first | decide +kernel | rfl)
  refine lv_iload_n hx hb dX4_fewestSounds_19 rfl (lv_at hl 2 rfl) ?_
  refine vp_callSi (mkSr (rest := [.int 4]) ⟨hx, hb, hml, hown, htl⟩ hN hK (c_J_ibc l G cs 0) (cS 1 htl lk_RX4_62 mT_J6_bitCount_0f7a4 mN_RJ6 mC_J6_bitCount_0f7a4 ok_J6_bitCount_0f7a4 rfl rfl ⟨(Nat.le_of_ble_eq_true rfl), (Nat.le_of_ble_eq_true rfl)⟩) rfl hl.1 rfl (Nat.le_of_ble_eq_true rfl) dX4_fewestSounds_20 ⟨(Nat.le_of_ble_eq_true rfl), (Nat.le_of_ble_eq_true rfl)⟩) (fun r hw => ?_)
  obtain rfl : r = 0 := hw.trans (by first | decide +kernel | rfl)
  refine lv_icmp_ge (tgt := 30) hx hb dX4_fewestSounds_23 (by decide) (fun _ => ?_) (fun h => absurd (by decide) h)
  refine lv_iconst (v := 0) hx hb dX4_fewestSounds_30 (by decide) ?_
  refine lv_istore_n (lv' := [(3, .int 0), (2, .int 30), (1, .int 0), (0, .ref h0)]) hx hb dX4_fewestSounds_31 rfl hl (by decide) rfl (fun ls hl => ?_)
  refine lv_iload_n hx hb dX4_fewestSounds_32 rfl (lv_at hl 0 rfl) ?_
  refine lv_if_eq (tgt := 46) hx hb dX4_fewestSounds_33 (by decide) (fun _ => ?_) (fun h => absurd (by decide) h)
  refine lv_iinc (v := 31) (lv' := [(2, .int 31), (3, .int 0), (1, .int 0), (0, .ref h0)]) hx hb dX4_fewestSounds_46 hl (k := 1) rfl (by first | rfl | decide) (by decide) rfl (fun ls hl => ?_)
  refine lv_goto (tgt := 4) hx hb dX4_fewestSounds_49 (by decide) ?_
  refine lv_iload_n hx hb dX4_fewestSounds_4 rfl (lv_at hl 0 rfl) ?_
  refine lv_bipush (v := 64) hx hb dX4_fewestSounds_5 (by decide) ?_
  refine lv_icmp_ge (tgt := 52) hx hb dX4_fewestSounds_7 (by decide) (fun h => absurd h (by decide)) (fun _ => ?_)
  refine lv_iload_n hx hb dX4_fewestSounds_10 rfl (lv_at hl 2 rfl) ?_
  refine lv_iconst (v := (-1)) hx hb dX4_fewestSounds_11 (by decide) ?_
  refine lv_icmp_eq (tgt := 26) hx hb dX4_fewestSounds_12 (by decide) (fun h => absurd h (by decide)) (fun _ => ?_)
  refine lv_iload_n hx hb dX4_fewestSounds_15 rfl (lv_at hl 0 rfl) ?_
  refine vp_callSi (mkSr (rest := []) ⟨hx, hb, hml, hown, htl⟩ hN hK (c_J_ibc l G cs 31) (cS 1 htl lk_RX4_62 mT_J6_bitCount_0f7a4 mN_RJ6 mC_J6_bitCount_0f7a4 ok_J6_bitCount_0f7a4 rfl rfl ⟨(Nat.le_of_ble_eq_true rfl), (Nat.le_of_ble_eq_true rfl)⟩) rfl hl.1 rfl (Nat.le_of_ble_eq_true rfl) dX4_fewestSounds_16 ⟨(Nat.le_of_ble_eq_true rfl), (Nat.le_of_ble_eq_true rfl)⟩) (fun r hw => ?_)
  obtain rfl : r = 5 := hw.trans (by first | decide +kernel | rfl)
  refine lv_iload_n hx hb dX4_fewestSounds_19 rfl (lv_at hl 2 rfl) ?_
  refine vp_callSi (mkSr (rest := [.int 5]) ⟨hx, hb, hml, hown, htl⟩ hN hK (c_J_ibc l G cs 0) (cS 1 htl lk_RX4_62 mT_J6_bitCount_0f7a4 mN_RJ6 mC_J6_bitCount_0f7a4 ok_J6_bitCount_0f7a4 rfl rfl ⟨(Nat.le_of_ble_eq_true rfl), (Nat.le_of_ble_eq_true rfl)⟩) rfl hl.1 rfl (Nat.le_of_ble_eq_true rfl) dX4_fewestSounds_20 ⟨(Nat.le_of_ble_eq_true rfl), (Nat.le_of_ble_eq_true rfl)⟩) (fun r hw => ?_)
  obtain rfl : r = 0 := hw.trans (by first | decide +kernel | rfl)
  refine lv_icmp_ge (tgt := 30) hx hb dX4_fewestSounds_23 (by decide) (fun _ => ?_) (fun h => absurd (by decide) h)
  refine lv_iconst (v := 0) hx hb dX4_fewestSounds_30 (by decide) ?_
  refine lv_istore_n (lv' := [(3, .int 0), (2, .int 31), (1, .int 0), (0, .ref h0)]) hx hb dX4_fewestSounds_31 rfl hl (by decide) rfl (fun ls hl => ?_)
  refine lv_iload_n hx hb dX4_fewestSounds_32 rfl (lv_at hl 0 rfl) ?_
  refine lv_if_eq (tgt := 46) hx hb dX4_fewestSounds_33 (by decide) (fun _ => ?_) (fun h => absurd (by decide) h)
  refine lv_iinc (v := 32) (lv' := [(2, .int 32), (3, .int 0), (1, .int 0), (0, .ref h0)]) hx hb dX4_fewestSounds_46 hl (k := 1) rfl (by first | rfl | decide) (by decide) rfl (fun ls hl => ?_)
  refine lv_goto (tgt := 4) hx hb dX4_fewestSounds_49 (by decide) ?_
  refine lv_iload_n hx hb dX4_fewestSounds_4 rfl (lv_at hl 0 rfl) ?_
  refine lv_bipush (v := 64) hx hb dX4_fewestSounds_5 (by decide) ?_
  refine lv_icmp_ge (tgt := 52) hx hb dX4_fewestSounds_7 (by decide) (fun h => absurd h (by decide)) (fun _ => ?_)
  refine lv_iload_n hx hb dX4_fewestSounds_10 rfl (lv_at hl 2 rfl) ?_
  refine lv_iconst (v := (-1)) hx hb dX4_fewestSounds_11 (by decide) ?_
  refine lv_icmp_eq (tgt := 26) hx hb dX4_fewestSounds_12 (by decide) (fun h => absurd h (by decide)) (fun _ => ?_)
  refine lv_iload_n hx hb dX4_fewestSounds_15 rfl (lv_at hl 0 rfl) ?_
  refine vp_callSi (mkSr (rest := []) ⟨hx, hb, hml, hown, htl⟩ hN hK (c_J_ibc l G cs 32) (cS 1 htl lk_RX4_62 mT_J6_bitCount_0f7a4 mN_RJ6 mC_J6_bitCount_0f7a4 ok_J6_bitCount_0f7a4 rfl rfl ⟨(Nat.le_of_ble_eq_true rfl), (Nat.le_of_ble_eq_true rfl)⟩) rfl hl.1 rfl (Nat.le_of_ble_eq_true rfl) dX4_fewestSounds_16 ⟨(Nat.le_of_ble_eq_true rfl), (Nat.le_of_ble_eq_true rfl)⟩) (fun r hw => ?_)
  obtain rfl : r = 1 := hw.trans (by first | decide +kernel | rfl)
  refine lv_iload_n hx hb dX4_fewestSounds_19 rfl (lv_at hl 2 rfl) ?_
  refine vp_callSi (mkSr (rest := [.int 1]) ⟨hx, hb, hml, hown, htl⟩ hN hK (c_J_ibc l G cs 0) (cS 1 htl lk_RX4_62 mT_J6_bitCount_0f7a4 mN_RJ6 mC_J6_bitCount_0f7a4 ok_J6_bitCount_0f7a4 rfl rfl ⟨(Nat.le_of_ble_eq_true rfl), (Nat.le_of_ble_eq_true rfl)⟩) rfl hl.1 rfl (Nat.le_of_ble_eq_true rfl) dX4_fewestSounds_20 ⟨(Nat.le_of_ble_eq_true rfl), (Nat.le_of_ble_eq_true rfl)⟩) (fun r hw => ?_)
  obtain rfl : r = 0 := hw.trans (by first | decide +kernel | rfl)
  refine lv_icmp_ge (tgt := 30) hx hb dX4_fewestSounds_23 (by decide) (fun _ => ?_) (fun h => absurd (by decide) h)
  refine lv_iconst (v := 0) hx hb dX4_fewestSounds_30 (by decide) ?_
  refine lv_istore_n (lv' := [(3, .int 0), (2, .int 32), (1, .int 0), (0, .ref h0)]) hx hb dX4_fewestSounds_31 rfl hl (by decide) rfl (fun ls hl => ?_)
  refine lv_iload_n hx hb dX4_fewestSounds_32 rfl (lv_at hl 0 rfl) ?_
  refine lv_if_eq (tgt := 46) hx hb dX4_fewestSounds_33 (by decide) (fun _ => ?_) (fun h => absurd (by decide) h)
  refine lv_iinc (v := 33) (lv' := [(2, .int 33), (3, .int 0), (1, .int 0), (0, .ref h0)]) hx hb dX4_fewestSounds_46 hl (k := 1) rfl (by first | rfl | decide) (by decide) rfl (fun ls hl => ?_)
  refine lv_goto (tgt := 4) hx hb dX4_fewestSounds_49 (by decide) ?_
  refine lv_iload_n hx hb dX4_fewestSounds_4 rfl (lv_at hl 0 rfl) ?_
  refine lv_bipush (v := 64) hx hb dX4_fewestSounds_5 (by decide) ?_
  refine lv_icmp_ge (tgt := 52) hx hb dX4_fewestSounds_7 (by decide) (fun h => absurd h (by decide)) (fun _ => ?_)
  refine lv_iload_n hx hb dX4_fewestSounds_10 rfl (lv_at hl 2 rfl) ?_
  refine lv_iconst (v := (-1)) hx hb dX4_fewestSounds_11 (by decide) ?_
  refine lv_icmp_eq (tgt := 26) hx hb dX4_fewestSounds_12 (by decide) (fun h => absurd h (by decide)) (fun _ => ?_)
  refine lv_iload_n hx hb dX4_fewestSounds_15 rfl (lv_at hl 0 rfl) ?_
  refine vp_callSi (mkSr (rest := []) ⟨hx, hb, hml, hown, htl⟩ hN hK (c_J_ibc l G cs 33) (cS 1 htl lk_RX4_62 mT_J6_bitCount_0f7a4 mN_RJ6 mC_J6_bitCount_0f7a4 ok_J6_bitCount_0f7a4 rfl rfl ⟨(Nat.le_of_ble_eq_true rfl), (Nat.le_of_ble_eq_true rfl)⟩) rfl hl.1 rfl (Nat.le_of_ble_eq_true rfl) dX4_fewestSounds_16 ⟨(Nat.le_of_ble_eq_true rfl), (Nat.le_of_ble_eq_true rfl)⟩) (fun r hw => ?_)
  obtain rfl : r = 2 := hw.trans (by first | decide +kernel | rfl)
  refine lv_iload_n hx hb dX4_fewestSounds_19 rfl (lv_at hl 2 rfl) ?_
  refine vp_callSi (mkSr (rest := [.int 2]) ⟨hx, hb, hml, hown, htl⟩ hN hK (c_J_ibc l G cs 0) (cS 1 htl lk_RX4_62 mT_J6_bitCount_0f7a4 mN_RJ6 mC_J6_bitCount_0f7a4 ok_J6_bitCount_0f7a4 rfl rfl ⟨(Nat.le_of_ble_eq_true rfl), (Nat.le_of_ble_eq_true rfl)⟩) rfl hl.1 rfl (Nat.le_of_ble_eq_true rfl) dX4_fewestSounds_20 ⟨(Nat.le_of_ble_eq_true rfl), (Nat.le_of_ble_eq_true rfl)⟩) (fun r hw => ?_)
  obtain rfl : r = 0 := hw.trans (by first | decide +kernel | rfl)
  refine lv_icmp_ge (tgt := 30) hx hb dX4_fewestSounds_23 (by decide) (fun _ => ?_) (fun h => absurd (by decide) h)
  refine lv_iconst (v := 0) hx hb dX4_fewestSounds_30 (by decide) ?_
  refine lv_istore_n (lv' := [(3, .int 0), (2, .int 33), (1, .int 0), (0, .ref h0)]) hx hb dX4_fewestSounds_31 rfl hl (by decide) rfl (fun ls hl => ?_)
  refine lv_iload_n hx hb dX4_fewestSounds_32 rfl (lv_at hl 0 rfl) ?_
  refine lv_if_eq (tgt := 46) hx hb dX4_fewestSounds_33 (by decide) (fun _ => ?_) (fun h => absurd (by decide) h)
  refine lv_iinc (v := 34) (lv' := [(2, .int 34), (3, .int 0), (1, .int 0), (0, .ref h0)]) hx hb dX4_fewestSounds_46 hl (k := 1) rfl (by first | rfl | decide) (by decide) rfl (fun ls hl => ?_)
  refine lv_goto (tgt := 4) hx hb dX4_fewestSounds_49 (by decide) ?_
  refine lv_iload_n hx hb dX4_fewestSounds_4 rfl (lv_at hl 0 rfl) ?_
  refine lv_bipush (v := 64) hx hb dX4_fewestSounds_5 (by decide) ?_
  refine lv_icmp_ge (tgt := 52) hx hb dX4_fewestSounds_7 (by decide) (fun h => absurd h (by decide)) (fun _ => ?_)
  refine lv_iload_n hx hb dX4_fewestSounds_10 rfl (lv_at hl 2 rfl) ?_
  refine lv_iconst (v := (-1)) hx hb dX4_fewestSounds_11 (by decide) ?_
  refine lv_icmp_eq (tgt := 26) hx hb dX4_fewestSounds_12 (by decide) (fun h => absurd h (by decide)) (fun _ => ?_)
  refine lv_iload_n hx hb dX4_fewestSounds_15 rfl (lv_at hl 0 rfl) ?_
  refine vp_callSi (mkSr (rest := []) ⟨hx, hb, hml, hown, htl⟩ hN hK (c_J_ibc l G cs 34) (cS 1 htl lk_RX4_62 mT_J6_bitCount_0f7a4 mN_RJ6 mC_J6_bitCount_0f7a4 ok_J6_bitCount_0f7a4 rfl rfl ⟨(Nat.le_of_ble_eq_true rfl), (Nat.le_of_ble_eq_true rfl)⟩) rfl hl.1 rfl (Nat.le_of_ble_eq_true rfl) dX4_fewestSounds_16 ⟨(Nat.le_of_ble_eq_true rfl), (Nat.le_of_ble_eq_true rfl)⟩) (fun r hw => ?_)
  obtain rfl : r = 2 := hw.trans (by first | decide +kernel | rfl)
  refine lv_iload_n hx hb dX4_fewestSounds_19 rfl (lv_at hl 2 rfl) ?_
  refine vp_callSi (mkSr (rest := [.int 2]) ⟨hx, hb, hml, hown, htl⟩ hN hK (c_J_ibc l G cs 0) (cS 1 htl lk_RX4_62 mT_J6_bitCount_0f7a4 mN_RJ6 mC_J6_bitCount_0f7a4 ok_J6_bitCount_0f7a4 rfl rfl ⟨(Nat.le_of_ble_eq_true rfl), (Nat.le_of_ble_eq_true rfl)⟩) rfl hl.1 rfl (Nat.le_of_ble_eq_true rfl) dX4_fewestSounds_20 ⟨(Nat.le_of_ble_eq_true rfl), (Nat.le_of_ble_eq_true rfl)⟩) (fun r hw => ?_)
  obtain rfl : r = 0 := hw.trans (by first | decide +kernel | rfl)
  refine lv_icmp_ge (tgt := 30) hx hb dX4_fewestSounds_23 (by decide) (fun _ => ?_) (fun h => absurd (by decide) h)
  refine lv_iconst (v := 0) hx hb dX4_fewestSounds_30 (by decide) ?_
  refine lv_istore_n (lv' := [(3, .int 0), (2, .int 34), (1, .int 0), (0, .ref h0)]) hx hb dX4_fewestSounds_31 rfl hl (by decide) rfl (fun ls hl => ?_)
  refine lv_iload_n hx hb dX4_fewestSounds_32 rfl (lv_at hl 0 rfl) ?_
  refine lv_if_eq (tgt := 46) hx hb dX4_fewestSounds_33 (by decide) (fun _ => ?_) (fun h => absurd (by decide) h)
  refine lv_iinc (v := 35) (lv' := [(2, .int 35), (3, .int 0), (1, .int 0), (0, .ref h0)]) hx hb dX4_fewestSounds_46 hl (k := 1) rfl (by first | rfl | decide) (by decide) rfl (fun ls hl => ?_)
  refine lv_goto (tgt := 4) hx hb dX4_fewestSounds_49 (by decide) ?_
  refine lv_iload_n hx hb dX4_fewestSounds_4 rfl (lv_at hl 0 rfl) ?_
  refine lv_bipush (v := 64) hx hb dX4_fewestSounds_5 (by decide) ?_
  refine lv_icmp_ge (tgt := 52) hx hb dX4_fewestSounds_7 (by decide) (fun h => absurd h (by decide)) (fun _ => ?_)
  refine lv_iload_n hx hb dX4_fewestSounds_10 rfl (lv_at hl 2 rfl) ?_
  refine lv_iconst (v := (-1)) hx hb dX4_fewestSounds_11 (by decide) ?_
  refine lv_icmp_eq (tgt := 26) hx hb dX4_fewestSounds_12 (by decide) (fun h => absurd h (by decide)) (fun _ => ?_)
  refine lv_iload_n hx hb dX4_fewestSounds_15 rfl (lv_at hl 0 rfl) ?_
  refine vp_callSi (mkSr (rest := []) ⟨hx, hb, hml, hown, htl⟩ hN hK (c_J_ibc l G cs 35) (cS 1 htl lk_RX4_62 mT_J6_bitCount_0f7a4 mN_RJ6 mC_J6_bitCount_0f7a4 ok_J6_bitCount_0f7a4 rfl rfl ⟨(Nat.le_of_ble_eq_true rfl), (Nat.le_of_ble_eq_true rfl)⟩) rfl hl.1 rfl (Nat.le_of_ble_eq_true rfl) dX4_fewestSounds_16 ⟨(Nat.le_of_ble_eq_true rfl), (Nat.le_of_ble_eq_true rfl)⟩) (fun r hw => ?_)
  obtain rfl : r = 3 := hw.trans (by first | decide +kernel | rfl)
  refine lv_iload_n hx hb dX4_fewestSounds_19 rfl (lv_at hl 2 rfl) ?_
  refine vp_callSi (mkSr (rest := [.int 3]) ⟨hx, hb, hml, hown, htl⟩ hN hK (c_J_ibc l G cs 0) (cS 1 htl lk_RX4_62 mT_J6_bitCount_0f7a4 mN_RJ6 mC_J6_bitCount_0f7a4 ok_J6_bitCount_0f7a4 rfl rfl ⟨(Nat.le_of_ble_eq_true rfl), (Nat.le_of_ble_eq_true rfl)⟩) rfl hl.1 rfl (Nat.le_of_ble_eq_true rfl) dX4_fewestSounds_20 ⟨(Nat.le_of_ble_eq_true rfl), (Nat.le_of_ble_eq_true rfl)⟩) (fun r hw => ?_)
  obtain rfl : r = 0 := hw.trans (by first | decide +kernel | rfl)
  refine lv_icmp_ge (tgt := 30) hx hb dX4_fewestSounds_23 (by decide) (fun _ => ?_) (fun h => absurd (by decide) h)
  refine lv_iconst (v := 0) hx hb dX4_fewestSounds_30 (by decide) ?_
  refine lv_istore_n (lv' := [(3, .int 0), (2, .int 35), (1, .int 0), (0, .ref h0)]) hx hb dX4_fewestSounds_31 rfl hl (by decide) rfl (fun ls hl => ?_)
  refine lv_iload_n hx hb dX4_fewestSounds_32 rfl (lv_at hl 0 rfl) ?_
  refine lv_if_eq (tgt := 46) hx hb dX4_fewestSounds_33 (by decide) (fun _ => ?_) (fun h => absurd (by decide) h)
  refine lv_iinc (v := 36) (lv' := [(2, .int 36), (3, .int 0), (1, .int 0), (0, .ref h0)]) hx hb dX4_fewestSounds_46 hl (k := 1) rfl (by first | rfl | decide) (by decide) rfl (fun ls hl => ?_)
  refine lv_goto (tgt := 4) hx hb dX4_fewestSounds_49 (by decide) ?_
  refine lv_iload_n hx hb dX4_fewestSounds_4 rfl (lv_at hl 0 rfl) ?_
  refine lv_bipush (v := 64) hx hb dX4_fewestSounds_5 (by decide) ?_
  refine lv_icmp_ge (tgt := 52) hx hb dX4_fewestSounds_7 (by decide) (fun h => absurd h (by decide)) (fun _ => ?_)
  refine lv_iload_n hx hb dX4_fewestSounds_10 rfl (lv_at hl 2 rfl) ?_
  refine lv_iconst (v := (-1)) hx hb dX4_fewestSounds_11 (by decide) ?_
  refine lv_icmp_eq (tgt := 26) hx hb dX4_fewestSounds_12 (by decide) (fun h => absurd h (by decide)) (fun _ => ?_)
  refine lv_iload_n hx hb dX4_fewestSounds_15 rfl (lv_at hl 0 rfl) ?_
  refine vp_callSi (mkSr (rest := []) ⟨hx, hb, hml, hown, htl⟩ hN hK (c_J_ibc l G cs 36) (cS 1 htl lk_RX4_62 mT_J6_bitCount_0f7a4 mN_RJ6 mC_J6_bitCount_0f7a4 ok_J6_bitCount_0f7a4 rfl rfl ⟨(Nat.le_of_ble_eq_true rfl), (Nat.le_of_ble_eq_true rfl)⟩) rfl hl.1 rfl (Nat.le_of_ble_eq_true rfl) dX4_fewestSounds_16 ⟨(Nat.le_of_ble_eq_true rfl), (Nat.le_of_ble_eq_true rfl)⟩) (fun r hw => ?_)
  obtain rfl : r = 2 := hw.trans (by first | decide +kernel | rfl)
  refine lv_iload_n hx hb dX4_fewestSounds_19 rfl (lv_at hl 2 rfl) ?_
  refine vp_callSi (mkSr (rest := [.int 2]) ⟨hx, hb, hml, hown, htl⟩ hN hK (c_J_ibc l G cs 0) (cS 1 htl lk_RX4_62 mT_J6_bitCount_0f7a4 mN_RJ6 mC_J6_bitCount_0f7a4 ok_J6_bitCount_0f7a4 rfl rfl ⟨(Nat.le_of_ble_eq_true rfl), (Nat.le_of_ble_eq_true rfl)⟩) rfl hl.1 rfl (Nat.le_of_ble_eq_true rfl) dX4_fewestSounds_20 ⟨(Nat.le_of_ble_eq_true rfl), (Nat.le_of_ble_eq_true rfl)⟩) (fun r hw => ?_)
  obtain rfl : r = 0 := hw.trans (by first | decide +kernel | rfl)
  refine lv_icmp_ge (tgt := 30) hx hb dX4_fewestSounds_23 (by decide) (fun _ => ?_) (fun h => absurd (by decide) h)
  refine lv_iconst (v := 0) hx hb dX4_fewestSounds_30 (by decide) ?_
  refine lv_istore_n (lv' := [(3, .int 0), (2, .int 36), (1, .int 0), (0, .ref h0)]) hx hb dX4_fewestSounds_31 rfl hl (by decide) rfl (fun ls hl => ?_)
  refine lv_iload_n hx hb dX4_fewestSounds_32 rfl (lv_at hl 0 rfl) ?_
  refine lv_if_eq (tgt := 46) hx hb dX4_fewestSounds_33 (by decide) (fun _ => ?_) (fun h => absurd (by decide) h)
  refine lv_iinc (v := 37) (lv' := [(2, .int 37), (3, .int 0), (1, .int 0), (0, .ref h0)]) hx hb dX4_fewestSounds_46 hl (k := 1) rfl (by first | rfl | decide) (by decide) rfl (fun ls hl => ?_)
  refine lv_goto (tgt := 4) hx hb dX4_fewestSounds_49 (by decide) ?_
  refine lv_iload_n hx hb dX4_fewestSounds_4 rfl (lv_at hl 0 rfl) ?_
  refine lv_bipush (v := 64) hx hb dX4_fewestSounds_5 (by decide) ?_
  refine lv_icmp_ge (tgt := 52) hx hb dX4_fewestSounds_7 (by decide) (fun h => absurd h (by decide)) (fun _ => ?_)
  refine lv_iload_n hx hb dX4_fewestSounds_10 rfl (lv_at hl 2 rfl) ?_
  refine lv_iconst (v := (-1)) hx hb dX4_fewestSounds_11 (by decide) ?_
  refine lv_icmp_eq (tgt := 26) hx hb dX4_fewestSounds_12 (by decide) (fun h => absurd h (by decide)) (fun _ => ?_)
  refine lv_iload_n hx hb dX4_fewestSounds_15 rfl (lv_at hl 0 rfl) ?_
  refine vp_callSi (mkSr (rest := []) ⟨hx, hb, hml, hown, htl⟩ hN hK (c_J_ibc l G cs 37) (cS 1 htl lk_RX4_62 mT_J6_bitCount_0f7a4 mN_RJ6 mC_J6_bitCount_0f7a4 ok_J6_bitCount_0f7a4 rfl rfl ⟨(Nat.le_of_ble_eq_true rfl), (Nat.le_of_ble_eq_true rfl)⟩) rfl hl.1 rfl (Nat.le_of_ble_eq_true rfl) dX4_fewestSounds_16 ⟨(Nat.le_of_ble_eq_true rfl), (Nat.le_of_ble_eq_true rfl)⟩) (fun r hw => ?_)
  obtain rfl : r = 3 := hw.trans (by first | decide +kernel | rfl)
  refine lv_iload_n hx hb dX4_fewestSounds_19 rfl (lv_at hl 2 rfl) ?_
  refine vp_callSi (mkSr (rest := [.int 3]) ⟨hx, hb, hml, hown, htl⟩ hN hK (c_J_ibc l G cs 0) (cS 1 htl lk_RX4_62 mT_J6_bitCount_0f7a4 mN_RJ6 mC_J6_bitCount_0f7a4 ok_J6_bitCount_0f7a4 rfl rfl ⟨(Nat.le_of_ble_eq_true rfl), (Nat.le_of_ble_eq_true rfl)⟩) rfl hl.1 rfl (Nat.le_of_ble_eq_true rfl) dX4_fewestSounds_20 ⟨(Nat.le_of_ble_eq_true rfl), (Nat.le_of_ble_eq_true rfl)⟩) (fun r hw => ?_)
  obtain rfl : r = 0 := hw.trans (by first | decide +kernel | rfl)
  refine lv_icmp_ge (tgt := 30) hx hb dX4_fewestSounds_23 (by decide) (fun _ => ?_) (fun h => absurd (by decide) h)
  refine lv_iconst (v := 0) hx hb dX4_fewestSounds_30 (by decide) ?_
  refine lv_istore_n (lv' := [(3, .int 0), (2, .int 37), (1, .int 0), (0, .ref h0)]) hx hb dX4_fewestSounds_31 rfl hl (by decide) rfl (fun ls hl => ?_)
  refine lv_iload_n hx hb dX4_fewestSounds_32 rfl (lv_at hl 0 rfl) ?_
  refine lv_if_eq (tgt := 46) hx hb dX4_fewestSounds_33 (by decide) (fun _ => ?_) (fun h => absurd (by decide) h)
  refine lv_iinc (v := 38) (lv' := [(2, .int 38), (3, .int 0), (1, .int 0), (0, .ref h0)]) hx hb dX4_fewestSounds_46 hl (k := 1) rfl (by first | rfl | decide) (by decide) rfl (fun ls hl => ?_)
  refine lv_goto (tgt := 4) hx hb dX4_fewestSounds_49 (by decide) ?_
  refine lv_iload_n hx hb dX4_fewestSounds_4 rfl (lv_at hl 0 rfl) ?_
  refine lv_bipush (v := 64) hx hb dX4_fewestSounds_5 (by decide) ?_
  refine lv_icmp_ge (tgt := 52) hx hb dX4_fewestSounds_7 (by decide) (fun h => absurd h (by decide)) (fun _ => ?_)
  refine lv_iload_n hx hb dX4_fewestSounds_10 rfl (lv_at hl 2 rfl) ?_
  refine lv_iconst (v := (-1)) hx hb dX4_fewestSounds_11 (by decide) ?_
  refine lv_icmp_eq (tgt := 26) hx hb dX4_fewestSounds_12 (by decide) (fun h => absurd h (by decide)) (fun _ => ?_)
  refine lv_iload_n hx hb dX4_fewestSounds_15 rfl (lv_at hl 0 rfl) ?_
  refine vp_callSi (mkSr (rest := []) ⟨hx, hb, hml, hown, htl⟩ hN hK (c_J_ibc l G cs 38) (cS 1 htl lk_RX4_62 mT_J6_bitCount_0f7a4 mN_RJ6 mC_J6_bitCount_0f7a4 ok_J6_bitCount_0f7a4 rfl rfl ⟨(Nat.le_of_ble_eq_true rfl), (Nat.le_of_ble_eq_true rfl)⟩) rfl hl.1 rfl (Nat.le_of_ble_eq_true rfl) dX4_fewestSounds_16 ⟨(Nat.le_of_ble_eq_true rfl), (Nat.le_of_ble_eq_true rfl)⟩) (fun r hw => ?_)
  obtain rfl : r = 3 := hw.trans (by first | decide +kernel | rfl)
  refine lv_iload_n hx hb dX4_fewestSounds_19 rfl (lv_at hl 2 rfl) ?_
  refine vp_callSi (mkSr (rest := [.int 3]) ⟨hx, hb, hml, hown, htl⟩ hN hK (c_J_ibc l G cs 0) (cS 1 htl lk_RX4_62 mT_J6_bitCount_0f7a4 mN_RJ6 mC_J6_bitCount_0f7a4 ok_J6_bitCount_0f7a4 rfl rfl ⟨(Nat.le_of_ble_eq_true rfl), (Nat.le_of_ble_eq_true rfl)⟩) rfl hl.1 rfl (Nat.le_of_ble_eq_true rfl) dX4_fewestSounds_20 ⟨(Nat.le_of_ble_eq_true rfl), (Nat.le_of_ble_eq_true rfl)⟩) (fun r hw => ?_)
  obtain rfl : r = 0 := hw.trans (by first | decide +kernel | rfl)
  refine lv_icmp_ge (tgt := 30) hx hb dX4_fewestSounds_23 (by decide) (fun _ => ?_) (fun h => absurd (by decide) h)
  refine lv_iconst (v := 0) hx hb dX4_fewestSounds_30 (by decide) ?_
  refine lv_istore_n (lv' := [(3, .int 0), (2, .int 38), (1, .int 0), (0, .ref h0)]) hx hb dX4_fewestSounds_31 rfl hl (by decide) rfl (fun ls hl => ?_)
  refine lv_iload_n hx hb dX4_fewestSounds_32 rfl (lv_at hl 0 rfl) ?_
  refine lv_if_eq (tgt := 46) hx hb dX4_fewestSounds_33 (by decide) (fun _ => ?_) (fun h => absurd (by decide) h)
  refine lv_iinc (v := 39) (lv' := [(2, .int 39), (3, .int 0), (1, .int 0), (0, .ref h0)]) hx hb dX4_fewestSounds_46 hl (k := 1) rfl (by first | rfl | decide) (by decide) rfl (fun ls hl => ?_)
  refine lv_goto (tgt := 4) hx hb dX4_fewestSounds_49 (by decide) ?_
  refine lv_iload_n hx hb dX4_fewestSounds_4 rfl (lv_at hl 0 rfl) ?_
  refine lv_bipush (v := 64) hx hb dX4_fewestSounds_5 (by decide) ?_
  refine lv_icmp_ge (tgt := 52) hx hb dX4_fewestSounds_7 (by decide) (fun h => absurd h (by decide)) (fun _ => ?_)
  refine lv_iload_n hx hb dX4_fewestSounds_10 rfl (lv_at hl 2 rfl) ?_
  refine lv_iconst (v := (-1)) hx hb dX4_fewestSounds_11 (by decide) ?_
  refine lv_icmp_eq (tgt := 26) hx hb dX4_fewestSounds_12 (by decide) (fun h => absurd h (by decide)) (fun _ => ?_)
  refine lv_iload_n hx hb dX4_fewestSounds_15 rfl (lv_at hl 0 rfl) ?_
  refine vp_callSi (mkSr (rest := []) ⟨hx, hb, hml, hown, htl⟩ hN hK (c_J_ibc l G cs 39) (cS 1 htl lk_RX4_62 mT_J6_bitCount_0f7a4 mN_RJ6 mC_J6_bitCount_0f7a4 ok_J6_bitCount_0f7a4 rfl rfl ⟨(Nat.le_of_ble_eq_true rfl), (Nat.le_of_ble_eq_true rfl)⟩) rfl hl.1 rfl (Nat.le_of_ble_eq_true rfl) dX4_fewestSounds_16 ⟨(Nat.le_of_ble_eq_true rfl), (Nat.le_of_ble_eq_true rfl)⟩) (fun r hw => ?_)
  obtain rfl : r = 4 := hw.trans (by first | decide +kernel | rfl)
  refine lv_iload_n hx hb dX4_fewestSounds_19 rfl (lv_at hl 2 rfl) ?_
  refine vp_callSi (mkSr (rest := [.int 4]) ⟨hx, hb, hml, hown, htl⟩ hN hK (c_J_ibc l G cs 0) (cS 1 htl lk_RX4_62 mT_J6_bitCount_0f7a4 mN_RJ6 mC_J6_bitCount_0f7a4 ok_J6_bitCount_0f7a4 rfl rfl ⟨(Nat.le_of_ble_eq_true rfl), (Nat.le_of_ble_eq_true rfl)⟩) rfl hl.1 rfl (Nat.le_of_ble_eq_true rfl) dX4_fewestSounds_20 ⟨(Nat.le_of_ble_eq_true rfl), (Nat.le_of_ble_eq_true rfl)⟩) (fun r hw => ?_)
  obtain rfl : r = 0 := hw.trans (by first | decide +kernel | rfl)
  refine lv_icmp_ge (tgt := 30) hx hb dX4_fewestSounds_23 (by decide) (fun _ => ?_) (fun h => absurd (by decide) h)
  refine lv_iconst (v := 0) hx hb dX4_fewestSounds_30 (by decide) ?_
  refine lv_istore_n (lv' := [(3, .int 0), (2, .int 39), (1, .int 0), (0, .ref h0)]) hx hb dX4_fewestSounds_31 rfl hl (by decide) rfl (fun ls hl => ?_)
  refine lv_iload_n hx hb dX4_fewestSounds_32 rfl (lv_at hl 0 rfl) ?_
  refine lv_if_eq (tgt := 46) hx hb dX4_fewestSounds_33 (by decide) (fun _ => ?_) (fun h => absurd (by decide) h)
  refine lv_iinc (v := 40) (lv' := [(2, .int 40), (3, .int 0), (1, .int 0), (0, .ref h0)]) hx hb dX4_fewestSounds_46 hl (k := 1) rfl (by first | rfl | decide) (by decide) rfl (fun ls hl => ?_)
  refine lv_goto (tgt := 4) hx hb dX4_fewestSounds_49 (by decide) ?_
  refine lv_iload_n hx hb dX4_fewestSounds_4 rfl (lv_at hl 0 rfl) ?_
  refine lv_bipush (v := 64) hx hb dX4_fewestSounds_5 (by decide) ?_
  refine lv_icmp_ge (tgt := 52) hx hb dX4_fewestSounds_7 (by decide) (fun h => absurd h (by decide)) (fun _ => ?_)
  refine lv_iload_n hx hb dX4_fewestSounds_10 rfl (lv_at hl 2 rfl) ?_
  refine lv_iconst (v := (-1)) hx hb dX4_fewestSounds_11 (by decide) ?_
  refine lv_icmp_eq (tgt := 26) hx hb dX4_fewestSounds_12 (by decide) (fun h => absurd h (by decide)) (fun _ => ?_)
  refine lv_iload_n hx hb dX4_fewestSounds_15 rfl (lv_at hl 0 rfl) ?_
  refine vp_callSi (mkSr (rest := []) ⟨hx, hb, hml, hown, htl⟩ hN hK (c_J_ibc l G cs 40) (cS 1 htl lk_RX4_62 mT_J6_bitCount_0f7a4 mN_RJ6 mC_J6_bitCount_0f7a4 ok_J6_bitCount_0f7a4 rfl rfl ⟨(Nat.le_of_ble_eq_true rfl), (Nat.le_of_ble_eq_true rfl)⟩) rfl hl.1 rfl (Nat.le_of_ble_eq_true rfl) dX4_fewestSounds_16 ⟨(Nat.le_of_ble_eq_true rfl), (Nat.le_of_ble_eq_true rfl)⟩) (fun r hw => ?_)
  obtain rfl : r = 2 := hw.trans (by first | decide +kernel | rfl)
  refine lv_iload_n hx hb dX4_fewestSounds_19 rfl (lv_at hl 2 rfl) ?_
  refine vp_callSi (mkSr (rest := [.int 2]) ⟨hx, hb, hml, hown, htl⟩ hN hK (c_J_ibc l G cs 0) (cS 1 htl lk_RX4_62 mT_J6_bitCount_0f7a4 mN_RJ6 mC_J6_bitCount_0f7a4 ok_J6_bitCount_0f7a4 rfl rfl ⟨(Nat.le_of_ble_eq_true rfl), (Nat.le_of_ble_eq_true rfl)⟩) rfl hl.1 rfl (Nat.le_of_ble_eq_true rfl) dX4_fewestSounds_20 ⟨(Nat.le_of_ble_eq_true rfl), (Nat.le_of_ble_eq_true rfl)⟩) (fun r hw => ?_)
  obtain rfl : r = 0 := hw.trans (by first | decide +kernel | rfl)
  refine lv_icmp_ge (tgt := 30) hx hb dX4_fewestSounds_23 (by decide) (fun _ => ?_) (fun h => absurd (by decide) h)
  refine lv_iconst (v := 0) hx hb dX4_fewestSounds_30 (by decide) ?_
  refine lv_istore_n (lv' := [(3, .int 0), (2, .int 40), (1, .int 0), (0, .ref h0)]) hx hb dX4_fewestSounds_31 rfl hl (by decide) rfl (fun ls hl => ?_)
  refine lv_iload_n hx hb dX4_fewestSounds_32 rfl (lv_at hl 0 rfl) ?_
  refine lv_if_eq (tgt := 46) hx hb dX4_fewestSounds_33 (by decide) (fun _ => ?_) (fun h => absurd (by decide) h)
  refine lv_iinc (v := 41) (lv' := [(2, .int 41), (3, .int 0), (1, .int 0), (0, .ref h0)]) hx hb dX4_fewestSounds_46 hl (k := 1) rfl (by first | rfl | decide) (by decide) rfl (fun ls hl => ?_)
  refine lv_goto (tgt := 4) hx hb dX4_fewestSounds_49 (by decide) ?_
  refine lv_iload_n hx hb dX4_fewestSounds_4 rfl (lv_at hl 0 rfl) ?_
  refine lv_bipush (v := 64) hx hb dX4_fewestSounds_5 (by decide) ?_
  refine lv_icmp_ge (tgt := 52) hx hb dX4_fewestSounds_7 (by decide) (fun h => absurd h (by decide)) (fun _ => ?_)
  refine lv_iload_n hx hb dX4_fewestSounds_10 rfl (lv_at hl 2 rfl) ?_
  refine lv_iconst (v := (-1)) hx hb dX4_fewestSounds_11 (by decide) ?_
  refine lv_icmp_eq (tgt := 26) hx hb dX4_fewestSounds_12 (by decide) (fun h => absurd h (by decide)) (fun _ => ?_)
  refine lv_iload_n hx hb dX4_fewestSounds_15 rfl (lv_at hl 0 rfl) ?_
  refine vp_callSi (mkSr (rest := []) ⟨hx, hb, hml, hown, htl⟩ hN hK (c_J_ibc l G cs 41) (cS 1 htl lk_RX4_62 mT_J6_bitCount_0f7a4 mN_RJ6 mC_J6_bitCount_0f7a4 ok_J6_bitCount_0f7a4 rfl rfl ⟨(Nat.le_of_ble_eq_true rfl), (Nat.le_of_ble_eq_true rfl)⟩) rfl hl.1 rfl (Nat.le_of_ble_eq_true rfl) dX4_fewestSounds_16 ⟨(Nat.le_of_ble_eq_true rfl), (Nat.le_of_ble_eq_true rfl)⟩) (fun r hw => ?_)
  obtain rfl : r = 3 := hw.trans (by first | decide +kernel | rfl)
  refine lv_iload_n hx hb dX4_fewestSounds_19 rfl (lv_at hl 2 rfl) ?_
  refine vp_callSi (mkSr (rest := [.int 3]) ⟨hx, hb, hml, hown, htl⟩ hN hK (c_J_ibc l G cs 0) (cS 1 htl lk_RX4_62 mT_J6_bitCount_0f7a4 mN_RJ6 mC_J6_bitCount_0f7a4 ok_J6_bitCount_0f7a4 rfl rfl ⟨(Nat.le_of_ble_eq_true rfl), (Nat.le_of_ble_eq_true rfl)⟩) rfl hl.1 rfl (Nat.le_of_ble_eq_true rfl) dX4_fewestSounds_20 ⟨(Nat.le_of_ble_eq_true rfl), (Nat.le_of_ble_eq_true rfl)⟩) (fun r hw => ?_)
  obtain rfl : r = 0 := hw.trans (by first | decide +kernel | rfl)
  refine lv_icmp_ge (tgt := 30) hx hb dX4_fewestSounds_23 (by decide) (fun _ => ?_) (fun h => absurd (by decide) h)
  refine lv_iconst (v := 0) hx hb dX4_fewestSounds_30 (by decide) ?_
  refine lv_istore_n (lv' := [(3, .int 0), (2, .int 41), (1, .int 0), (0, .ref h0)]) hx hb dX4_fewestSounds_31 rfl hl (by decide) rfl (fun ls hl => ?_)
  refine lv_iload_n hx hb dX4_fewestSounds_32 rfl (lv_at hl 0 rfl) ?_
  refine lv_if_eq (tgt := 46) hx hb dX4_fewestSounds_33 (by decide) (fun _ => ?_) (fun h => absurd (by decide) h)
  refine lv_iinc (v := 42) (lv' := [(2, .int 42), (3, .int 0), (1, .int 0), (0, .ref h0)]) hx hb dX4_fewestSounds_46 hl (k := 1) rfl (by first | rfl | decide) (by decide) rfl (fun ls hl => ?_)
  refine lv_goto (tgt := 4) hx hb dX4_fewestSounds_49 (by decide) ?_
  refine lv_iload_n hx hb dX4_fewestSounds_4 rfl (lv_at hl 0 rfl) ?_
  refine lv_bipush (v := 64) hx hb dX4_fewestSounds_5 (by decide) ?_
  refine lv_icmp_ge (tgt := 52) hx hb dX4_fewestSounds_7 (by decide) (fun h => absurd h (by decide)) (fun _ => ?_)
  refine lv_iload_n hx hb dX4_fewestSounds_10 rfl (lv_at hl 2 rfl) ?_
  refine lv_iconst (v := (-1)) hx hb dX4_fewestSounds_11 (by decide) ?_
  refine lv_icmp_eq (tgt := 26) hx hb dX4_fewestSounds_12 (by decide) (fun h => absurd h (by decide)) (fun _ => ?_)
  refine lv_iload_n hx hb dX4_fewestSounds_15 rfl (lv_at hl 0 rfl) ?_
  refine vp_callSi (mkSr (rest := []) ⟨hx, hb, hml, hown, htl⟩ hN hK (c_J_ibc l G cs 42) (cS 1 htl lk_RX4_62 mT_J6_bitCount_0f7a4 mN_RJ6 mC_J6_bitCount_0f7a4 ok_J6_bitCount_0f7a4 rfl rfl ⟨(Nat.le_of_ble_eq_true rfl), (Nat.le_of_ble_eq_true rfl)⟩) rfl hl.1 rfl (Nat.le_of_ble_eq_true rfl) dX4_fewestSounds_16 ⟨(Nat.le_of_ble_eq_true rfl), (Nat.le_of_ble_eq_true rfl)⟩) (fun r hw => ?_)
  obtain rfl : r = 3 := hw.trans (by first | decide +kernel | rfl)
  refine lv_iload_n hx hb dX4_fewestSounds_19 rfl (lv_at hl 2 rfl) ?_
  refine vp_callSi (mkSr (rest := [.int 3]) ⟨hx, hb, hml, hown, htl⟩ hN hK (c_J_ibc l G cs 0) (cS 1 htl lk_RX4_62 mT_J6_bitCount_0f7a4 mN_RJ6 mC_J6_bitCount_0f7a4 ok_J6_bitCount_0f7a4 rfl rfl ⟨(Nat.le_of_ble_eq_true rfl), (Nat.le_of_ble_eq_true rfl)⟩) rfl hl.1 rfl (Nat.le_of_ble_eq_true rfl) dX4_fewestSounds_20 ⟨(Nat.le_of_ble_eq_true rfl), (Nat.le_of_ble_eq_true rfl)⟩) (fun r hw => ?_)
  obtain rfl : r = 0 := hw.trans (by first | decide +kernel | rfl)
  refine lv_icmp_ge (tgt := 30) hx hb dX4_fewestSounds_23 (by decide) (fun _ => ?_) (fun h => absurd (by decide) h)
  refine lv_iconst (v := 0) hx hb dX4_fewestSounds_30 (by decide) ?_
  refine lv_istore_n (lv' := [(3, .int 0), (2, .int 42), (1, .int 0), (0, .ref h0)]) hx hb dX4_fewestSounds_31 rfl hl (by decide) rfl (fun ls hl => ?_)
  refine lv_iload_n hx hb dX4_fewestSounds_32 rfl (lv_at hl 0 rfl) ?_
  refine lv_if_eq (tgt := 46) hx hb dX4_fewestSounds_33 (by decide) (fun _ => ?_) (fun h => absurd (by decide) h)
  refine lv_iinc (v := 43) (lv' := [(2, .int 43), (3, .int 0), (1, .int 0), (0, .ref h0)]) hx hb dX4_fewestSounds_46 hl (k := 1) rfl (by first | rfl | decide) (by decide) rfl (fun ls hl => ?_)
  refine lv_goto (tgt := 4) hx hb dX4_fewestSounds_49 (by decide) ?_
  refine lv_iload_n hx hb dX4_fewestSounds_4 rfl (lv_at hl 0 rfl) ?_
  refine lv_bipush (v := 64) hx hb dX4_fewestSounds_5 (by decide) ?_
  refine lv_icmp_ge (tgt := 52) hx hb dX4_fewestSounds_7 (by decide) (fun h => absurd h (by decide)) (fun _ => ?_)
  refine lv_iload_n hx hb dX4_fewestSounds_10 rfl (lv_at hl 2 rfl) ?_
  refine lv_iconst (v := (-1)) hx hb dX4_fewestSounds_11 (by decide) ?_
  refine lv_icmp_eq (tgt := 26) hx hb dX4_fewestSounds_12 (by decide) (fun h => absurd h (by decide)) (fun _ => ?_)
  refine lv_iload_n hx hb dX4_fewestSounds_15 rfl (lv_at hl 0 rfl) ?_
  refine vp_callSi (mkSr (rest := []) ⟨hx, hb, hml, hown, htl⟩ hN hK (c_J_ibc l G cs 43) (cS 1 htl lk_RX4_62 mT_J6_bitCount_0f7a4 mN_RJ6 mC_J6_bitCount_0f7a4 ok_J6_bitCount_0f7a4 rfl rfl ⟨(Nat.le_of_ble_eq_true rfl), (Nat.le_of_ble_eq_true rfl)⟩) rfl hl.1 rfl (Nat.le_of_ble_eq_true rfl) dX4_fewestSounds_16 ⟨(Nat.le_of_ble_eq_true rfl), (Nat.le_of_ble_eq_true rfl)⟩) (fun r hw => ?_)
  obtain rfl : r = 4 := hw.trans (by first | decide +kernel | rfl)
  refine lv_iload_n hx hb dX4_fewestSounds_19 rfl (lv_at hl 2 rfl) ?_
  refine vp_callSi (mkSr (rest := [.int 4]) ⟨hx, hb, hml, hown, htl⟩ hN hK (c_J_ibc l G cs 0) (cS 1 htl lk_RX4_62 mT_J6_bitCount_0f7a4 mN_RJ6 mC_J6_bitCount_0f7a4 ok_J6_bitCount_0f7a4 rfl rfl ⟨(Nat.le_of_ble_eq_true rfl), (Nat.le_of_ble_eq_true rfl)⟩) rfl hl.1 rfl (Nat.le_of_ble_eq_true rfl) dX4_fewestSounds_20 ⟨(Nat.le_of_ble_eq_true rfl), (Nat.le_of_ble_eq_true rfl)⟩) (fun r hw => ?_)
  obtain rfl : r = 0 := hw.trans (by first | decide +kernel | rfl)
  refine lv_icmp_ge (tgt := 30) hx hb dX4_fewestSounds_23 (by decide) (fun _ => ?_) (fun h => absurd (by decide) h)
  refine lv_iconst (v := 0) hx hb dX4_fewestSounds_30 (by decide) ?_
  refine lv_istore_n (lv' := [(3, .int 0), (2, .int 43), (1, .int 0), (0, .ref h0)]) hx hb dX4_fewestSounds_31 rfl hl (by decide) rfl (fun ls hl => ?_)
  refine lv_iload_n hx hb dX4_fewestSounds_32 rfl (lv_at hl 0 rfl) ?_
  refine lv_if_eq (tgt := 46) hx hb dX4_fewestSounds_33 (by decide) (fun _ => ?_) (fun h => absurd (by decide) h)
  refine lv_iinc (v := 44) (lv' := [(2, .int 44), (3, .int 0), (1, .int 0), (0, .ref h0)]) hx hb dX4_fewestSounds_46 hl (k := 1) rfl (by first | rfl | decide) (by decide) rfl (fun ls hl => ?_)
  refine lv_goto (tgt := 4) hx hb dX4_fewestSounds_49 (by decide) ?_
  refine lv_iload_n hx hb dX4_fewestSounds_4 rfl (lv_at hl 0 rfl) ?_
  refine lv_bipush (v := 64) hx hb dX4_fewestSounds_5 (by decide) ?_
  refine lv_icmp_ge (tgt := 52) hx hb dX4_fewestSounds_7 (by decide) (fun h => absurd h (by decide)) (fun _ => ?_)
  refine lv_iload_n hx hb dX4_fewestSounds_10 rfl (lv_at hl 2 rfl) ?_
  refine lv_iconst (v := (-1)) hx hb dX4_fewestSounds_11 (by decide) ?_
  refine lv_icmp_eq (tgt := 26) hx hb dX4_fewestSounds_12 (by decide) (fun h => absurd h (by decide)) (fun _ => ?_)
  refine lv_iload_n hx hb dX4_fewestSounds_15 rfl (lv_at hl 0 rfl) ?_
  refine vp_callSi (mkSr (rest := []) ⟨hx, hb, hml, hown, htl⟩ hN hK (c_J_ibc l G cs 44) (cS 1 htl lk_RX4_62 mT_J6_bitCount_0f7a4 mN_RJ6 mC_J6_bitCount_0f7a4 ok_J6_bitCount_0f7a4 rfl rfl ⟨(Nat.le_of_ble_eq_true rfl), (Nat.le_of_ble_eq_true rfl)⟩) rfl hl.1 rfl (Nat.le_of_ble_eq_true rfl) dX4_fewestSounds_16 ⟨(Nat.le_of_ble_eq_true rfl), (Nat.le_of_ble_eq_true rfl)⟩) (fun r hw => ?_)
  obtain rfl : r = 3 := hw.trans (by first | decide +kernel | rfl)
  refine lv_iload_n hx hb dX4_fewestSounds_19 rfl (lv_at hl 2 rfl) ?_
  refine vp_callSi (mkSr (rest := [.int 3]) ⟨hx, hb, hml, hown, htl⟩ hN hK (c_J_ibc l G cs 0) (cS 1 htl lk_RX4_62 mT_J6_bitCount_0f7a4 mN_RJ6 mC_J6_bitCount_0f7a4 ok_J6_bitCount_0f7a4 rfl rfl ⟨(Nat.le_of_ble_eq_true rfl), (Nat.le_of_ble_eq_true rfl)⟩) rfl hl.1 rfl (Nat.le_of_ble_eq_true rfl) dX4_fewestSounds_20 ⟨(Nat.le_of_ble_eq_true rfl), (Nat.le_of_ble_eq_true rfl)⟩) (fun r hw => ?_)
  obtain rfl : r = 0 := hw.trans (by first | decide +kernel | rfl)
  refine lv_icmp_ge (tgt := 30) hx hb dX4_fewestSounds_23 (by decide) (fun _ => ?_) (fun h => absurd (by decide) h)
  refine lv_iconst (v := 0) hx hb dX4_fewestSounds_30 (by decide) ?_
  refine lv_istore_n (lv' := [(3, .int 0), (2, .int 44), (1, .int 0), (0, .ref h0)]) hx hb dX4_fewestSounds_31 rfl hl (by decide) rfl (fun ls hl => ?_)
  refine lv_iload_n hx hb dX4_fewestSounds_32 rfl (lv_at hl 0 rfl) ?_
  refine lv_if_eq (tgt := 46) hx hb dX4_fewestSounds_33 (by decide) (fun _ => ?_) (fun h => absurd (by decide) h)
  refine lv_iinc (v := 45) (lv' := [(2, .int 45), (3, .int 0), (1, .int 0), (0, .ref h0)]) hx hb dX4_fewestSounds_46 hl (k := 1) rfl (by first | rfl | decide) (by decide) rfl (fun ls hl => ?_)
  refine lv_goto (tgt := 4) hx hb dX4_fewestSounds_49 (by decide) ?_
  refine lv_iload_n hx hb dX4_fewestSounds_4 rfl (lv_at hl 0 rfl) ?_
  refine lv_bipush (v := 64) hx hb dX4_fewestSounds_5 (by decide) ?_
  refine lv_icmp_ge (tgt := 52) hx hb dX4_fewestSounds_7 (by decide) (fun h => absurd h (by decide)) (fun _ => ?_)
  refine lv_iload_n hx hb dX4_fewestSounds_10 rfl (lv_at hl 2 rfl) ?_
  refine lv_iconst (v := (-1)) hx hb dX4_fewestSounds_11 (by decide) ?_
  refine lv_icmp_eq (tgt := 26) hx hb dX4_fewestSounds_12 (by decide) (fun h => absurd h (by decide)) (fun _ => ?_)
  refine lv_iload_n hx hb dX4_fewestSounds_15 rfl (lv_at hl 0 rfl) ?_
  refine vp_callSi (mkSr (rest := []) ⟨hx, hb, hml, hown, htl⟩ hN hK (c_J_ibc l G cs 45) (cS 1 htl lk_RX4_62 mT_J6_bitCount_0f7a4 mN_RJ6 mC_J6_bitCount_0f7a4 ok_J6_bitCount_0f7a4 rfl rfl ⟨(Nat.le_of_ble_eq_true rfl), (Nat.le_of_ble_eq_true rfl)⟩) rfl hl.1 rfl (Nat.le_of_ble_eq_true rfl) dX4_fewestSounds_16 ⟨(Nat.le_of_ble_eq_true rfl), (Nat.le_of_ble_eq_true rfl)⟩) (fun r hw => ?_)
  obtain rfl : r = 4 := hw.trans (by first | decide +kernel | rfl)
  refine lv_iload_n hx hb dX4_fewestSounds_19 rfl (lv_at hl 2 rfl) ?_
  refine vp_callSi (mkSr (rest := [.int 4]) ⟨hx, hb, hml, hown, htl⟩ hN hK (c_J_ibc l G cs 0) (cS 1 htl lk_RX4_62 mT_J6_bitCount_0f7a4 mN_RJ6 mC_J6_bitCount_0f7a4 ok_J6_bitCount_0f7a4 rfl rfl ⟨(Nat.le_of_ble_eq_true rfl), (Nat.le_of_ble_eq_true rfl)⟩) rfl hl.1 rfl (Nat.le_of_ble_eq_true rfl) dX4_fewestSounds_20 ⟨(Nat.le_of_ble_eq_true rfl), (Nat.le_of_ble_eq_true rfl)⟩) (fun r hw => ?_)
  obtain rfl : r = 0 := hw.trans (by first | decide +kernel | rfl)
  refine lv_icmp_ge (tgt := 30) hx hb dX4_fewestSounds_23 (by decide) (fun _ => ?_) (fun h => absurd (by decide) h)
  refine lv_iconst (v := 0) hx hb dX4_fewestSounds_30 (by decide) ?_
  refine lv_istore_n (lv' := [(3, .int 0), (2, .int 45), (1, .int 0), (0, .ref h0)]) hx hb dX4_fewestSounds_31 rfl hl (by decide) rfl (fun ls hl => ?_)
  refine lv_iload_n hx hb dX4_fewestSounds_32 rfl (lv_at hl 0 rfl) ?_
  refine lv_if_eq (tgt := 46) hx hb dX4_fewestSounds_33 (by decide) (fun _ => ?_) (fun h => absurd (by decide) h)
  refine lv_iinc (v := 46) (lv' := [(2, .int 46), (3, .int 0), (1, .int 0), (0, .ref h0)]) hx hb dX4_fewestSounds_46 hl (k := 1) rfl (by first | rfl | decide) (by decide) rfl (fun ls hl => ?_)
  refine lv_goto (tgt := 4) hx hb dX4_fewestSounds_49 (by decide) ?_
  refine lv_iload_n hx hb dX4_fewestSounds_4 rfl (lv_at hl 0 rfl) ?_
  refine lv_bipush (v := 64) hx hb dX4_fewestSounds_5 (by decide) ?_
  refine lv_icmp_ge (tgt := 52) hx hb dX4_fewestSounds_7 (by decide) (fun h => absurd h (by decide)) (fun _ => ?_)
  refine lv_iload_n hx hb dX4_fewestSounds_10 rfl (lv_at hl 2 rfl) ?_
  refine lv_iconst (v := (-1)) hx hb dX4_fewestSounds_11 (by decide) ?_
  refine lv_icmp_eq (tgt := 26) hx hb dX4_fewestSounds_12 (by decide) (fun h => absurd h (by decide)) (fun _ => ?_)
  refine lv_iload_n hx hb dX4_fewestSounds_15 rfl (lv_at hl 0 rfl) ?_
  refine vp_callSi (mkSr (rest := []) ⟨hx, hb, hml, hown, htl⟩ hN hK (c_J_ibc l G cs 46) (cS 1 htl lk_RX4_62 mT_J6_bitCount_0f7a4 mN_RJ6 mC_J6_bitCount_0f7a4 ok_J6_bitCount_0f7a4 rfl rfl ⟨(Nat.le_of_ble_eq_true rfl), (Nat.le_of_ble_eq_true rfl)⟩) rfl hl.1 rfl (Nat.le_of_ble_eq_true rfl) dX4_fewestSounds_16 ⟨(Nat.le_of_ble_eq_true rfl), (Nat.le_of_ble_eq_true rfl)⟩) (fun r hw => ?_)
  obtain rfl : r = 4 := hw.trans (by first | decide +kernel | rfl)
  refine lv_iload_n hx hb dX4_fewestSounds_19 rfl (lv_at hl 2 rfl) ?_
  refine vp_callSi (mkSr (rest := [.int 4]) ⟨hx, hb, hml, hown, htl⟩ hN hK (c_J_ibc l G cs 0) (cS 1 htl lk_RX4_62 mT_J6_bitCount_0f7a4 mN_RJ6 mC_J6_bitCount_0f7a4 ok_J6_bitCount_0f7a4 rfl rfl ⟨(Nat.le_of_ble_eq_true rfl), (Nat.le_of_ble_eq_true rfl)⟩) rfl hl.1 rfl (Nat.le_of_ble_eq_true rfl) dX4_fewestSounds_20 ⟨(Nat.le_of_ble_eq_true rfl), (Nat.le_of_ble_eq_true rfl)⟩) (fun r hw => ?_)
  obtain rfl : r = 0 := hw.trans (by first | decide +kernel | rfl)
  refine lv_icmp_ge (tgt := 30) hx hb dX4_fewestSounds_23 (by decide) (fun _ => ?_) (fun h => absurd (by decide) h)
  refine lv_iconst (v := 0) hx hb dX4_fewestSounds_30 (by decide) ?_
  refine lv_istore_n (lv' := [(3, .int 0), (2, .int 46), (1, .int 0), (0, .ref h0)]) hx hb dX4_fewestSounds_31 rfl hl (by decide) rfl (fun ls hl => ?_)
  refine lv_iload_n hx hb dX4_fewestSounds_32 rfl (lv_at hl 0 rfl) ?_
  refine lv_if_eq (tgt := 46) hx hb dX4_fewestSounds_33 (by decide) (fun _ => ?_) (fun h => absurd (by decide) h)
  refine lv_iinc (v := 47) (lv' := [(2, .int 47), (3, .int 0), (1, .int 0), (0, .ref h0)]) hx hb dX4_fewestSounds_46 hl (k := 1) rfl (by first | rfl | decide) (by decide) rfl (fun ls hl => ?_)
  refine lv_goto (tgt := 4) hx hb dX4_fewestSounds_49 (by decide) ?_
  refine lv_iload_n hx hb dX4_fewestSounds_4 rfl (lv_at hl 0 rfl) ?_
  refine lv_bipush (v := 64) hx hb dX4_fewestSounds_5 (by decide) ?_
  refine lv_icmp_ge (tgt := 52) hx hb dX4_fewestSounds_7 (by decide) (fun h => absurd h (by decide)) (fun _ => ?_)
  refine lv_iload_n hx hb dX4_fewestSounds_10 rfl (lv_at hl 2 rfl) ?_
  refine lv_iconst (v := (-1)) hx hb dX4_fewestSounds_11 (by decide) ?_
  refine lv_icmp_eq (tgt := 26) hx hb dX4_fewestSounds_12 (by decide) (fun h => absurd h (by decide)) (fun _ => ?_)
  refine lv_iload_n hx hb dX4_fewestSounds_15 rfl (lv_at hl 0 rfl) ?_
  refine vp_callSi (mkSr (rest := []) ⟨hx, hb, hml, hown, htl⟩ hN hK (c_J_ibc l G cs 47) (cS 1 htl lk_RX4_62 mT_J6_bitCount_0f7a4 mN_RJ6 mC_J6_bitCount_0f7a4 ok_J6_bitCount_0f7a4 rfl rfl ⟨(Nat.le_of_ble_eq_true rfl), (Nat.le_of_ble_eq_true rfl)⟩) rfl hl.1 rfl (Nat.le_of_ble_eq_true rfl) dX4_fewestSounds_16 ⟨(Nat.le_of_ble_eq_true rfl), (Nat.le_of_ble_eq_true rfl)⟩) (fun r hw => ?_)
  obtain rfl : r = 5 := hw.trans (by first | decide +kernel | rfl)
  refine lv_iload_n hx hb dX4_fewestSounds_19 rfl (lv_at hl 2 rfl) ?_
  refine vp_callSi (mkSr (rest := [.int 5]) ⟨hx, hb, hml, hown, htl⟩ hN hK (c_J_ibc l G cs 0) (cS 1 htl lk_RX4_62 mT_J6_bitCount_0f7a4 mN_RJ6 mC_J6_bitCount_0f7a4 ok_J6_bitCount_0f7a4 rfl rfl ⟨(Nat.le_of_ble_eq_true rfl), (Nat.le_of_ble_eq_true rfl)⟩) rfl hl.1 rfl (Nat.le_of_ble_eq_true rfl) dX4_fewestSounds_20 ⟨(Nat.le_of_ble_eq_true rfl), (Nat.le_of_ble_eq_true rfl)⟩) (fun r hw => ?_)
  obtain rfl : r = 0 := hw.trans (by first | decide +kernel | rfl)
  refine lv_icmp_ge (tgt := 30) hx hb dX4_fewestSounds_23 (by decide) (fun _ => ?_) (fun h => absurd (by decide) h)
  refine lv_iconst (v := 0) hx hb dX4_fewestSounds_30 (by decide) ?_
  refine lv_istore_n (lv' := [(3, .int 0), (2, .int 47), (1, .int 0), (0, .ref h0)]) hx hb dX4_fewestSounds_31 rfl hl (by decide) rfl (fun ls hl => ?_)
  refine lv_iload_n hx hb dX4_fewestSounds_32 rfl (lv_at hl 0 rfl) ?_
  refine lv_if_eq (tgt := 46) hx hb dX4_fewestSounds_33 (by decide) (fun _ => ?_) (fun h => absurd (by decide) h)
  refine lv_iinc (v := 48) (lv' := [(2, .int 48), (3, .int 0), (1, .int 0), (0, .ref h0)]) hx hb dX4_fewestSounds_46 hl (k := 1) rfl (by first | rfl | decide) (by decide) rfl (fun ls hl => ?_)
  refine lv_goto (tgt := 4) hx hb dX4_fewestSounds_49 (by decide) ?_
  refine lv_iload_n hx hb dX4_fewestSounds_4 rfl (lv_at hl 0 rfl) ?_
  refine lv_bipush (v := 64) hx hb dX4_fewestSounds_5 (by decide) ?_
  refine lv_icmp_ge (tgt := 52) hx hb dX4_fewestSounds_7 (by decide) (fun h => absurd h (by decide)) (fun _ => ?_)
  refine lv_iload_n hx hb dX4_fewestSounds_10 rfl (lv_at hl 2 rfl) ?_
  refine lv_iconst (v := (-1)) hx hb dX4_fewestSounds_11 (by decide) ?_
  refine lv_icmp_eq (tgt := 26) hx hb dX4_fewestSounds_12 (by decide) (fun h => absurd h (by decide)) (fun _ => ?_)
  refine lv_iload_n hx hb dX4_fewestSounds_15 rfl (lv_at hl 0 rfl) ?_
  refine vp_callSi (mkSr (rest := []) ⟨hx, hb, hml, hown, htl⟩ hN hK (c_J_ibc l G cs 48) (cS 1 htl lk_RX4_62 mT_J6_bitCount_0f7a4 mN_RJ6 mC_J6_bitCount_0f7a4 ok_J6_bitCount_0f7a4 rfl rfl ⟨(Nat.le_of_ble_eq_true rfl), (Nat.le_of_ble_eq_true rfl)⟩) rfl hl.1 rfl (Nat.le_of_ble_eq_true rfl) dX4_fewestSounds_16 ⟨(Nat.le_of_ble_eq_true rfl), (Nat.le_of_ble_eq_true rfl)⟩) (fun r hw => ?_)
  obtain rfl : r = 2 := hw.trans (by first | decide +kernel | rfl)
  refine lv_iload_n hx hb dX4_fewestSounds_19 rfl (lv_at hl 2 rfl) ?_
  refine vp_callSi (mkSr (rest := [.int 2]) ⟨hx, hb, hml, hown, htl⟩ hN hK (c_J_ibc l G cs 0) (cS 1 htl lk_RX4_62 mT_J6_bitCount_0f7a4 mN_RJ6 mC_J6_bitCount_0f7a4 ok_J6_bitCount_0f7a4 rfl rfl ⟨(Nat.le_of_ble_eq_true rfl), (Nat.le_of_ble_eq_true rfl)⟩) rfl hl.1 rfl (Nat.le_of_ble_eq_true rfl) dX4_fewestSounds_20 ⟨(Nat.le_of_ble_eq_true rfl), (Nat.le_of_ble_eq_true rfl)⟩) (fun r hw => ?_)
  obtain rfl : r = 0 := hw.trans (by first | decide +kernel | rfl)
  refine lv_icmp_ge (tgt := 30) hx hb dX4_fewestSounds_23 (by decide) (fun _ => ?_) (fun h => absurd (by decide) h)
  refine lv_iconst (v := 0) hx hb dX4_fewestSounds_30 (by decide) ?_
  refine lv_istore_n (lv' := [(3, .int 0), (2, .int 48), (1, .int 0), (0, .ref h0)]) hx hb dX4_fewestSounds_31 rfl hl (by decide) rfl (fun ls hl => ?_)
  refine lv_iload_n hx hb dX4_fewestSounds_32 rfl (lv_at hl 0 rfl) ?_
  refine lv_if_eq (tgt := 46) hx hb dX4_fewestSounds_33 (by decide) (fun _ => ?_) (fun h => absurd (by decide) h)
  refine lv_iinc (v := 49) (lv' := [(2, .int 49), (3, .int 0), (1, .int 0), (0, .ref h0)]) hx hb dX4_fewestSounds_46 hl (k := 1) rfl (by first | rfl | decide) (by decide) rfl (fun ls hl => ?_)
  refine lv_goto (tgt := 4) hx hb dX4_fewestSounds_49 (by decide) ?_
  refine lv_iload_n hx hb dX4_fewestSounds_4 rfl (lv_at hl 0 rfl) ?_
  refine lv_bipush (v := 64) hx hb dX4_fewestSounds_5 (by decide) ?_
  refine lv_icmp_ge (tgt := 52) hx hb dX4_fewestSounds_7 (by decide) (fun h => absurd h (by decide)) (fun _ => ?_)
  refine lv_iload_n hx hb dX4_fewestSounds_10 rfl (lv_at hl 2 rfl) ?_
  refine lv_iconst (v := (-1)) hx hb dX4_fewestSounds_11 (by decide) ?_
  refine lv_icmp_eq (tgt := 26) hx hb dX4_fewestSounds_12 (by decide) (fun h => absurd h (by decide)) (fun _ => ?_)
  refine lv_iload_n hx hb dX4_fewestSounds_15 rfl (lv_at hl 0 rfl) ?_
  refine vp_callSi (mkSr (rest := []) ⟨hx, hb, hml, hown, htl⟩ hN hK (c_J_ibc l G cs 49) (cS 1 htl lk_RX4_62 mT_J6_bitCount_0f7a4 mN_RJ6 mC_J6_bitCount_0f7a4 ok_J6_bitCount_0f7a4 rfl rfl ⟨(Nat.le_of_ble_eq_true rfl), (Nat.le_of_ble_eq_true rfl)⟩) rfl hl.1 rfl (Nat.le_of_ble_eq_true rfl) dX4_fewestSounds_16 ⟨(Nat.le_of_ble_eq_true rfl), (Nat.le_of_ble_eq_true rfl)⟩) (fun r hw => ?_)
  obtain rfl : r = 3 := hw.trans (by first | decide +kernel | rfl)
  refine lv_iload_n hx hb dX4_fewestSounds_19 rfl (lv_at hl 2 rfl) ?_
  refine vp_callSi (mkSr (rest := [.int 3]) ⟨hx, hb, hml, hown, htl⟩ hN hK (c_J_ibc l G cs 0) (cS 1 htl lk_RX4_62 mT_J6_bitCount_0f7a4 mN_RJ6 mC_J6_bitCount_0f7a4 ok_J6_bitCount_0f7a4 rfl rfl ⟨(Nat.le_of_ble_eq_true rfl), (Nat.le_of_ble_eq_true rfl)⟩) rfl hl.1 rfl (Nat.le_of_ble_eq_true rfl) dX4_fewestSounds_20 ⟨(Nat.le_of_ble_eq_true rfl), (Nat.le_of_ble_eq_true rfl)⟩) (fun r hw => ?_)
  obtain rfl : r = 0 := hw.trans (by first | decide +kernel | rfl)
  refine lv_icmp_ge (tgt := 30) hx hb dX4_fewestSounds_23 (by decide) (fun _ => ?_) (fun h => absurd (by decide) h)
  refine lv_iconst (v := 0) hx hb dX4_fewestSounds_30 (by decide) ?_
  refine lv_istore_n (lv' := [(3, .int 0), (2, .int 49), (1, .int 0), (0, .ref h0)]) hx hb dX4_fewestSounds_31 rfl hl (by decide) rfl (fun ls hl => ?_)
  refine lv_iload_n hx hb dX4_fewestSounds_32 rfl (lv_at hl 0 rfl) ?_
  refine lv_if_eq (tgt := 46) hx hb dX4_fewestSounds_33 (by decide) (fun _ => ?_) (fun h => absurd (by decide) h)
  refine lv_iinc (v := 50) (lv' := [(2, .int 50), (3, .int 0), (1, .int 0), (0, .ref h0)]) hx hb dX4_fewestSounds_46 hl (k := 1) rfl (by first | rfl | decide) (by decide) rfl (fun ls hl => ?_)
  refine lv_goto (tgt := 4) hx hb dX4_fewestSounds_49 (by decide) ?_
  refine lv_iload_n hx hb dX4_fewestSounds_4 rfl (lv_at hl 0 rfl) ?_
  refine lv_bipush (v := 64) hx hb dX4_fewestSounds_5 (by decide) ?_
  refine lv_icmp_ge (tgt := 52) hx hb dX4_fewestSounds_7 (by decide) (fun h => absurd h (by decide)) (fun _ => ?_)
  refine lv_iload_n hx hb dX4_fewestSounds_10 rfl (lv_at hl 2 rfl) ?_
  refine lv_iconst (v := (-1)) hx hb dX4_fewestSounds_11 (by decide) ?_
  refine lv_icmp_eq (tgt := 26) hx hb dX4_fewestSounds_12 (by decide) (fun h => absurd h (by decide)) (fun _ => ?_)
  refine lv_iload_n hx hb dX4_fewestSounds_15 rfl (lv_at hl 0 rfl) ?_
  refine vp_callSi (mkSr (rest := []) ⟨hx, hb, hml, hown, htl⟩ hN hK (c_J_ibc l G cs 50) (cS 1 htl lk_RX4_62 mT_J6_bitCount_0f7a4 mN_RJ6 mC_J6_bitCount_0f7a4 ok_J6_bitCount_0f7a4 rfl rfl ⟨(Nat.le_of_ble_eq_true rfl), (Nat.le_of_ble_eq_true rfl)⟩) rfl hl.1 rfl (Nat.le_of_ble_eq_true rfl) dX4_fewestSounds_16 ⟨(Nat.le_of_ble_eq_true rfl), (Nat.le_of_ble_eq_true rfl)⟩) (fun r hw => ?_)
  obtain rfl : r = 3 := hw.trans (by first | decide +kernel | rfl)
  refine lv_iload_n hx hb dX4_fewestSounds_19 rfl (lv_at hl 2 rfl) ?_
  refine vp_callSi (mkSr (rest := [.int 3]) ⟨hx, hb, hml, hown, htl⟩ hN hK (c_J_ibc l G cs 0) (cS 1 htl lk_RX4_62 mT_J6_bitCount_0f7a4 mN_RJ6 mC_J6_bitCount_0f7a4 ok_J6_bitCount_0f7a4 rfl rfl ⟨(Nat.le_of_ble_eq_true rfl), (Nat.le_of_ble_eq_true rfl)⟩) rfl hl.1 rfl (Nat.le_of_ble_eq_true rfl) dX4_fewestSounds_20 ⟨(Nat.le_of_ble_eq_true rfl), (Nat.le_of_ble_eq_true rfl)⟩) (fun r hw => ?_)
  obtain rfl : r = 0 := hw.trans (by first | decide +kernel | rfl)
  refine lv_icmp_ge (tgt := 30) hx hb dX4_fewestSounds_23 (by decide) (fun _ => ?_) (fun h => absurd (by decide) h)
  refine lv_iconst (v := 0) hx hb dX4_fewestSounds_30 (by decide) ?_
  refine lv_istore_n (lv' := [(3, .int 0), (2, .int 50), (1, .int 0), (0, .ref h0)]) hx hb dX4_fewestSounds_31 rfl hl (by decide) rfl (fun ls hl => ?_)
  refine lv_iload_n hx hb dX4_fewestSounds_32 rfl (lv_at hl 0 rfl) ?_
  refine lv_if_eq (tgt := 46) hx hb dX4_fewestSounds_33 (by decide) (fun _ => ?_) (fun h => absurd (by decide) h)
  refine lv_iinc (v := 51) (lv' := [(2, .int 51), (3, .int 0), (1, .int 0), (0, .ref h0)]) hx hb dX4_fewestSounds_46 hl (k := 1) rfl (by first | rfl | decide) (by decide) rfl (fun ls hl => ?_)
  refine lv_goto (tgt := 4) hx hb dX4_fewestSounds_49 (by decide) ?_
  refine lv_iload_n hx hb dX4_fewestSounds_4 rfl (lv_at hl 0 rfl) ?_
  refine lv_bipush (v := 64) hx hb dX4_fewestSounds_5 (by decide) ?_
  refine lv_icmp_ge (tgt := 52) hx hb dX4_fewestSounds_7 (by decide) (fun h => absurd h (by decide)) (fun _ => ?_)
  refine lv_iload_n hx hb dX4_fewestSounds_10 rfl (lv_at hl 2 rfl) ?_
  refine lv_iconst (v := (-1)) hx hb dX4_fewestSounds_11 (by decide) ?_
  refine lv_icmp_eq (tgt := 26) hx hb dX4_fewestSounds_12 (by decide) (fun h => absurd h (by decide)) (fun _ => ?_)
  refine lv_iload_n hx hb dX4_fewestSounds_15 rfl (lv_at hl 0 rfl) ?_
  refine vp_callSi (mkSr (rest := []) ⟨hx, hb, hml, hown, htl⟩ hN hK (c_J_ibc l G cs 51) (cS 1 htl lk_RX4_62 mT_J6_bitCount_0f7a4 mN_RJ6 mC_J6_bitCount_0f7a4 ok_J6_bitCount_0f7a4 rfl rfl ⟨(Nat.le_of_ble_eq_true rfl), (Nat.le_of_ble_eq_true rfl)⟩) rfl hl.1 rfl (Nat.le_of_ble_eq_true rfl) dX4_fewestSounds_16 ⟨(Nat.le_of_ble_eq_true rfl), (Nat.le_of_ble_eq_true rfl)⟩) (fun r hw => ?_)
  obtain rfl : r = 4 := hw.trans (by first | decide +kernel | rfl)
  refine lv_iload_n hx hb dX4_fewestSounds_19 rfl (lv_at hl 2 rfl) ?_
  refine vp_callSi (mkSr (rest := [.int 4]) ⟨hx, hb, hml, hown, htl⟩ hN hK (c_J_ibc l G cs 0) (cS 1 htl lk_RX4_62 mT_J6_bitCount_0f7a4 mN_RJ6 mC_J6_bitCount_0f7a4 ok_J6_bitCount_0f7a4 rfl rfl ⟨(Nat.le_of_ble_eq_true rfl), (Nat.le_of_ble_eq_true rfl)⟩) rfl hl.1 rfl (Nat.le_of_ble_eq_true rfl) dX4_fewestSounds_20 ⟨(Nat.le_of_ble_eq_true rfl), (Nat.le_of_ble_eq_true rfl)⟩) (fun r hw => ?_)
  obtain rfl : r = 0 := hw.trans (by first | decide +kernel | rfl)
  refine lv_icmp_ge (tgt := 30) hx hb dX4_fewestSounds_23 (by decide) (fun _ => ?_) (fun h => absurd (by decide) h)
  refine lv_iconst (v := 0) hx hb dX4_fewestSounds_30 (by decide) ?_
  refine lv_istore_n (lv' := [(3, .int 0), (2, .int 51), (1, .int 0), (0, .ref h0)]) hx hb dX4_fewestSounds_31 rfl hl (by decide) rfl (fun ls hl => ?_)
  refine lv_iload_n hx hb dX4_fewestSounds_32 rfl (lv_at hl 0 rfl) ?_
  refine lv_if_eq (tgt := 46) hx hb dX4_fewestSounds_33 (by decide) (fun _ => ?_) (fun h => absurd (by decide) h)
  refine lv_iinc (v := 52) (lv' := [(2, .int 52), (3, .int 0), (1, .int 0), (0, .ref h0)]) hx hb dX4_fewestSounds_46 hl (k := 1) rfl (by first | rfl | decide) (by decide) rfl (fun ls hl => ?_)
  refine lv_goto (tgt := 4) hx hb dX4_fewestSounds_49 (by decide) ?_
  refine lv_iload_n hx hb dX4_fewestSounds_4 rfl (lv_at hl 0 rfl) ?_
  refine lv_bipush (v := 64) hx hb dX4_fewestSounds_5 (by decide) ?_
  refine lv_icmp_ge (tgt := 52) hx hb dX4_fewestSounds_7 (by decide) (fun h => absurd h (by decide)) (fun _ => ?_)
  refine lv_iload_n hx hb dX4_fewestSounds_10 rfl (lv_at hl 2 rfl) ?_
  refine lv_iconst (v := (-1)) hx hb dX4_fewestSounds_11 (by decide) ?_
  refine lv_icmp_eq (tgt := 26) hx hb dX4_fewestSounds_12 (by decide) (fun h => absurd h (by decide)) (fun _ => ?_)
  refine lv_iload_n hx hb dX4_fewestSounds_15 rfl (lv_at hl 0 rfl) ?_
  refine vp_callSi (mkSr (rest := []) ⟨hx, hb, hml, hown, htl⟩ hN hK (c_J_ibc l G cs 52) (cS 1 htl lk_RX4_62 mT_J6_bitCount_0f7a4 mN_RJ6 mC_J6_bitCount_0f7a4 ok_J6_bitCount_0f7a4 rfl rfl ⟨(Nat.le_of_ble_eq_true rfl), (Nat.le_of_ble_eq_true rfl)⟩) rfl hl.1 rfl (Nat.le_of_ble_eq_true rfl) dX4_fewestSounds_16 ⟨(Nat.le_of_ble_eq_true rfl), (Nat.le_of_ble_eq_true rfl)⟩) (fun r hw => ?_)
  obtain rfl : r = 3 := hw.trans (by first | decide +kernel | rfl)
  refine lv_iload_n hx hb dX4_fewestSounds_19 rfl (lv_at hl 2 rfl) ?_
  refine vp_callSi (mkSr (rest := [.int 3]) ⟨hx, hb, hml, hown, htl⟩ hN hK (c_J_ibc l G cs 0) (cS 1 htl lk_RX4_62 mT_J6_bitCount_0f7a4 mN_RJ6 mC_J6_bitCount_0f7a4 ok_J6_bitCount_0f7a4 rfl rfl ⟨(Nat.le_of_ble_eq_true rfl), (Nat.le_of_ble_eq_true rfl)⟩) rfl hl.1 rfl (Nat.le_of_ble_eq_true rfl) dX4_fewestSounds_20 ⟨(Nat.le_of_ble_eq_true rfl), (Nat.le_of_ble_eq_true rfl)⟩) (fun r hw => ?_)
  obtain rfl : r = 0 := hw.trans (by first | decide +kernel | rfl)
  refine lv_icmp_ge (tgt := 30) hx hb dX4_fewestSounds_23 (by decide) (fun _ => ?_) (fun h => absurd (by decide) h)
  refine lv_iconst (v := 0) hx hb dX4_fewestSounds_30 (by decide) ?_
  refine lv_istore_n (lv' := [(3, .int 0), (2, .int 52), (1, .int 0), (0, .ref h0)]) hx hb dX4_fewestSounds_31 rfl hl (by decide) rfl (fun ls hl => ?_)
  refine lv_iload_n hx hb dX4_fewestSounds_32 rfl (lv_at hl 0 rfl) ?_
  refine lv_if_eq (tgt := 46) hx hb dX4_fewestSounds_33 (by decide) (fun _ => ?_) (fun h => absurd (by decide) h)
  refine lv_iinc (v := 53) (lv' := [(2, .int 53), (3, .int 0), (1, .int 0), (0, .ref h0)]) hx hb dX4_fewestSounds_46 hl (k := 1) rfl (by first | rfl | decide) (by decide) rfl (fun ls hl => ?_)
  refine lv_goto (tgt := 4) hx hb dX4_fewestSounds_49 (by decide) ?_
  refine lv_iload_n hx hb dX4_fewestSounds_4 rfl (lv_at hl 0 rfl) ?_
  refine lv_bipush (v := 64) hx hb dX4_fewestSounds_5 (by decide) ?_
  refine lv_icmp_ge (tgt := 52) hx hb dX4_fewestSounds_7 (by decide) (fun h => absurd h (by decide)) (fun _ => ?_)
  refine lv_iload_n hx hb dX4_fewestSounds_10 rfl (lv_at hl 2 rfl) ?_
  refine lv_iconst (v := (-1)) hx hb dX4_fewestSounds_11 (by decide) ?_
  refine lv_icmp_eq (tgt := 26) hx hb dX4_fewestSounds_12 (by decide) (fun h => absurd h (by decide)) (fun _ => ?_)
  refine lv_iload_n hx hb dX4_fewestSounds_15 rfl (lv_at hl 0 rfl) ?_
  refine vp_callSi (mkSr (rest := []) ⟨hx, hb, hml, hown, htl⟩ hN hK (c_J_ibc l G cs 53) (cS 1 htl lk_RX4_62 mT_J6_bitCount_0f7a4 mN_RJ6 mC_J6_bitCount_0f7a4 ok_J6_bitCount_0f7a4 rfl rfl ⟨(Nat.le_of_ble_eq_true rfl), (Nat.le_of_ble_eq_true rfl)⟩) rfl hl.1 rfl (Nat.le_of_ble_eq_true rfl) dX4_fewestSounds_16 ⟨(Nat.le_of_ble_eq_true rfl), (Nat.le_of_ble_eq_true rfl)⟩) (fun r hw => ?_)
  obtain rfl : r = 4 := hw.trans (by first | decide +kernel | rfl)
  refine lv_iload_n hx hb dX4_fewestSounds_19 rfl (lv_at hl 2 rfl) ?_
  refine vp_callSi (mkSr (rest := [.int 4]) ⟨hx, hb, hml, hown, htl⟩ hN hK (c_J_ibc l G cs 0) (cS 1 htl lk_RX4_62 mT_J6_bitCount_0f7a4 mN_RJ6 mC_J6_bitCount_0f7a4 ok_J6_bitCount_0f7a4 rfl rfl ⟨(Nat.le_of_ble_eq_true rfl), (Nat.le_of_ble_eq_true rfl)⟩) rfl hl.1 rfl (Nat.le_of_ble_eq_true rfl) dX4_fewestSounds_20 ⟨(Nat.le_of_ble_eq_true rfl), (Nat.le_of_ble_eq_true rfl)⟩) (fun r hw => ?_)
  obtain rfl : r = 0 := hw.trans (by first | decide +kernel | rfl)
  refine lv_icmp_ge (tgt := 30) hx hb dX4_fewestSounds_23 (by decide) (fun _ => ?_) (fun h => absurd (by decide) h)
  refine lv_iconst (v := 0) hx hb dX4_fewestSounds_30 (by decide) ?_
  refine lv_istore_n (lv' := [(3, .int 0), (2, .int 53), (1, .int 0), (0, .ref h0)]) hx hb dX4_fewestSounds_31 rfl hl (by decide) rfl (fun ls hl => ?_)
  refine lv_iload_n hx hb dX4_fewestSounds_32 rfl (lv_at hl 0 rfl) ?_
  refine lv_if_eq (tgt := 46) hx hb dX4_fewestSounds_33 (by decide) (fun _ => ?_) (fun h => absurd (by decide) h)
  refine lv_iinc (v := 54) (lv' := [(2, .int 54), (3, .int 0), (1, .int 0), (0, .ref h0)]) hx hb dX4_fewestSounds_46 hl (k := 1) rfl (by first | rfl | decide) (by decide) rfl (fun ls hl => ?_)
  refine lv_goto (tgt := 4) hx hb dX4_fewestSounds_49 (by decide) ?_
  refine lv_iload_n hx hb dX4_fewestSounds_4 rfl (lv_at hl 0 rfl) ?_
  refine lv_bipush (v := 64) hx hb dX4_fewestSounds_5 (by decide) ?_
  refine lv_icmp_ge (tgt := 52) hx hb dX4_fewestSounds_7 (by decide) (fun h => absurd h (by decide)) (fun _ => ?_)
  refine lv_iload_n hx hb dX4_fewestSounds_10 rfl (lv_at hl 2 rfl) ?_
  refine lv_iconst (v := (-1)) hx hb dX4_fewestSounds_11 (by decide) ?_
  refine lv_icmp_eq (tgt := 26) hx hb dX4_fewestSounds_12 (by decide) (fun h => absurd h (by decide)) (fun _ => ?_)
  refine lv_iload_n hx hb dX4_fewestSounds_15 rfl (lv_at hl 0 rfl) ?_
  refine vp_callSi (mkSr (rest := []) ⟨hx, hb, hml, hown, htl⟩ hN hK (c_J_ibc l G cs 54) (cS 1 htl lk_RX4_62 mT_J6_bitCount_0f7a4 mN_RJ6 mC_J6_bitCount_0f7a4 ok_J6_bitCount_0f7a4 rfl rfl ⟨(Nat.le_of_ble_eq_true rfl), (Nat.le_of_ble_eq_true rfl)⟩) rfl hl.1 rfl (Nat.le_of_ble_eq_true rfl) dX4_fewestSounds_16 ⟨(Nat.le_of_ble_eq_true rfl), (Nat.le_of_ble_eq_true rfl)⟩) (fun r hw => ?_)
  obtain rfl : r = 4 := hw.trans (by first | decide +kernel | rfl)
  refine lv_iload_n hx hb dX4_fewestSounds_19 rfl (lv_at hl 2 rfl) ?_
  refine vp_callSi (mkSr (rest := [.int 4]) ⟨hx, hb, hml, hown, htl⟩ hN hK (c_J_ibc l G cs 0) (cS 1 htl lk_RX4_62 mT_J6_bitCount_0f7a4 mN_RJ6 mC_J6_bitCount_0f7a4 ok_J6_bitCount_0f7a4 rfl rfl ⟨(Nat.le_of_ble_eq_true rfl), (Nat.le_of_ble_eq_true rfl)⟩) rfl hl.1 rfl (Nat.le_of_ble_eq_true rfl) dX4_fewestSounds_20 ⟨(Nat.le_of_ble_eq_true rfl), (Nat.le_of_ble_eq_true rfl)⟩) (fun r hw => ?_)
  obtain rfl : r = 0 := hw.trans (by first | decide +kernel | rfl)
  refine lv_icmp_ge (tgt := 30) hx hb dX4_fewestSounds_23 (by decide) (fun _ => ?_) (fun h => absurd (by decide) h)
  refine lv_iconst (v := 0) hx hb dX4_fewestSounds_30 (by decide) ?_
  refine lv_istore_n (lv' := [(3, .int 0), (2, .int 54), (1, .int 0), (0, .ref h0)]) hx hb dX4_fewestSounds_31 rfl hl (by decide) rfl (fun ls hl => ?_)
  refine lv_iload_n hx hb dX4_fewestSounds_32 rfl (lv_at hl 0 rfl) ?_
  refine lv_if_eq (tgt := 46) hx hb dX4_fewestSounds_33 (by decide) (fun _ => ?_) (fun h => absurd (by decide) h)
  refine lv_iinc (v := 55) (lv' := [(2, .int 55), (3, .int 0), (1, .int 0), (0, .ref h0)]) hx hb dX4_fewestSounds_46 hl (k := 1) rfl (by first | rfl | decide) (by decide) rfl (fun ls hl => ?_)
  refine lv_goto (tgt := 4) hx hb dX4_fewestSounds_49 (by decide) ?_
  refine lv_iload_n hx hb dX4_fewestSounds_4 rfl (lv_at hl 0 rfl) ?_
  refine lv_bipush (v := 64) hx hb dX4_fewestSounds_5 (by decide) ?_
  refine lv_icmp_ge (tgt := 52) hx hb dX4_fewestSounds_7 (by decide) (fun h => absurd h (by decide)) (fun _ => ?_)
  refine lv_iload_n hx hb dX4_fewestSounds_10 rfl (lv_at hl 2 rfl) ?_
  refine lv_iconst (v := (-1)) hx hb dX4_fewestSounds_11 (by decide) ?_
  refine lv_icmp_eq (tgt := 26) hx hb dX4_fewestSounds_12 (by decide) (fun h => absurd h (by decide)) (fun _ => ?_)
  refine lv_iload_n hx hb dX4_fewestSounds_15 rfl (lv_at hl 0 rfl) ?_
  refine vp_callSi (mkSr (rest := []) ⟨hx, hb, hml, hown, htl⟩ hN hK (c_J_ibc l G cs 55) (cS 1 htl lk_RX4_62 mT_J6_bitCount_0f7a4 mN_RJ6 mC_J6_bitCount_0f7a4 ok_J6_bitCount_0f7a4 rfl rfl ⟨(Nat.le_of_ble_eq_true rfl), (Nat.le_of_ble_eq_true rfl)⟩) rfl hl.1 rfl (Nat.le_of_ble_eq_true rfl) dX4_fewestSounds_16 ⟨(Nat.le_of_ble_eq_true rfl), (Nat.le_of_ble_eq_true rfl)⟩) (fun r hw => ?_)
  obtain rfl : r = 5 := hw.trans (by first | decide +kernel | rfl)
  refine lv_iload_n hx hb dX4_fewestSounds_19 rfl (lv_at hl 2 rfl) ?_
  refine vp_callSi (mkSr (rest := [.int 5]) ⟨hx, hb, hml, hown, htl⟩ hN hK (c_J_ibc l G cs 0) (cS 1 htl lk_RX4_62 mT_J6_bitCount_0f7a4 mN_RJ6 mC_J6_bitCount_0f7a4 ok_J6_bitCount_0f7a4 rfl rfl ⟨(Nat.le_of_ble_eq_true rfl), (Nat.le_of_ble_eq_true rfl)⟩) rfl hl.1 rfl (Nat.le_of_ble_eq_true rfl) dX4_fewestSounds_20 ⟨(Nat.le_of_ble_eq_true rfl), (Nat.le_of_ble_eq_true rfl)⟩) (fun r hw => ?_)
  obtain rfl : r = 0 := hw.trans (by first | decide +kernel | rfl)
  refine lv_icmp_ge (tgt := 30) hx hb dX4_fewestSounds_23 (by decide) (fun _ => ?_) (fun h => absurd (by decide) h)
  refine lv_iconst (v := 0) hx hb dX4_fewestSounds_30 (by decide) ?_
  refine lv_istore_n (lv' := [(3, .int 0), (2, .int 55), (1, .int 0), (0, .ref h0)]) hx hb dX4_fewestSounds_31 rfl hl (by decide) rfl (fun ls hl => ?_)
  refine lv_iload_n hx hb dX4_fewestSounds_32 rfl (lv_at hl 0 rfl) ?_
  refine lv_if_eq (tgt := 46) hx hb dX4_fewestSounds_33 (by decide) (fun _ => ?_) (fun h => absurd (by decide) h)
  refine lv_iinc (v := 56) (lv' := [(2, .int 56), (3, .int 0), (1, .int 0), (0, .ref h0)]) hx hb dX4_fewestSounds_46 hl (k := 1) rfl (by first | rfl | decide) (by decide) rfl (fun ls hl => ?_)
  refine lv_goto (tgt := 4) hx hb dX4_fewestSounds_49 (by decide) ?_
  refine lv_iload_n hx hb dX4_fewestSounds_4 rfl (lv_at hl 0 rfl) ?_
  refine lv_bipush (v := 64) hx hb dX4_fewestSounds_5 (by decide) ?_
  refine lv_icmp_ge (tgt := 52) hx hb dX4_fewestSounds_7 (by decide) (fun h => absurd h (by decide)) (fun _ => ?_)
  refine lv_iload_n hx hb dX4_fewestSounds_10 rfl (lv_at hl 2 rfl) ?_
  refine lv_iconst (v := (-1)) hx hb dX4_fewestSounds_11 (by decide) ?_
  refine lv_icmp_eq (tgt := 26) hx hb dX4_fewestSounds_12 (by decide) (fun h => absurd h (by decide)) (fun _ => ?_)
  refine lv_iload_n hx hb dX4_fewestSounds_15 rfl (lv_at hl 0 rfl) ?_
  refine vp_callSi (mkSr (rest := []) ⟨hx, hb, hml, hown, htl⟩ hN hK (c_J_ibc l G cs 56) (cS 1 htl lk_RX4_62 mT_J6_bitCount_0f7a4 mN_RJ6 mC_J6_bitCount_0f7a4 ok_J6_bitCount_0f7a4 rfl rfl ⟨(Nat.le_of_ble_eq_true rfl), (Nat.le_of_ble_eq_true rfl)⟩) rfl hl.1 rfl (Nat.le_of_ble_eq_true rfl) dX4_fewestSounds_16 ⟨(Nat.le_of_ble_eq_true rfl), (Nat.le_of_ble_eq_true rfl)⟩) (fun r hw => ?_)
  obtain rfl : r = 3 := hw.trans (by first | decide +kernel | rfl)
  refine lv_iload_n hx hb dX4_fewestSounds_19 rfl (lv_at hl 2 rfl) ?_
  refine vp_callSi (mkSr (rest := [.int 3]) ⟨hx, hb, hml, hown, htl⟩ hN hK (c_J_ibc l G cs 0) (cS 1 htl lk_RX4_62 mT_J6_bitCount_0f7a4 mN_RJ6 mC_J6_bitCount_0f7a4 ok_J6_bitCount_0f7a4 rfl rfl ⟨(Nat.le_of_ble_eq_true rfl), (Nat.le_of_ble_eq_true rfl)⟩) rfl hl.1 rfl (Nat.le_of_ble_eq_true rfl) dX4_fewestSounds_20 ⟨(Nat.le_of_ble_eq_true rfl), (Nat.le_of_ble_eq_true rfl)⟩) (fun r hw => ?_)
  obtain rfl : r = 0 := hw.trans (by first | decide +kernel | rfl)
  refine lv_icmp_ge (tgt := 30) hx hb dX4_fewestSounds_23 (by decide) (fun _ => ?_) (fun h => absurd (by decide) h)
  refine lv_iconst (v := 0) hx hb dX4_fewestSounds_30 (by decide) ?_
  refine lv_istore_n (lv' := [(3, .int 0), (2, .int 56), (1, .int 0), (0, .ref h0)]) hx hb dX4_fewestSounds_31 rfl hl (by decide) rfl (fun ls hl => ?_)
  refine lv_iload_n hx hb dX4_fewestSounds_32 rfl (lv_at hl 0 rfl) ?_
  refine lv_if_eq (tgt := 46) hx hb dX4_fewestSounds_33 (by decide) (fun _ => ?_) (fun h => absurd (by decide) h)
  refine lv_iinc (v := 57) (lv' := [(2, .int 57), (3, .int 0), (1, .int 0), (0, .ref h0)]) hx hb dX4_fewestSounds_46 hl (k := 1) rfl (by first | rfl | decide) (by decide) rfl (fun ls hl => ?_)
  refine lv_goto (tgt := 4) hx hb dX4_fewestSounds_49 (by decide) ?_
  refine lv_iload_n hx hb dX4_fewestSounds_4 rfl (lv_at hl 0 rfl) ?_
  refine lv_bipush (v := 64) hx hb dX4_fewestSounds_5 (by decide) ?_
  refine lv_icmp_ge (tgt := 52) hx hb dX4_fewestSounds_7 (by decide) (fun h => absurd h (by decide)) (fun _ => ?_)
  refine lv_iload_n hx hb dX4_fewestSounds_10 rfl (lv_at hl 2 rfl) ?_
  refine lv_iconst (v := (-1)) hx hb dX4_fewestSounds_11 (by decide) ?_
  refine lv_icmp_eq (tgt := 26) hx hb dX4_fewestSounds_12 (by decide) (fun h => absurd h (by decide)) (fun _ => ?_)
  refine lv_iload_n hx hb dX4_fewestSounds_15 rfl (lv_at hl 0 rfl) ?_
  refine vp_callSi (mkSr (rest := []) ⟨hx, hb, hml, hown, htl⟩ hN hK (c_J_ibc l G cs 57) (cS 1 htl lk_RX4_62 mT_J6_bitCount_0f7a4 mN_RJ6 mC_J6_bitCount_0f7a4 ok_J6_bitCount_0f7a4 rfl rfl ⟨(Nat.le_of_ble_eq_true rfl), (Nat.le_of_ble_eq_true rfl)⟩) rfl hl.1 rfl (Nat.le_of_ble_eq_true rfl) dX4_fewestSounds_16 ⟨(Nat.le_of_ble_eq_true rfl), (Nat.le_of_ble_eq_true rfl)⟩) (fun r hw => ?_)
  obtain rfl : r = 4 := hw.trans (by first | decide +kernel | rfl)
  refine lv_iload_n hx hb dX4_fewestSounds_19 rfl (lv_at hl 2 rfl) ?_
  refine vp_callSi (mkSr (rest := [.int 4]) ⟨hx, hb, hml, hown, htl⟩ hN hK (c_J_ibc l G cs 0) (cS 1 htl lk_RX4_62 mT_J6_bitCount_0f7a4 mN_RJ6 mC_J6_bitCount_0f7a4 ok_J6_bitCount_0f7a4 rfl rfl ⟨(Nat.le_of_ble_eq_true rfl), (Nat.le_of_ble_eq_true rfl)⟩) rfl hl.1 rfl (Nat.le_of_ble_eq_true rfl) dX4_fewestSounds_20 ⟨(Nat.le_of_ble_eq_true rfl), (Nat.le_of_ble_eq_true rfl)⟩) (fun r hw => ?_)
  obtain rfl : r = 0 := hw.trans (by first | decide +kernel | rfl)
  refine lv_icmp_ge (tgt := 30) hx hb dX4_fewestSounds_23 (by decide) (fun _ => ?_) (fun h => absurd (by decide) h)
  refine lv_iconst (v := 0) hx hb dX4_fewestSounds_30 (by decide) ?_
  refine lv_istore_n (lv' := [(3, .int 0), (2, .int 57), (1, .int 0), (0, .ref h0)]) hx hb dX4_fewestSounds_31 rfl hl (by decide) rfl (fun ls hl => ?_)
  refine lv_iload_n hx hb dX4_fewestSounds_32 rfl (lv_at hl 0 rfl) ?_
  refine lv_if_eq (tgt := 46) hx hb dX4_fewestSounds_33 (by decide) (fun _ => ?_) (fun h => absurd (by decide) h)
  refine lv_iinc (v := 58) (lv' := [(2, .int 58), (3, .int 0), (1, .int 0), (0, .ref h0)]) hx hb dX4_fewestSounds_46 hl (k := 1) rfl (by first | rfl | decide) (by decide) rfl (fun ls hl => ?_)
  refine lv_goto (tgt := 4) hx hb dX4_fewestSounds_49 (by decide) ?_
  refine lv_iload_n hx hb dX4_fewestSounds_4 rfl (lv_at hl 0 rfl) ?_
  refine lv_bipush (v := 64) hx hb dX4_fewestSounds_5 (by decide) ?_
  refine lv_icmp_ge (tgt := 52) hx hb dX4_fewestSounds_7 (by decide) (fun h => absurd h (by decide)) (fun _ => ?_)
  refine lv_iload_n hx hb dX4_fewestSounds_10 rfl (lv_at hl 2 rfl) ?_
  refine lv_iconst (v := (-1)) hx hb dX4_fewestSounds_11 (by decide) ?_
  refine lv_icmp_eq (tgt := 26) hx hb dX4_fewestSounds_12 (by decide) (fun h => absurd h (by decide)) (fun _ => ?_)
  refine lv_iload_n hx hb dX4_fewestSounds_15 rfl (lv_at hl 0 rfl) ?_
  refine vp_callSi (mkSr (rest := []) ⟨hx, hb, hml, hown, htl⟩ hN hK (c_J_ibc l G cs 58) (cS 1 htl lk_RX4_62 mT_J6_bitCount_0f7a4 mN_RJ6 mC_J6_bitCount_0f7a4 ok_J6_bitCount_0f7a4 rfl rfl ⟨(Nat.le_of_ble_eq_true rfl), (Nat.le_of_ble_eq_true rfl)⟩) rfl hl.1 rfl (Nat.le_of_ble_eq_true rfl) dX4_fewestSounds_16 ⟨(Nat.le_of_ble_eq_true rfl), (Nat.le_of_ble_eq_true rfl)⟩) (fun r hw => ?_)
  obtain rfl : r = 4 := hw.trans (by first | decide +kernel | rfl)
  refine lv_iload_n hx hb dX4_fewestSounds_19 rfl (lv_at hl 2 rfl) ?_
  refine vp_callSi (mkSr (rest := [.int 4]) ⟨hx, hb, hml, hown, htl⟩ hN hK (c_J_ibc l G cs 0) (cS 1 htl lk_RX4_62 mT_J6_bitCount_0f7a4 mN_RJ6 mC_J6_bitCount_0f7a4 ok_J6_bitCount_0f7a4 rfl rfl ⟨(Nat.le_of_ble_eq_true rfl), (Nat.le_of_ble_eq_true rfl)⟩) rfl hl.1 rfl (Nat.le_of_ble_eq_true rfl) dX4_fewestSounds_20 ⟨(Nat.le_of_ble_eq_true rfl), (Nat.le_of_ble_eq_true rfl)⟩) (fun r hw => ?_)
  obtain rfl : r = 0 := hw.trans (by first | decide +kernel | rfl)
  refine lv_icmp_ge (tgt := 30) hx hb dX4_fewestSounds_23 (by decide) (fun _ => ?_) (fun h => absurd (by decide) h)
  refine lv_iconst (v := 0) hx hb dX4_fewestSounds_30 (by decide) ?_
  refine lv_istore_n (lv' := [(3, .int 0), (2, .int 58), (1, .int 0), (0, .ref h0)]) hx hb dX4_fewestSounds_31 rfl hl (by decide) rfl (fun ls hl => ?_)
  refine lv_iload_n hx hb dX4_fewestSounds_32 rfl (lv_at hl 0 rfl) ?_
  refine lv_if_eq (tgt := 46) hx hb dX4_fewestSounds_33 (by decide) (fun _ => ?_) (fun h => absurd (by decide) h)
  refine lv_iinc (v := 59) (lv' := [(2, .int 59), (3, .int 0), (1, .int 0), (0, .ref h0)]) hx hb dX4_fewestSounds_46 hl (k := 1) rfl (by first | rfl | decide) (by decide) rfl (fun ls hl => ?_)
  refine lv_goto (tgt := 4) hx hb dX4_fewestSounds_49 (by decide) ?_
  refine lv_iload_n hx hb dX4_fewestSounds_4 rfl (lv_at hl 0 rfl) ?_
  refine lv_bipush (v := 64) hx hb dX4_fewestSounds_5 (by decide) ?_
  refine lv_icmp_ge (tgt := 52) hx hb dX4_fewestSounds_7 (by decide) (fun h => absurd h (by decide)) (fun _ => ?_)
  refine lv_iload_n hx hb dX4_fewestSounds_10 rfl (lv_at hl 2 rfl) ?_
  refine lv_iconst (v := (-1)) hx hb dX4_fewestSounds_11 (by decide) ?_
  refine lv_icmp_eq (tgt := 26) hx hb dX4_fewestSounds_12 (by decide) (fun h => absurd h (by decide)) (fun _ => ?_)
  refine lv_iload_n hx hb dX4_fewestSounds_15 rfl (lv_at hl 0 rfl) ?_
  refine vp_callSi (mkSr (rest := []) ⟨hx, hb, hml, hown, htl⟩ hN hK (c_J_ibc l G cs 59) (cS 1 htl lk_RX4_62 mT_J6_bitCount_0f7a4 mN_RJ6 mC_J6_bitCount_0f7a4 ok_J6_bitCount_0f7a4 rfl rfl ⟨(Nat.le_of_ble_eq_true rfl), (Nat.le_of_ble_eq_true rfl)⟩) rfl hl.1 rfl (Nat.le_of_ble_eq_true rfl) dX4_fewestSounds_16 ⟨(Nat.le_of_ble_eq_true rfl), (Nat.le_of_ble_eq_true rfl)⟩) (fun r hw => ?_)
  obtain rfl : r = 5 := hw.trans (by first | decide +kernel | rfl)
  refine lv_iload_n hx hb dX4_fewestSounds_19 rfl (lv_at hl 2 rfl) ?_
  refine vp_callSi (mkSr (rest := [.int 5]) ⟨hx, hb, hml, hown, htl⟩ hN hK (c_J_ibc l G cs 0) (cS 1 htl lk_RX4_62 mT_J6_bitCount_0f7a4 mN_RJ6 mC_J6_bitCount_0f7a4 ok_J6_bitCount_0f7a4 rfl rfl ⟨(Nat.le_of_ble_eq_true rfl), (Nat.le_of_ble_eq_true rfl)⟩) rfl hl.1 rfl (Nat.le_of_ble_eq_true rfl) dX4_fewestSounds_20 ⟨(Nat.le_of_ble_eq_true rfl), (Nat.le_of_ble_eq_true rfl)⟩) (fun r hw => ?_)
  obtain rfl : r = 0 := hw.trans (by first | decide +kernel | rfl)
  refine lv_icmp_ge (tgt := 30) hx hb dX4_fewestSounds_23 (by decide) (fun _ => ?_) (fun h => absurd (by decide) h)
  refine lv_iconst (v := 0) hx hb dX4_fewestSounds_30 (by decide) ?_
  refine lv_istore_n (lv' := [(3, .int 0), (2, .int 59), (1, .int 0), (0, .ref h0)]) hx hb dX4_fewestSounds_31 rfl hl (by decide) rfl (fun ls hl => ?_)
  refine lv_iload_n hx hb dX4_fewestSounds_32 rfl (lv_at hl 0 rfl) ?_
  refine lv_if_eq (tgt := 46) hx hb dX4_fewestSounds_33 (by decide) (fun _ => ?_) (fun h => absurd (by decide) h)
  refine lv_iinc (v := 60) (lv' := [(2, .int 60), (3, .int 0), (1, .int 0), (0, .ref h0)]) hx hb dX4_fewestSounds_46 hl (k := 1) rfl (by first | rfl | decide) (by decide) rfl (fun ls hl => ?_)
  refine lv_goto (tgt := 4) hx hb dX4_fewestSounds_49 (by decide) ?_
  refine lv_iload_n hx hb dX4_fewestSounds_4 rfl (lv_at hl 0 rfl) ?_
  refine lv_bipush (v := 64) hx hb dX4_fewestSounds_5 (by decide) ?_
  refine lv_icmp_ge (tgt := 52) hx hb dX4_fewestSounds_7 (by decide) (fun h => absurd h (by decide)) (fun _ => ?_)
  refine lv_iload_n hx hb dX4_fewestSounds_10 rfl (lv_at hl 2 rfl) ?_
  refine lv_iconst (v := (-1)) hx hb dX4_fewestSounds_11 (by decide) ?_
  refine lv_icmp_eq (tgt := 26) hx hb dX4_fewestSounds_12 (by decide) (fun h => absurd h (by decide)) (fun _ => ?_)
  refine lv_iload_n hx hb dX4_fewestSounds_15 rfl (lv_at hl 0 rfl) ?_
  refine vp_callSi (mkSr (rest := []) ⟨hx, hb, hml, hown, htl⟩ hN hK (c_J_ibc l G cs 60) (cS 1 htl lk_RX4_62 mT_J6_bitCount_0f7a4 mN_RJ6 mC_J6_bitCount_0f7a4 ok_J6_bitCount_0f7a4 rfl rfl ⟨(Nat.le_of_ble_eq_true rfl), (Nat.le_of_ble_eq_true rfl)⟩) rfl hl.1 rfl (Nat.le_of_ble_eq_true rfl) dX4_fewestSounds_16 ⟨(Nat.le_of_ble_eq_true rfl), (Nat.le_of_ble_eq_true rfl)⟩) (fun r hw => ?_)
  obtain rfl : r = 4 := hw.trans (by first | decide +kernel | rfl)
  refine lv_iload_n hx hb dX4_fewestSounds_19 rfl (lv_at hl 2 rfl) ?_
  refine vp_callSi (mkSr (rest := [.int 4]) ⟨hx, hb, hml, hown, htl⟩ hN hK (c_J_ibc l G cs 0) (cS 1 htl lk_RX4_62 mT_J6_bitCount_0f7a4 mN_RJ6 mC_J6_bitCount_0f7a4 ok_J6_bitCount_0f7a4 rfl rfl ⟨(Nat.le_of_ble_eq_true rfl), (Nat.le_of_ble_eq_true rfl)⟩) rfl hl.1 rfl (Nat.le_of_ble_eq_true rfl) dX4_fewestSounds_20 ⟨(Nat.le_of_ble_eq_true rfl), (Nat.le_of_ble_eq_true rfl)⟩) (fun r hw => ?_)
  obtain rfl : r = 0 := hw.trans (by first | decide +kernel | rfl)
  refine lv_icmp_ge (tgt := 30) hx hb dX4_fewestSounds_23 (by decide) (fun _ => ?_) (fun h => absurd (by decide) h)
  refine lv_iconst (v := 0) hx hb dX4_fewestSounds_30 (by decide) ?_
  refine lv_istore_n (lv' := [(3, .int 0), (2, .int 60), (1, .int 0), (0, .ref h0)]) hx hb dX4_fewestSounds_31 rfl hl (by decide) rfl (fun ls hl => ?_)
  refine lv_iload_n hx hb dX4_fewestSounds_32 rfl (lv_at hl 0 rfl) ?_
  refine lv_if_eq (tgt := 46) hx hb dX4_fewestSounds_33 (by decide) (fun _ => ?_) (fun h => absurd (by decide) h)
  refine lv_iinc (v := 61) (lv' := [(2, .int 61), (3, .int 0), (1, .int 0), (0, .ref h0)]) hx hb dX4_fewestSounds_46 hl (k := 1) rfl (by first | rfl | decide) (by decide) rfl (fun ls hl => ?_)
  refine lv_goto (tgt := 4) hx hb dX4_fewestSounds_49 (by decide) ?_
  refine lv_iload_n hx hb dX4_fewestSounds_4 rfl (lv_at hl 0 rfl) ?_
  refine lv_bipush (v := 64) hx hb dX4_fewestSounds_5 (by decide) ?_
  refine lv_icmp_ge (tgt := 52) hx hb dX4_fewestSounds_7 (by decide) (fun h => absurd h (by decide)) (fun _ => ?_)
  refine lv_iload_n hx hb dX4_fewestSounds_10 rfl (lv_at hl 2 rfl) ?_
  refine lv_iconst (v := (-1)) hx hb dX4_fewestSounds_11 (by decide) ?_
  refine lv_icmp_eq (tgt := 26) hx hb dX4_fewestSounds_12 (by decide) (fun h => absurd h (by decide)) (fun _ => ?_)
  refine lv_iload_n hx hb dX4_fewestSounds_15 rfl (lv_at hl 0 rfl) ?_
  refine vp_callSi (mkSr (rest := []) ⟨hx, hb, hml, hown, htl⟩ hN hK (c_J_ibc l G cs 61) (cS 1 htl lk_RX4_62 mT_J6_bitCount_0f7a4 mN_RJ6 mC_J6_bitCount_0f7a4 ok_J6_bitCount_0f7a4 rfl rfl ⟨(Nat.le_of_ble_eq_true rfl), (Nat.le_of_ble_eq_true rfl)⟩) rfl hl.1 rfl (Nat.le_of_ble_eq_true rfl) dX4_fewestSounds_16 ⟨(Nat.le_of_ble_eq_true rfl), (Nat.le_of_ble_eq_true rfl)⟩) (fun r hw => ?_)
  obtain rfl : r = 5 := hw.trans (by first | decide +kernel | rfl)
  refine lv_iload_n hx hb dX4_fewestSounds_19 rfl (lv_at hl 2 rfl) ?_
  refine vp_callSi (mkSr (rest := [.int 5]) ⟨hx, hb, hml, hown, htl⟩ hN hK (c_J_ibc l G cs 0) (cS 1 htl lk_RX4_62 mT_J6_bitCount_0f7a4 mN_RJ6 mC_J6_bitCount_0f7a4 ok_J6_bitCount_0f7a4 rfl rfl ⟨(Nat.le_of_ble_eq_true rfl), (Nat.le_of_ble_eq_true rfl)⟩) rfl hl.1 rfl (Nat.le_of_ble_eq_true rfl) dX4_fewestSounds_20 ⟨(Nat.le_of_ble_eq_true rfl), (Nat.le_of_ble_eq_true rfl)⟩) (fun r hw => ?_)
  obtain rfl : r = 0 := hw.trans (by first | decide +kernel | rfl)
  refine lv_icmp_ge (tgt := 30) hx hb dX4_fewestSounds_23 (by decide) (fun _ => ?_) (fun h => absurd (by decide) h)
  refine lv_iconst (v := 0) hx hb dX4_fewestSounds_30 (by decide) ?_
  refine lv_istore_n (lv' := [(3, .int 0), (2, .int 61), (1, .int 0), (0, .ref h0)]) hx hb dX4_fewestSounds_31 rfl hl (by decide) rfl (fun ls hl => ?_)
  refine lv_iload_n hx hb dX4_fewestSounds_32 rfl (lv_at hl 0 rfl) ?_
  refine lv_if_eq (tgt := 46) hx hb dX4_fewestSounds_33 (by decide) (fun _ => ?_) (fun h => absurd (by decide) h)
  refine lv_iinc (v := 62) (lv' := [(2, .int 62), (3, .int 0), (1, .int 0), (0, .ref h0)]) hx hb dX4_fewestSounds_46 hl (k := 1) rfl (by first | rfl | decide) (by decide) rfl (fun ls hl => ?_)
  refine lv_goto (tgt := 4) hx hb dX4_fewestSounds_49 (by decide) ?_
  refine lv_iload_n hx hb dX4_fewestSounds_4 rfl (lv_at hl 0 rfl) ?_
  refine lv_bipush (v := 64) hx hb dX4_fewestSounds_5 (by decide) ?_
  refine lv_icmp_ge (tgt := 52) hx hb dX4_fewestSounds_7 (by decide) (fun h => absurd h (by decide)) (fun _ => ?_)
  refine lv_iload_n hx hb dX4_fewestSounds_10 rfl (lv_at hl 2 rfl) ?_
  refine lv_iconst (v := (-1)) hx hb dX4_fewestSounds_11 (by decide) ?_
  refine lv_icmp_eq (tgt := 26) hx hb dX4_fewestSounds_12 (by decide) (fun h => absurd h (by decide)) (fun _ => ?_)
  refine lv_iload_n hx hb dX4_fewestSounds_15 rfl (lv_at hl 0 rfl) ?_
  refine vp_callSi (mkSr (rest := []) ⟨hx, hb, hml, hown, htl⟩ hN hK (c_J_ibc l G cs 62) (cS 1 htl lk_RX4_62 mT_J6_bitCount_0f7a4 mN_RJ6 mC_J6_bitCount_0f7a4 ok_J6_bitCount_0f7a4 rfl rfl ⟨(Nat.le_of_ble_eq_true rfl), (Nat.le_of_ble_eq_true rfl)⟩) rfl hl.1 rfl (Nat.le_of_ble_eq_true rfl) dX4_fewestSounds_16 ⟨(Nat.le_of_ble_eq_true rfl), (Nat.le_of_ble_eq_true rfl)⟩) (fun r hw => ?_)
  obtain rfl : r = 5 := hw.trans (by first | decide +kernel | rfl)
  refine lv_iload_n hx hb dX4_fewestSounds_19 rfl (lv_at hl 2 rfl) ?_
  refine vp_callSi (mkSr (rest := [.int 5]) ⟨hx, hb, hml, hown, htl⟩ hN hK (c_J_ibc l G cs 0) (cS 1 htl lk_RX4_62 mT_J6_bitCount_0f7a4 mN_RJ6 mC_J6_bitCount_0f7a4 ok_J6_bitCount_0f7a4 rfl rfl ⟨(Nat.le_of_ble_eq_true rfl), (Nat.le_of_ble_eq_true rfl)⟩) rfl hl.1 rfl (Nat.le_of_ble_eq_true rfl) dX4_fewestSounds_20 ⟨(Nat.le_of_ble_eq_true rfl), (Nat.le_of_ble_eq_true rfl)⟩) (fun r hw => ?_)
  obtain rfl : r = 0 := hw.trans (by first | decide +kernel | rfl)
  refine lv_icmp_ge (tgt := 30) hx hb dX4_fewestSounds_23 (by decide) (fun _ => ?_) (fun h => absurd (by decide) h)
  refine lv_iconst (v := 0) hx hb dX4_fewestSounds_30 (by decide) ?_
  refine lv_istore_n (lv' := [(3, .int 0), (2, .int 62), (1, .int 0), (0, .ref h0)]) hx hb dX4_fewestSounds_31 rfl hl (by decide) rfl (fun ls hl => ?_)
  refine lv_iload_n hx hb dX4_fewestSounds_32 rfl (lv_at hl 0 rfl) ?_
  refine lv_if_eq (tgt := 46) hx hb dX4_fewestSounds_33 (by decide) (fun _ => ?_) (fun h => absurd (by decide) h)
  refine lv_iinc (v := 63) (lv' := [(2, .int 63), (3, .int 0), (1, .int 0), (0, .ref h0)]) hx hb dX4_fewestSounds_46 hl (k := 1) rfl (by first | rfl | decide) (by decide) rfl (fun ls hl => ?_)
  refine lv_goto (tgt := 4) hx hb dX4_fewestSounds_49 (by decide) ?_
  refine lv_iload_n hx hb dX4_fewestSounds_4 rfl (lv_at hl 0 rfl) ?_
  refine lv_bipush (v := 64) hx hb dX4_fewestSounds_5 (by decide) ?_
  refine lv_icmp_ge (tgt := 52) hx hb dX4_fewestSounds_7 (by decide) (fun h => absurd h (by decide)) (fun _ => ?_)
  refine lv_iload_n hx hb dX4_fewestSounds_10 rfl (lv_at hl 2 rfl) ?_
  refine lv_iconst (v := (-1)) hx hb dX4_fewestSounds_11 (by decide) ?_
  refine lv_icmp_eq (tgt := 26) hx hb dX4_fewestSounds_12 (by decide) (fun h => absurd h (by decide)) (fun _ => ?_)
  refine lv_iload_n hx hb dX4_fewestSounds_15 rfl (lv_at hl 0 rfl) ?_
  refine vp_callSi (mkSr (rest := []) ⟨hx, hb, hml, hown, htl⟩ hN hK (c_J_ibc l G cs 63) (cS 1 htl lk_RX4_62 mT_J6_bitCount_0f7a4 mN_RJ6 mC_J6_bitCount_0f7a4 ok_J6_bitCount_0f7a4 rfl rfl ⟨(Nat.le_of_ble_eq_true rfl), (Nat.le_of_ble_eq_true rfl)⟩) rfl hl.1 rfl (Nat.le_of_ble_eq_true rfl) dX4_fewestSounds_16 ⟨(Nat.le_of_ble_eq_true rfl), (Nat.le_of_ble_eq_true rfl)⟩) (fun r hw => ?_)
  obtain rfl : r = 6 := hw.trans (by first | decide +kernel | rfl)
  refine lv_iload_n hx hb dX4_fewestSounds_19 rfl (lv_at hl 2 rfl) ?_
  refine vp_callSi (mkSr (rest := [.int 6]) ⟨hx, hb, hml, hown, htl⟩ hN hK (c_J_ibc l G cs 0) (cS 1 htl lk_RX4_62 mT_J6_bitCount_0f7a4 mN_RJ6 mC_J6_bitCount_0f7a4 ok_J6_bitCount_0f7a4 rfl rfl ⟨(Nat.le_of_ble_eq_true rfl), (Nat.le_of_ble_eq_true rfl)⟩) rfl hl.1 rfl (Nat.le_of_ble_eq_true rfl) dX4_fewestSounds_20 ⟨(Nat.le_of_ble_eq_true rfl), (Nat.le_of_ble_eq_true rfl)⟩) (fun r hw => ?_)
  obtain rfl : r = 0 := hw.trans (by first | decide +kernel | rfl)
  refine lv_icmp_ge (tgt := 30) hx hb dX4_fewestSounds_23 (by decide) (fun _ => ?_) (fun h => absurd (by decide) h)
  refine lv_iconst (v := 0) hx hb dX4_fewestSounds_30 (by decide) ?_
  refine lv_istore_n (lv' := [(3, .int 0), (2, .int 63), (1, .int 0), (0, .ref h0)]) hx hb dX4_fewestSounds_31 rfl hl (by decide) rfl (fun ls hl => ?_)
  refine lv_iload_n hx hb dX4_fewestSounds_32 rfl (lv_at hl 0 rfl) ?_
  refine lv_if_eq (tgt := 46) hx hb dX4_fewestSounds_33 (by decide) (fun _ => ?_) (fun h => absurd (by decide) h)
  refine lv_iinc (v := 64) (lv' := [(2, .int 64), (3, .int 0), (1, .int 0), (0, .ref h0)]) hx hb dX4_fewestSounds_46 hl (k := 1) rfl (by first | rfl | decide) (by decide) rfl (fun ls hl => ?_)
  refine lv_goto (tgt := 4) hx hb dX4_fewestSounds_49 (by decide) ?_
  refine lv_iload_n hx hb dX4_fewestSounds_4 rfl (lv_at hl 0 rfl) ?_
  refine lv_bipush (v := 64) hx hb dX4_fewestSounds_5 (by decide) ?_
  refine lv_icmp_ge (tgt := 52) hx hb dX4_fewestSounds_7 (by decide) (fun _ => ?_) (fun h => absurd (by decide) h)
  refine lv_iload_n hx hb dX4_fewestSounds_52 rfl (lv_at hl 2 rfl) ?_
  exact W.iret (v := 0) hx hb hr (fun t ht hW => ⟨0, rfl, rfl, ht⟩) (fun q h => by cases h) dX4_fewestSounds_53

def sp_X11_tongue (a : Int32) : Int32 := if (sp_X11_isWithin a 2) = 0 then (-1) else (if a = 0 then 0 else 0)
set_option maxHeartbeats 1000000 in
set_option maxRecDepth 100000 in
theorem c_X11_tongue (l : Launch) (G : va_G) (cs : Nat → ClassId) (h0 : Nat) (a : Int32) (f_h0_0 : Value) (aS : Nat) (f_h0_2 : Value) (f_h0_3 : Value) (f_h0_4 : Value) (f_h0_5 : Value) (f_h0_6 : Value) (f_h0_7 : Value) (f_h0_8 : Value) (f_h0_9 : Value) (f_h0_10 : Value) (f_h0_11 : Value) (h1 : Nat) (lr : Int32) (aW : Nat) (aD : Nat) (f_aS_2 : Value) (f_aS_3 : Value) (f_aS_4 : Value) (f_aW_0 : Value) (f_aW_1 : Value) (aF : Nat) (f_aW_3 : Value) (f_aW_4 : Value) (f_aW_5 : Value) (f_aW_6 : Value) (f_aF_0 : Value) (f_aF_1 : Value) (f_aF_2 : Value) (f_aF_3 : Value) (f_aF_4 : Value) (f_aF_5 : Value) (f_aF_6 : Value) (f_aF_7 : Value) (f_aF_8 : Value) (f_aF_9 : Value) (f_aF_10 : Value) (f_aF_11 : Value) (sz : Nat) : Met l yX11_tongue (Cond.code yX11_tongue cX11_tongue 3 (some .int) :: gW) ({ frames := 2, cells := 0, slots := 0, locals := 46 }) (va_Pc [.ref h0, .int a] (Pre G cs [(h0, .inr (11, [f_h0_0, .ref aS, f_h0_2, f_h0_3, f_h0_4, f_h0_5, f_h0_6, f_h0_7, f_h0_8, f_h0_9, f_h0_10, f_h0_11, .ref h1, .int lr])), (aS, .inr (7, [.ref aW, .ref aD, f_aS_2, f_aS_3, f_aS_4])), (aW, .inr (10, [f_aW_0, f_aW_1, .ref aF, f_aW_3, f_aW_4, f_aW_5, f_aW_6])), (aF, .inr (4, [f_aF_0, f_aF_1, f_aF_2, f_aF_3, f_aF_4, f_aF_5, f_aF_6, f_aF_7, f_aF_8, f_aF_9, f_aF_10, f_aF_11, .int 0]))] sz)) (va_Qi (fun r (u : Unit) => r = sp_X11_tongue a) (fun (u : Unit) t => Aft G cs (va_A [(h0, .inr (11, [f_h0_0, .ref aS, f_h0_2, f_h0_3, f_h0_4, f_h0_5, f_h0_6, f_h0_7, f_h0_8, f_h0_9, f_h0_10, f_h0_11, .ref h1, .int lr])), (aS, .inr (7, [.ref aW, .ref aD, f_aS_2, f_aS_3, f_aS_4])), (aW, .inr (10, [f_aW_0, f_aW_1, .ref aF, f_aW_3, f_aW_4, f_aW_5, f_aW_6])), (aF, .inr (4, [f_aF_0, f_aF_1, f_aF_2, f_aF_3, f_aF_4, f_aF_5, f_aF_6, f_aF_7, f_aF_8, f_aF_9, f_aF_10, f_aF_11, .int 0]))] sz) [] t) (va_A [(h0, .inr (11, [f_h0_0, .ref aS, f_h0_2, f_h0_3, f_h0_4, f_h0_5, f_h0_6, f_h0_7, f_h0_8, f_h0_9, f_h0_10, f_h0_11, .ref h1, .int lr])), (aS, .inr (7, [.ref aW, .ref aD, f_aS_2, f_aS_3, f_aS_4])), (aW, .inr (10, [f_aW_0, f_aW_1, .ref aF, f_aW_3, f_aW_4, f_aW_5, f_aW_6])), (aF, .inr (4, [f_aF_0, f_aF_1, f_aF_2, f_aF_3, f_aF_4, f_aF_5, f_aF_6, f_aF_7, f_aF_8, f_aF_9, f_aF_10, f_aF_11, .int 0]))] sz)) 0 0 (va_A [(h0, .inr (11, [f_h0_0, .ref aS, f_h0_2, f_h0_3, f_h0_4, f_h0_5, f_h0_6, f_h0_7, f_h0_8, f_h0_9, f_h0_10, f_h0_11, .ref h1, .int lr])), (aS, .inr (7, [.ref aW, .ref aD, f_aS_2, f_aS_3, f_aS_4])), (aW, .inr (10, [f_aW_0, f_aW_1, .ref aF, f_aW_3, f_aW_4, f_aW_5, f_aW_6])), (aF, .inr (4, [f_aF_0, f_aF_1, f_aF_2, f_aF_3, f_aF_4, f_aF_5, f_aF_6, f_aF_7, f_aF_8, f_aF_9, f_aF_10, f_aF_11, .int 0]))] sz) := by
  refine Met.ofW (cc := cX11_tongue) (maxL := 3) (ret := (some .int)) (by decide) rfl ?_
  intro p e s m args below meth c s₁ B hml hv
  obtain ⟨rfl, hsz, hP, hK, hD0, hN⟩ := hv
  have hx := B.exec
  have hb := B.bytes
  have hr := B.returns
  have hts := atoms_spec (ws := Cond.code yX11_tongue cX11_tongue 3 (some .int) :: gW) B.pre
  have htl : ∀ w ∈ gW, w.before _ s = true := fun w h => hts w (List.mem_cons_of_mem _ h)
  have hown : s.vm.findClass RX11 = some m.cls := findClass_of_methodNamed B.named
  have hlocks := B.notSynchronized
  subst hsz
  have hD := hD0.self (sz := s.heap.size)
  generalize hAe : va_A [(h0, .inr (11, [f_h0_0, .ref aS, f_h0_2, f_h0_3, f_h0_4, f_h0_5, f_h0_6, f_h0_7, f_h0_8, f_h0_9, f_h0_10, f_h0_11, .ref h1, .int lr])), (aS, .inr (7, [.ref aW, .ref aD, f_aS_2, f_aS_3, f_aS_4])), (aW, .inr (10, [f_aW_0, f_aW_1, .ref aF, f_aW_3, f_aW_4, f_aW_5, f_aW_6])), (aF, .inr (4, [f_aF_0, f_aF_1, f_aF_2, f_aF_3, f_aF_4, f_aF_5, f_aF_6, f_aF_7, f_aF_8, f_aF_9, f_aF_10, f_aF_11, .int 0]))] s.heap.size = A at hD ⊢
  have hA : ∀ q : Nat, s.heap.size ≤ q → A q := fun q h => by rw [← hAe]; exact Or.inr h
  have hS : va_S A s.heap s.heap [] := va_S.rf
  have hl := lv_entry ([.ref h0, .int a]) (n := 3) (Nat.le_of_ble_eq_true rfl)
  rw [lg_entry_eq]
  generalize (lg_sl ([.ref h0, .int a]) ++ List.replicate (3 - (lg_sl ([.ref h0, .int a])).length) Slot.unset).toArray = ls at hl ⊢
  have hl : lv_has ls 3 [(0, .ref h0), (1, .int a)] := hl
  refine lv_iload_n hx hb dX11_tongue_0 rfl (lv_at hl 1 rfl) ?_
  refine lv_iconst (v := 2) hx hb dX11_tongue_1 (by decide) ?_
  refine vp_callSi (mkSr (rest := []) ⟨hx, hb, hml, hown, htl⟩ hN hK (c_X11_isWithin l G cs a 2) (cS 2 htl lk_RX11_82 mT_X11_isWithin mN_RX11 mC_X11_isWithin ok_X11_isWithin rfl rfl ⟨(Nat.le_of_ble_eq_true rfl), (Nat.le_of_ble_eq_true rfl)⟩) rfl hl.1 rfl (Nat.le_of_ble_eq_true rfl) dX11_tongue_2 ⟨(Nat.le_of_ble_eq_true rfl), (Nat.le_of_ble_eq_true rfl)⟩) (fun r hw => ?_)
  obtain ⟨rfl, hz_1⟩ := hw
  refine lv_if_eq (tgt := 24) hx hb dX11_tongue_5 (by decide) (fun c_5 => ?_) (fun c_5 => ?_)
  · refine lv_iconst (v := (-1)) hx hb dX11_tongue_24 (by decide) ?_
    refine lv_istore_n (lv' := [(2, .int (-1)), (0, .ref h0), (1, .int a)]) hx hb dX11_tongue_25 rfl hl (by decide) rfl (fun ls hl => ?_)
    refine lv_iload_n hx hb dX11_tongue_26 rfl (lv_at hl 0 rfl) ?_
    refine lv_iconst (v := (-1)) hx hb dX11_tongue_27 (by decide) ?_
    refine lv_icmp_ne (tgt := 33) hx hb dX11_tongue_28 (by decide) (fun h => absurd (by decide) h) (fun _ => ?_)
    refine lv_iconst (v := (-1)) hx hb dX11_tongue_31 (by decide) ?_
    exact W.iret (v := (-1)) hx hb hr (fun t ht hW => ⟨⟨(-1), (), rfl, (by unfold sp_X11_tongue; rw [if_pos c_5]), ⟨fun k q h => by simp at h, va_K.moved hW.alike hK, ⟨fun i j p q h => by simp at h, fun k q h => by simp at h⟩⟩⟩, hS.F ht⟩) hS.2.2 dX11_tongue_32
  · refine lv_aload_n hx hb dX11_tongue_8 rfl (lv_at hl 0 rfl) ?_
    refine va_get (ci := 11) (v := .ref aS) (C := RX11) (T := TX11) (N := 14) hx hb htl inX11 hown hK hP 0 rfl rfl 1 (by decide) (htl _ fl_RX11_21) (fun _ h9 => h9) rfl dX11_tongue_9 ?_
    refine va_get (ci := 7) (v := .ref aW) (C := RX7) (T := TX7) (N := 5) hx hb htl inX7 hown hK hP 1 rfl rfl 0 (by decide) (htl _ fl_RX11_78) (fun _ h9 => h9) rfl dX11_tongue_12 ?_
    refine va_get (ci := 10) (v := .ref aF) (C := RX10) (T := TX10) (N := 7) hx hb htl inX10 hown hK hP 2 rfl rfl 2 (by decide) (htl _ fl_RX11_156) (fun _ h9 => h9) rfl dX11_tongue_15 ?_
    refine vp_callSi (mkVr (rest := []) ⟨hx, hb, hml, hown, htl⟩ hN hK hP (c_X4_fewestSounds l G cs aF f_aF_0 f_aF_1 f_aF_2 f_aF_3 f_aF_4 f_aF_5 f_aF_6 f_aF_7 f_aF_8 f_aF_9 f_aF_10 f_aF_11) [3] rfl 0 4 rfl rfl (cV 0 htl lk_RX11_349 mI_X4_fewestSounds mS_X4_fewestSounds mN_RX4 mC_X4_fewestSounds ok_X4_fewestSounds rfl rfl ⟨(Nat.le_of_ble_eq_true rfl), (Nat.le_of_ble_eq_true rfl)⟩) rfl hl.1 rfl (Nat.le_of_ble_eq_true rfl) dX11_tongue_18 ⟨(Nat.le_of_ble_eq_true rfl), (Nat.le_of_ble_eq_true rfl)⟩) (fun r hw => ?_)
    obtain rfl : r = 0 := hw.trans (by first | decide +kernel | rfl)
    refine lv_goto (tgt := 25) hx hb dX11_tongue_21 (by decide) ?_
    refine lv_istore_n (lv' := [(2, .int 0), (0, .ref h0), (1, .int a)]) hx hb dX11_tongue_25 rfl hl (by decide) rfl (fun ls hl => ?_)
    refine lv_iload_n hx hb dX11_tongue_26 rfl (lv_at hl 0 rfl) ?_
    refine lv_iconst (v := (-1)) hx hb dX11_tongue_27 (by decide) ?_
    refine lv_icmp_ne (tgt := 33) hx hb dX11_tongue_28 (by decide) (fun _ => ?_) (fun h => absurd h (by decide))
    refine lv_iload_n hx hb dX11_tongue_33 rfl (lv_at hl 2 rfl) ?_
    refine lv_if_ne (tgt := 44) hx hb dX11_tongue_34 (by decide) (fun c_34 => ?_) (fun c_34 => ?_)
    · refine lv_iload_n hx hb dX11_tongue_44 rfl (lv_at hl 0 rfl) ?_
      exact W.iret (v := 0) hx hb hr (fun t ht hW => ⟨⟨0, (), rfl, (by unfold sp_X11_tongue; rw [if_neg c_5, if_neg c_34]), ⟨fun k q h => by simp at h, va_K.moved hW.alike hK, ⟨fun i j p q h => by simp at h, fun k q h => by simp at h⟩⟩⟩, hS.F ht⟩) hS.2.2 dX11_tongue_45
    · refine lv_iload_n hx hb dX11_tongue_37 rfl (lv_at hl 0 rfl) ?_
      refine vp_callSi (mkSr (rest := []) ⟨hx, hb, hml, hown, htl⟩ hN hK (c_J_ibc l G cs 0) (cS 1 htl lk_RX11_325 mT_J6_bitCount_0f7a4 mN_RJ6 mC_J6_bitCount_0f7a4 ok_J6_bitCount_0f7a4 rfl rfl ⟨(Nat.le_of_ble_eq_true rfl), (Nat.le_of_ble_eq_true rfl)⟩) rfl hl.1 rfl (Nat.le_of_ble_eq_true rfl) dX11_tongue_38 ⟨(Nat.le_of_ble_eq_true rfl), (Nat.le_of_ble_eq_true rfl)⟩) (fun r hw => ?_)
      obtain rfl : r = 0 := hw.trans (by first | decide +kernel | rfl)
      refine lv_goto (tgt := 45) hx hb dX11_tongue_41 (by decide) ?_
      exact W.iret (v := 0) hx hb hr (fun t ht hW => ⟨⟨0, (), rfl, (by unfold sp_X11_tongue; rw [if_neg c_5, if_pos c_34]), ⟨fun k q h => by simp at h, va_K.moved hW.alike hK, ⟨fun i j p q h => by simp at h, fun k q h => by simp at h⟩⟩⟩, hS.F ht⟩) hS.2.2 dX11_tongue_45
