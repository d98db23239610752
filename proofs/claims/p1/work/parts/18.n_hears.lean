def yJ7_fill_53178 : MethodName := ⟨RJ7, "fill", "([II)V"⟩
abbrev cJ7_fill_53178 : ByteArray := prog_22_method_103_code
theorem dJ7_fill_53178_0 : decode cJ7_fill_53178 0 = .ok (.iconst 0, 1) := by decide +kernel
theorem dJ7_fill_53178_1 : decode cJ7_fill_53178 1 = .ok (.istore_n 2, 1) := by decide +kernel
theorem dJ7_fill_53178_2 : decode cJ7_fill_53178 2 = .ok (.aload_n 0, 1) := by decide +kernel
theorem dJ7_fill_53178_3 : decode cJ7_fill_53178 3 = .ok (.arraylength, 1) := by decide +kernel
theorem dJ7_fill_53178_4 : decode cJ7_fill_53178 4 = .ok (.istore_n 3, 1) := by decide +kernel
theorem dJ7_fill_53178_5 : decode cJ7_fill_53178 5 = .ok (.iload_n 2, 1) := by decide +kernel
theorem dJ7_fill_53178_6 : decode cJ7_fill_53178 6 = .ok (.iload_n 3, 1) := by decide +kernel
theorem dJ7_fill_53178_7 : decode cJ7_fill_53178 7 = .ok (.if_icmp .ge 13, 3) := by decide +kernel
theorem dJ7_fill_53178_10 : decode cJ7_fill_53178 10 = .ok (.aload_n 0, 1) := by decide +kernel
theorem dJ7_fill_53178_11 : decode cJ7_fill_53178 11 = .ok (.iload_n 2, 1) := by decide +kernel
theorem dJ7_fill_53178_12 : decode cJ7_fill_53178 12 = .ok (.iload_n 1, 1) := by decide +kernel
theorem dJ7_fill_53178_13 : decode cJ7_fill_53178 13 = .ok (.iastore, 1) := by decide +kernel
theorem dJ7_fill_53178_14 : decode cJ7_fill_53178 14 = .ok (.iinc 2 1, 3) := by decide +kernel
theorem dJ7_fill_53178_17 : decode cJ7_fill_53178 17 = .ok (.goto (-12), 3) := by decide +kernel
theorem dJ7_fill_53178_20 : decode cJ7_fill_53178 20 = .ok (.return_, 1) := by decide +kernel
def yX3_measureCell : MethodName := ⟨RX3, "measureCell", "(I)V"⟩
abbrev cX3_measureCell : ByteArray := prog_5_method_3_code
theorem dX3_measureCell_0 : decode cX3_measureCell 0 = .ok (.aload_n 0, 1) := by decide +kernel
theorem dX3_measureCell_1 : decode cX3_measureCell 1 = .ok (.getfield 9, 3) := by decide +kernel
theorem fl_RX3_9 : Cond.fieldLink RX3 9 RX3 "said" "[I" ∈ gW := gW_t 432 (by decide +kernel) rfl
theorem dX3_measureCell_4 : decode cX3_measureCell 4 = .ok (.iload_n 1, 1) := by decide +kernel
theorem dX3_measureCell_5 : decode cX3_measureCell 5 = .ok (.aload_n 0, 1) := by decide +kernel
theorem dX3_measureCell_6 : decode cX3_measureCell 6 = .ok (.getfield 21, 3) := by decide +kernel
theorem dX3_measureCell_9 : decode cX3_measureCell 9 = .ok (.iload_n 1, 1) := by decide +kernel
theorem dX3_measureCell_10 : decode cX3_measureCell 10 = .ok (.iconst 3, 1) := by decide +kernel
theorem dX3_measureCell_11 : decode cX3_measureCell 11 = .ok (.invokevirtual 46, 3) := by decide +kernel
theorem lk_RX3_46 : Cond.methodLink RX3 46 yX0_saysOf ∈ gW := gW_t 992 (by decide +kernel) rfl
theorem dX3_measureCell_14 : decode cX3_measureCell 14 = .ok (.iastore, 1) := by decide +kernel
theorem dX3_measureCell_15 : decode cX3_measureCell 15 = .ok (.aload_n 0, 1) := by decide +kernel
theorem dX3_measureCell_16 : decode cX3_measureCell 16 = .ok (.getfield 15, 3) := by decide +kernel
theorem fl_RX3_15 : Cond.fieldLink RX3 15 RX3 "lost" "[I" ∈ gW := gW_t 433 (by decide +kernel) rfl
theorem dX3_measureCell_19 : decode cX3_measureCell 19 = .ok (.iload_n 1, 1) := by decide +kernel
theorem dX3_measureCell_20 : decode cX3_measureCell 20 = .ok (.aload_n 0, 1) := by decide +kernel
theorem dX3_measureCell_21 : decode cX3_measureCell 21 = .ok (.getfield 21, 3) := by decide +kernel
theorem dX3_measureCell_24 : decode cX3_measureCell 24 = .ok (.iload_n 1, 1) := by decide +kernel
theorem dX3_measureCell_25 : decode cX3_measureCell 25 = .ok (.iconst 3, 1) := by decide +kernel
theorem dX3_measureCell_26 : decode cX3_measureCell 26 = .ok (.invokevirtual 50, 3) := by decide +kernel
theorem lk_RX3_50 : Cond.methodLink RX3 50 yX0_losesOf ∈ gW := gW_t 993 (by decide +kernel) rfl
theorem dX3_measureCell_29 : decode cX3_measureCell 29 = .ok (.iastore, 1) := by decide +kernel
theorem dX3_measureCell_30 : decode cX3_measureCell 30 = .ok (.return_, 1) := by decide +kernel
def yX3_isAsHeard : MethodName := ⟨RX3, "isAsHeard", "(LListenWells$Folk;I)Z"⟩
abbrev cX3_isAsHeard : ByteArray := prog_5_method_9_code
theorem dX3_isAsHeard_0 : decode cX3_isAsHeard 0 = .ok (.iconst 0, 1) := by decide +kernel
theorem dX3_isAsHeard_1 : decode cX3_isAsHeard 1 = .ok (.istore_n 3, 1) := by decide +kernel
theorem dX3_isAsHeard_2 : decode cX3_isAsHeard 2 = .ok (.iload_n 3, 1) := by decide +kernel
theorem dX3_isAsHeard_3 : decode cX3_isAsHeard 3 = .ok (.aload_n 1, 1) := by decide +kernel
theorem dX3_isAsHeard_4 : decode cX3_isAsHeard 4 = .ok (.getfield 106, 3) := by decide +kernel
theorem fl_RX3_106 : Cond.fieldLink RX3 106 RX4 "hearsay" "I" ∈ gW := gW_t 177 (by decide +kernel) rfl
theorem dX3_isAsHeard_7 : decode cX3_isAsHeard 7 = .ok (.if_icmp .ge 35, 3) := by decide +kernel
theorem dX3_isAsHeard_42 : decode cX3_isAsHeard 42 = .ok (.iconst 1, 1) := by decide +kernel
theorem dX3_isAsHeard_43 : decode cX3_isAsHeard 43 = .ok (.ireturn, 1) := by decide +kernel
def yX3_hiddenCells : MethodName := ⟨RX3, "hiddenCells", "(LListenWells$World;)J"⟩
abbrev cX3_hiddenCells : ByteArray := prog_5_method_8_code
theorem dX3_hiddenCells_0 : decode cX3_hiddenCells 0 = .ok (.aload_n 0, 1) := by decide +kernel
theorem dX3_hiddenCells_1 : decode cX3_hiddenCells 1 = .ok (.getfield 21, 3) := by decide +kernel
theorem dX3_hiddenCells_4 : decode cX3_hiddenCells 4 = .ok (.aload_n 1, 1) := by decide +kernel
theorem dX3_hiddenCells_5 : decode cX3_hiddenCells 5 = .ok (.aload_n 1, 1) := by decide +kernel
theorem dX3_hiddenCells_6 : decode cX3_hiddenCells 6 = .ok (.invokevirtual 94, 3) := by decide +kernel
theorem lk_RX3_94 : Cond.methodLink RX3 94 yX10_lawInForce ∈ gW := gW_t 1146 (by decide +kernel) rfl
theorem dX3_hiddenCells_9 : decode cX3_hiddenCells 9 = .ok (.invokevirtual 25, 3) := by decide +kernel
theorem dX3_hiddenCells_12 : decode cX3_hiddenCells 12 = .ok (.lconst 0, 1) := by decide +kernel
theorem dX3_hiddenCells_13 : decode cX3_hiddenCells 13 = .ok (.lstore_n 2, 1) := by decide +kernel
theorem dX3_hiddenCells_14 : decode cX3_hiddenCells 14 = .ok (.iconst 0, 1) := by decide +kernel
theorem dX3_hiddenCells_15 : decode cX3_hiddenCells 15 = .ok (.istore 4, 2) := by decide +kernel
theorem dX3_hiddenCells_17 : decode cX3_hiddenCells 17 = .ok (.iload 4, 2) := by decide +kernel
theorem dX3_hiddenCells_19 : decode cX3_hiddenCells 19 = .ok (.bipush 40, 2) := by decide +kernel
theorem dX3_hiddenCells_21 : decode cX3_hiddenCells 21 = .ok (.if_icmp .ge 61, 3) := by decide +kernel
theorem dX3_hiddenCells_24 : decode cX3_hiddenCells 24 = .ok (.aload_n 1, 1) := by decide +kernel
theorem dX3_hiddenCells_25 : decode cX3_hiddenCells 25 = .ok (.getfield 31, 3) := by decide +kernel
theorem dX3_hiddenCells_28 : decode cX3_hiddenCells 28 = .ok (.getfield 37, 3) := by decide +kernel
theorem dX3_hiddenCells_31 : decode cX3_hiddenCells 31 = .ok (.iload 4, 2) := by decide +kernel
theorem dX3_hiddenCells_33 : decode cX3_hiddenCells 33 = .ok (.iaload, 1) := by decide +kernel
theorem dX3_hiddenCells_34 : decode cX3_hiddenCells 34 = .ok (.iconst 3, 1) := by decide +kernel
theorem dX3_hiddenCells_35 : decode cX3_hiddenCells 35 = .ok (.if_icmp .eq 41, 3) := by decide +kernel
theorem dX3_hiddenCells_38 : decode cX3_hiddenCells 38 = .ok (.aload_n 1, 1) := by decide +kernel
theorem dX3_hiddenCells_39 : decode cX3_hiddenCells 39 = .ok (.getfield 31, 3) := by decide +kernel
theorem dX3_hiddenCells_42 : decode cX3_hiddenCells 42 = .ok (.iload 4, 2) := by decide +kernel
theorem dX3_hiddenCells_44 : decode cX3_hiddenCells 44 = .ok (.invokevirtual 98, 3) := by decide +kernel
theorem lk_RX3_98 : Cond.methodLink RX3 98 yX6_isDug ∈ gW := gW_t 1147 (by decide +kernel) rfl
theorem dX3_hiddenCells_47 : decode cX3_hiddenCells 47 = .ok (.ifCond .ne 29, 3) := by decide +kernel
theorem dX3_hiddenCells_50 : decode cX3_hiddenCells 50 = .ok (.aload_n 0, 1) := by decide +kernel
theorem dX3_hiddenCells_51 : decode cX3_hiddenCells 51 = .ok (.iload 4, 2) := by decide +kernel
theorem dX3_hiddenCells_53 : decode cX3_hiddenCells 53 = .ok (.invokevirtual 42, 3) := by decide +kernel
theorem lk_RX3_42 : Cond.methodLink RX3 42 yX3_measureCell ∈ gW := gW_t 988 (by decide +kernel) rfl
theorem mI_X3_measureCell : Cond.instanceMethod yX3_measureCell ∈ gW := gW_t 990 (by decide +kernel) rfl
theorem mS_X3_measureCell : Cond.selects RX3 yX3_measureCell yX3_measureCell ∈ gW := gW_p (q := (yX3_measureCell, 4)) 29 (by decide +kernel)
theorem mC_X3_measureCell : Cond.code yX3_measureCell cX3_measureCell 2 none ∈ gW := gW_t 991 (by decide +kernel) rfl
theorem ok_X3_measureCell : okD yX3_measureCell 1 := ⟨by decide +kernel, by decide +kernel, by decide +kernel⟩
theorem dX3_hiddenCells_56 : decode cX3_hiddenCells 56 = .ok (.aload_n 0, 1) := by decide +kernel
theorem dX3_hiddenCells_57 : decode cX3_hiddenCells 57 = .ok (.aload_n 1, 1) := by decide +kernel
theorem dX3_hiddenCells_58 : decode cX3_hiddenCells 58 = .ok (.getfield 56, 3) := by decide +kernel
theorem fl_RX3_56 : Cond.fieldLink RX3 56 RX10 "folk" "LListenWells$Folk;" ∈ gW := gW_t 224 (by decide +kernel) rfl
theorem dX3_hiddenCells_61 : decode cX3_hiddenCells 61 = .ok (.iload 4, 2) := by decide +kernel
theorem dX3_hiddenCells_63 : decode cX3_hiddenCells 63 = .ok (.invokevirtual 102, 3) := by decide +kernel
theorem lk_RX3_102 : Cond.methodLink RX3 102 yX3_isAsHeard ∈ gW := gW_t 1148 (by decide +kernel) rfl
theorem mI_X3_isAsHeard : Cond.instanceMethod yX3_isAsHeard ∈ gW := gW_t 1150 (by decide +kernel) rfl
theorem mS_X3_isAsHeard : Cond.selects RX3 yX3_isAsHeard yX3_isAsHeard ∈ gW := gW_p (q := (yX3_isAsHeard, 4)) 38 (by decide +kernel)
theorem mC_X3_isAsHeard : Cond.code yX3_isAsHeard cX3_isAsHeard 4 (some .boolean) ∈ gW := gW_t 1151 (by decide +kernel) rfl
theorem ok_X3_isAsHeard : okD yX3_isAsHeard 2 := ⟨by decide +kernel, by decide +kernel, by decide +kernel⟩
theorem dX3_hiddenCells_66 : decode cX3_hiddenCells 66 = .ok (.ifCond .eq 10, 3) := by decide +kernel
theorem dX3_hiddenCells_69 : decode cX3_hiddenCells 69 = .ok (.lload_n 2, 1) := by decide +kernel
theorem dX3_hiddenCells_70 : decode cX3_hiddenCells 70 = .ok (.lconst 1, 1) := by decide +kernel
theorem dX3_hiddenCells_71 : decode cX3_hiddenCells 71 = .ok (.iload 4, 2) := by decide +kernel
theorem dX3_hiddenCells_73 : decode cX3_hiddenCells 73 = .ok (.lshl, 1) := by decide +kernel
theorem dX3_hiddenCells_74 : decode cX3_hiddenCells 74 = .ok (.lor, 1) := by decide +kernel
theorem dX3_hiddenCells_75 : decode cX3_hiddenCells 75 = .ok (.lstore_n 2, 1) := by decide +kernel
theorem dX3_hiddenCells_76 : decode cX3_hiddenCells 76 = .ok (.iinc 4 1, 3) := by decide +kernel
theorem dX3_hiddenCells_79 : decode cX3_hiddenCells 79 = .ok (.goto (-62), 3) := by decide +kernel
theorem dX3_hiddenCells_82 : decode cX3_hiddenCells 82 = .ok (.lload_n 2, 1) := by decide +kernel
theorem dX3_hiddenCells_83 : decode cX3_hiddenCells 83 = .ok (.lreturn, 1) := by decide +kernel
def yX3_loudness : MethodName := ⟨RX3, "loudness", "(II)I"⟩
abbrev cX3_loudness : ByteArray := prog_5_method_4_code
theorem dX3_loudness_0 : decode cX3_loudness 0 = .ok (.aload_n 0, 1) := by decide +kernel
theorem dX3_loudness_1 : decode cX3_loudness 1 = .ok (.getfield 9, 3) := by decide +kernel
theorem dX3_loudness_4 : decode cX3_loudness 4 = .ok (.iload_n 1, 1) := by decide +kernel
theorem dX3_loudness_5 : decode cX3_loudness 5 = .ok (.iaload, 1) := by decide +kernel
theorem dX3_loudness_6 : decode cX3_loudness 6 = .ok (.iload_n 1, 1) := by decide +kernel
theorem dX3_loudness_7 : decode cX3_loudness 7 = .ok (.iload_n 2, 1) := by decide +kernel
theorem dX3_loudness_8 : decode cX3_loudness 8 = .ok (.invokestatic 53, 3) := by decide +kernel
theorem nl_RX3_53 : Cond.methodLinkNest RX3 53 yX11_stepsTo RX11 ∈ nW := by decide +kernel
theorem dX3_loudness_11 : decode cX3_loudness 11 = .ok (.aload_n 0, 1) := by decide +kernel
theorem dX3_loudness_12 : decode cX3_loudness 12 = .ok (.getfield 15, 3) := by decide +kernel
theorem dX3_loudness_15 : decode cX3_loudness 15 = .ok (.iload_n 1, 1) := by decide +kernel
theorem dX3_loudness_16 : decode cX3_loudness 16 = .ok (.iaload, 1) := by decide +kernel
theorem dX3_loudness_17 : decode cX3_loudness 17 = .ok (.imul, 1) := by decide +kernel
theorem dX3_loudness_18 : decode cX3_loudness 18 = .ok (.isub, 1) := by decide +kernel
theorem dX3_loudness_19 : decode cX3_loudness 19 = .ok (.ireturn, 1) := by decide +kernel
def yX3_mostAlike : MethodName := ⟨RX3, "mostAlike", "(JI)I"⟩
abbrev cX3_mostAlike : ByteArray := prog_5_method_10_code
theorem dX3_mostAlike_0 : decode cX3_mostAlike 0 = .ok (.aload_n 0, 1) := by decide +kernel
theorem dX3_mostAlike_1 : decode cX3_mostAlike 1 = .ok (.getfield 18, 3) := by decide +kernel
theorem fl_RX3_18 : Cond.fieldLink RX3 18 RX3 "alike" "[I" ∈ gW := gW_t 434 (by decide +kernel) rfl
theorem dX3_mostAlike_4 : decode cX3_mostAlike 4 = .ok (.iconst 0, 1) := by decide +kernel
theorem dX3_mostAlike_5 : decode cX3_mostAlike 5 = .ok (.invokestatic 120, 3) := by decide +kernel
theorem lk_RX3_120 : Cond.methodLink RX3 120 yJ7_fill_53178 ∈ gW := gW_t 1161 (by decide +kernel) rfl
theorem mT_J7_fill_53178 : Cond.static yJ7_fill_53178 ∈ gW := gW_t 85 (by decide +kernel) rfl
theorem mN_RJ7 : Cond.initialized RJ7 ∈ gW := gW_t 6 (by decide +kernel) rfl
theorem mC_J7_fill_53178 : Cond.code yJ7_fill_53178 cJ7_fill_53178 4 none ∈ gW := gW_t 86 (by decide +kernel) rfl
theorem ok_J7_fill_53178 : okD yJ7_fill_53178 2 := ⟨by decide +kernel, by decide +kernel, by decide +kernel⟩
theorem dX3_mostAlike_8 : decode cX3_mostAlike 8 = .ok (.iconst 0, 1) := by decide +kernel
theorem dX3_mostAlike_9 : decode cX3_mostAlike 9 = .ok (.istore 4, 2) := by decide +kernel
theorem dX3_mostAlike_11 : decode cX3_mostAlike 11 = .ok (.iconst 0, 1) := by decide +kernel
theorem dX3_mostAlike_12 : decode cX3_mostAlike 12 = .ok (.istore 5, 2) := by decide +kernel
theorem dX3_mostAlike_14 : decode cX3_mostAlike 14 = .ok (.iload 5, 2) := by decide +kernel
theorem dX3_mostAlike_16 : decode cX3_mostAlike 16 = .ok (.bipush 40, 2) := by decide +kernel
theorem dX3_mostAlike_18 : decode cX3_mostAlike 18 = .ok (.if_icmp .ge 60, 3) := by decide +kernel
theorem dX3_mostAlike_21 : decode cX3_mostAlike 21 = .ok (.lload_n 1, 1) := by decide +kernel
theorem dX3_mostAlike_22 : decode cX3_mostAlike 22 = .ok (.iload 5, 2) := by decide +kernel
theorem dX3_mostAlike_24 : decode cX3_mostAlike 24 = .ok (.lshr, 1) := by decide +kernel
theorem dX3_mostAlike_25 : decode cX3_mostAlike 25 = .ok (.lconst 1, 1) := by decide +kernel
theorem dX3_mostAlike_26 : decode cX3_mostAlike 26 = .ok (.land, 1) := by decide +kernel
theorem dX3_mostAlike_27 : decode cX3_mostAlike 27 = .ok (.lconst 0, 1) := by decide +kernel
theorem dX3_mostAlike_28 : decode cX3_mostAlike 28 = .ok (.lcmp, 1) := by decide +kernel
theorem dX3_mostAlike_29 : decode cX3_mostAlike 29 = .ok (.ifCond .eq 43, 3) := by decide +kernel
theorem dX3_mostAlike_32 : decode cX3_mostAlike 32 = .ok (.aload_n 0, 1) := by decide +kernel
theorem dX3_mostAlike_33 : decode cX3_mostAlike 33 = .ok (.iload 5, 2) := by decide +kernel
theorem dX3_mostAlike_35 : decode cX3_mostAlike 35 = .ok (.iload_n 3, 1) := by decide +kernel
theorem dX3_mostAlike_36 : decode cX3_mostAlike 36 = .ok (.invokevirtual 68, 3) := by decide +kernel
theorem lk_RX3_68 : Cond.methodLink RX3 68 yX3_loudness ∈ gW := gW_t 999 (by decide +kernel) rfl
theorem mI_X3_loudness : Cond.instanceMethod yX3_loudness ∈ gW := gW_t 1001 (by decide +kernel) rfl
theorem mS_X3_loudness : Cond.selects RX3 yX3_loudness yX3_loudness ∈ gW := gW_p (q := (yX3_loudness, 4)) 30 (by decide +kernel)
theorem mC_X3_loudness : Cond.code yX3_loudness cX3_loudness 3 (some .int) ∈ gW := gW_t 1002 (by decide +kernel) rfl
theorem ok_X3_loudness : okD yX3_loudness 2 := ⟨by decide +kernel, by decide +kernel, by decide +kernel⟩
theorem dX3_mostAlike_39 : decode cX3_mostAlike 39 = .ok (.iconst 0, 1) := by decide +kernel
theorem dX3_mostAlike_40 : decode cX3_mostAlike 40 = .ok (.bipush 99, 2) := by decide +kernel
theorem dX3_mostAlike_42 : decode cX3_mostAlike 42 = .ok (.invokestatic 126, 3) := by decide +kernel
theorem nl_RX3_126 : Cond.methodLinkNest RX3 126 yX11_nearest RX11 ∈ nW := by decide +kernel
theorem dX3_mostAlike_45 : decode cX3_mostAlike 45 = .ok (.istore 6, 2) := by decide +kernel
theorem dX3_mostAlike_47 : decode cX3_mostAlike 47 = .ok (.aload_n 0, 1) := by decide +kernel
theorem dX3_mostAlike_48 : decode cX3_mostAlike 48 = .ok (.getfield 18, 3) := by decide +kernel
theorem dX3_mostAlike_51 : decode cX3_mostAlike 51 = .ok (.iload 6, 2) := by decide +kernel
theorem dX3_mostAlike_53 : decode cX3_mostAlike 53 = .ok (.dup2, 1) := by decide +kernel
theorem dX3_mostAlike_54 : decode cX3_mostAlike 54 = .ok (.iaload, 1) := by decide +kernel
theorem dX3_mostAlike_55 : decode cX3_mostAlike 55 = .ok (.iconst 1, 1) := by decide +kernel
theorem dX3_mostAlike_56 : decode cX3_mostAlike 56 = .ok (.iadd, 1) := by decide +kernel
theorem dX3_mostAlike_57 : decode cX3_mostAlike 57 = .ok (.iastore, 1) := by decide +kernel
theorem dX3_mostAlike_58 : decode cX3_mostAlike 58 = .ok (.iload 4, 2) := by decide +kernel
theorem dX3_mostAlike_60 : decode cX3_mostAlike 60 = .ok (.aload_n 0, 1) := by decide +kernel
theorem dX3_mostAlike_61 : decode cX3_mostAlike 61 = .ok (.getfield 18, 3) := by decide +kernel
theorem dX3_mostAlike_64 : decode cX3_mostAlike 64 = .ok (.iload 6, 2) := by decide +kernel
theorem dX3_mostAlike_66 : decode cX3_mostAlike 66 = .ok (.iaload, 1) := by decide +kernel
theorem dX3_mostAlike_67 : decode cX3_mostAlike 67 = .ok (.invokestatic 112, 3) := by decide +kernel
theorem lk_RX3_112 : Cond.methodLink RX3 112 Lib.Math.max.name ∈ gW := gW_t 1152 (by decide +kernel) rfl
theorem dX3_mostAlike_70 : decode cX3_mostAlike 70 = .ok (.istore 4, 2) := by decide +kernel
theorem dX3_mostAlike_72 : decode cX3_mostAlike 72 = .ok (.iinc 5 1, 3) := by decide +kernel
theorem dX3_mostAlike_75 : decode cX3_mostAlike 75 = .ok (.goto (-61), 3) := by decide +kernel
theorem dX3_mostAlike_78 : decode cX3_mostAlike 78 = .ok (.iload 4, 2) := by decide +kernel
theorem dX3_mostAlike_80 : decode cX3_mostAlike 80 = .ok (.ireturn, 1) := by decide +kernel
def yX11_hidden : MethodName := ⟨RX11, "hidden", "()J"⟩
abbrev cX11_hidden : ByteArray := prog_1_method_33_code
theorem dX11_hidden_0 : decode cX11_hidden 0 = .ok (.aload_n 0, 1) := by decide +kernel
theorem dX11_hidden_1 : decode cX11_hidden 1 = .ok (.getfield 56, 3) := by decide +kernel
theorem dX11_hidden_4 : decode cX11_hidden 4 = .ok (.aload_n 0, 1) := by decide +kernel
theorem dX11_hidden_5 : decode cX11_hidden 5 = .ok (.getfield 21, 3) := by decide +kernel
theorem dX11_hidden_8 : decode cX11_hidden 8 = .ok (.getfield 78, 3) := by decide +kernel
theorem dX11_hidden_11 : decode cX11_hidden 11 = .ok (.invokevirtual 338, 3) := by decide +kernel
theorem lk_RX11_338 : Cond.methodLink RX11 338 yX3_hiddenCells ∈ gW := gW_t 1142 (by decide +kernel) rfl
theorem mI_X3_hiddenCells : Cond.instanceMethod yX3_hiddenCells ∈ gW := gW_t 1143 (by decide +kernel) rfl
theorem mS_X3_hiddenCells : Cond.selects RX3 yX3_hiddenCells yX3_hiddenCells ∈ gW := gW_t 1144 (by decide +kernel) rfl
theorem mC_X3_hiddenCells : Cond.code yX3_hiddenCells cX3_hiddenCells 5 (some .long) ∈ gW := gW_t 1145 (by decide +kernel) rfl
theorem ok_X3_hiddenCells : okD yX3_hiddenCells 1 := ⟨by decide +kernel, by decide +kernel, by decide +kernel⟩
theorem dX11_hidden_14 : decode cX11_hidden 14 = .ok (.lreturn, 1) := by decide +kernel
def yX11_next : MethodName := ⟨RX11, "next", "(I)I"⟩
abbrev cX11_next : ByteArray := prog_1_method_34_code
theorem dX11_next_0 : decode cX11_next 0 = .ok (.iload_n 1, 1) := by decide +kernel
theorem dX11_next_1 : decode cX11_next 1 = .ok (.iconst 2, 1) := by decide +kernel
theorem dX11_next_2 : decode cX11_next 2 = .ok (.invokestatic 82, 3) := by decide +kernel
theorem dX11_next_5 : decode cX11_next 5 = .ok (.ifCond .eq 20, 3) := by decide +kernel
theorem dX11_next_25 : decode cX11_next 25 = .ok (.lconst 0, 1) := by decide +kernel
theorem dX11_next_26 : decode cX11_next 26 = .ok (.lstore_n 2, 1) := by decide +kernel
theorem dX11_next_27 : decode cX11_next 27 = .ok (.lload_n 2, 1) := by decide +kernel
theorem dX11_next_28 : decode cX11_next 28 = .ok (.lconst 0, 1) := by decide +kernel
theorem dX11_next_29 : decode cX11_next 29 = .ok (.lcmp, 1) := by decide +kernel
theorem dX11_next_30 : decode cX11_next 30 = .ok (.ifCond .ne 5, 3) := by decide +kernel
theorem dX11_next_33 : decode cX11_next 33 = .ok (.iconst (-1), 1) := by decide +kernel
theorem dX11_next_34 : decode cX11_next 34 = .ok (.ireturn, 1) := by decide +kernel
theorem dX11_next_8 : decode cX11_next 8 = .ok (.aload_n 0, 1) := by decide +kernel
theorem dX11_next_9 : decode cX11_next 9 = .ok (.getfield 56, 3) := by decide +kernel
theorem dX11_next_12 : decode cX11_next 12 = .ok (.aload_n 0, 1) := by decide +kernel
theorem dX11_next_13 : decode cX11_next 13 = .ok (.getfield 21, 3) := by decide +kernel
theorem dX11_next_16 : decode cX11_next 16 = .ok (.getfield 78, 3) := by decide +kernel
theorem dX11_next_19 : decode cX11_next 19 = .ok (.invokevirtual 338, 3) := by decide +kernel
theorem dX11_next_22 : decode cX11_next 22 = .ok (.goto 4, 3) := by decide +kernel
theorem dX11_next_35 : decode cX11_next 35 = .ok (.iconst 0, 1) := by decide +kernel
theorem dX11_next_36 : decode cX11_next 36 = .ok (.istore 4, 2) := by decide +kernel
theorem dX11_next_38 : decode cX11_next 38 = .ok (.aload_n 0, 1) := by decide +kernel
theorem dX11_next_39 : decode cX11_next 39 = .ok (.getfield 56, 3) := by decide +kernel
theorem dX11_next_42 : decode cX11_next 42 = .ok (.lload_n 2, 1) := by decide +kernel
theorem dX11_next_43 : decode cX11_next 43 = .ok (.iconst 0, 1) := by decide +kernel
theorem dX11_next_44 : decode cX11_next 44 = .ok (.invokevirtual 342, 3) := by decide +kernel
theorem lk_RX11_342 : Cond.methodLink RX11 342 yX3_mostAlike ∈ gW := gW_t 1157 (by decide +kernel) rfl
theorem mI_X3_mostAlike : Cond.instanceMethod yX3_mostAlike ∈ gW := gW_t 1158 (by decide +kernel) rfl
theorem mS_X3_mostAlike : Cond.selects RX3 yX3_mostAlike yX3_mostAlike ∈ gW := gW_t 1159 (by decide +kernel) rfl
theorem mC_X3_mostAlike : Cond.code yX3_mostAlike cX3_mostAlike 7 (some .int) ∈ gW := gW_t 1160 (by decide +kernel) rfl
theorem ok_X3_mostAlike : okD yX3_mostAlike 2 := ⟨by decide +kernel, by decide +kernel, by decide +kernel⟩
theorem dX11_next_47 : decode cX11_next 47 = .ok (.istore 5, 2) := by decide +kernel
theorem dX11_next_49 : decode cX11_next 49 = .ok (.iconst 1, 1) := by decide +kernel
theorem dX11_next_50 : decode cX11_next 50 = .ok (.istore 6, 2) := by decide +kernel
theorem dX11_next_52 : decode cX11_next 52 = .ok (.iload 6, 2) := by decide +kernel
theorem dX11_next_54 : decode cX11_next 54 = .ok (.bipush 8, 2) := by decide +kernel
theorem dX11_next_56 : decode cX11_next 56 = .ok (.if_icmp .ge 36, 3) := by decide +kernel
theorem dX11_next_59 : decode cX11_next 59 = .ok (.aload_n 0, 1) := by decide +kernel
theorem dX11_next_60 : decode cX11_next 60 = .ok (.getfield 56, 3) := by decide +kernel
theorem dX11_next_63 : decode cX11_next 63 = .ok (.lload_n 2, 1) := by decide +kernel
theorem dX11_next_64 : decode cX11_next 64 = .ok (.iload 6, 2) := by decide +kernel
theorem dX11_next_66 : decode cX11_next 66 = .ok (.invokevirtual 342, 3) := by decide +kernel
theorem dX11_next_69 : decode cX11_next 69 = .ok (.istore 7, 2) := by decide +kernel
theorem dX11_next_71 : decode cX11_next 71 = .ok (.iload 7, 2) := by decide +kernel
theorem dX11_next_73 : decode cX11_next 73 = .ok (.iload 5, 2) := by decide +kernel
theorem dX11_next_75 : decode cX11_next 75 = .ok (.if_icmp .ge 11, 3) := by decide +kernel
theorem dX11_next_86 : decode cX11_next 86 = .ok (.iinc 6 1, 3) := by decide +kernel
theorem dX11_next_89 : decode cX11_next 89 = .ok (.goto (-37), 3) := by decide +kernel
theorem dX11_next_92 : decode cX11_next 92 = .ok (.iload_n 1, 1) := by decide +kernel
theorem dX11_next_93 : decode cX11_next 93 = .ok (.ifCond .ne 8, 3) := by decide +kernel
theorem dX11_next_101 : decode cX11_next 101 = .ok (.iload 5, 2) := by decide +kernel
theorem dX11_next_103 : decode cX11_next 103 = .ok (.ireturn, 1) := by decide +kernel
theorem dX11_next_96 : decode cX11_next 96 = .ok (.iload 4, 2) := by decide +kernel
theorem dX11_next_98 : decode cX11_next 98 = .ok (.goto 5, 3) := by decide +kernel
