def yX3_measureCell : MethodName := ⟨RX3, "measureCell", "(I)V"⟩
abbrev cX3_measureCell : ByteArray := prog_5_method_3_code
theorem dX3_measureCell_0 : decode cX3_measureCell 0 = .ok (.aload_n 0, 1) := by decide +kernel
theorem dX3_measureCell_1 : decode cX3_measureCell 1 = .ok (.getfield 9, 3) := by decide +kernel
theorem fl_RX3_9 : Cond.fieldLink RX3 9 RX3 "said" "[I" ∈ gW := gW_u tb_2 192 (by rfl) (by decide +kernel)
theorem dX3_measureCell_4 : decode cX3_measureCell 4 = .ok (.iload_n 1, 1) := by decide +kernel
theorem dX3_measureCell_5 : decode cX3_measureCell 5 = .ok (.aload_n 0, 1) := by decide +kernel
theorem dX3_measureCell_6 : decode cX3_measureCell 6 = .ok (.getfield 21, 3) := by decide +kernel
theorem fl_RX3_21 : Cond.fieldLink RX3 21 RX3 "asker" "LListenWells$Asker;" ∈ gW := gW_u tb_2 191 (by rfl) (by decide +kernel)
theorem dX3_measureCell_9 : decode cX3_measureCell 9 = .ok (.iload_n 1, 1) := by decide +kernel
theorem dX3_measureCell_10 : decode cX3_measureCell 10 = .ok (.iconst 3, 1) := by decide +kernel
theorem dX3_measureCell_11 : decode cX3_measureCell 11 = .ok (.invokevirtual 46, 3) := by decide +kernel
theorem lk_RX3_46 : Cond.methodLink RX3 46 yX0_saysOf ∈ gW := gW_u tb_5 32 (by rfl) (by decide +kernel)
theorem mI_X0_saysOf : Cond.instanceMethod yX0_saysOf ∈ gW := gW_u tb_3 52 (by rfl) (by decide +kernel)
theorem mS_X0_saysOf : Cond.selects RX0 yX0_saysOf yX0_saysOf ∈ gW := gW_u tb_3 53 (by rfl) (by decide +kernel)
theorem mC_X0_saysOf : Cond.code yX0_saysOf cX0_saysOf 3 (some .int) ∈ gW := gW_u tb_3 54 (by rfl) (by decide +kernel)
theorem ok_X0_saysOf : okD yX0_saysOf 2 := ⟨by decide +kernel, by decide +kernel, by decide +kernel⟩
theorem dX3_measureCell_14 : decode cX3_measureCell 14 = .ok (.iastore, 1) := by decide +kernel
theorem dX3_measureCell_15 : decode cX3_measureCell 15 = .ok (.aload_n 0, 1) := by decide +kernel
theorem dX3_measureCell_16 : decode cX3_measureCell 16 = .ok (.getfield 15, 3) := by decide +kernel
theorem fl_RX3_15 : Cond.fieldLink RX3 15 RX3 "lost" "[I" ∈ gW := gW_u tb_2 193 (by rfl) (by decide +kernel)
theorem dX3_measureCell_19 : decode cX3_measureCell 19 = .ok (.iload_n 1, 1) := by decide +kernel
theorem dX3_measureCell_20 : decode cX3_measureCell 20 = .ok (.aload_n 0, 1) := by decide +kernel
theorem dX3_measureCell_21 : decode cX3_measureCell 21 = .ok (.getfield 21, 3) := by decide +kernel
theorem dX3_measureCell_24 : decode cX3_measureCell 24 = .ok (.iload_n 1, 1) := by decide +kernel
theorem dX3_measureCell_25 : decode cX3_measureCell 25 = .ok (.iconst 3, 1) := by decide +kernel
theorem dX3_measureCell_26 : decode cX3_measureCell 26 = .ok (.invokevirtual 50, 3) := by decide +kernel
theorem lk_RX3_50 : Cond.methodLink RX3 50 yX0_losesOf ∈ gW := gW_u tb_5 33 (by rfl) (by decide +kernel)
theorem mI_X0_losesOf : Cond.instanceMethod yX0_losesOf ∈ gW := gW_u tb_3 89 (by rfl) (by decide +kernel)
theorem mS_X0_losesOf : Cond.selects RX0 yX0_losesOf yX0_losesOf ∈ gW := gW_u tb_3 90 (by rfl) (by decide +kernel)
theorem mC_X0_losesOf : Cond.code yX0_losesOf cX0_losesOf 3 (some .int) ∈ gW := gW_u tb_3 91 (by rfl) (by decide +kernel)
theorem ok_X0_losesOf : okD yX0_losesOf 2 := ⟨by decide +kernel, by decide +kernel, by decide +kernel⟩
theorem dX3_measureCell_29 : decode cX3_measureCell 29 = .ok (.iastore, 1) := by decide +kernel
theorem dX3_measureCell_30 : decode cX3_measureCell 30 = .ok (.return_, 1) := by decide +kernel
def yX3_loudness : MethodName := ⟨RX3, "loudness", "(II)I"⟩
abbrev cX3_loudness : ByteArray := prog_5_method_4_code
theorem dX3_loudness_0 : decode cX3_loudness 0 = .ok (.aload_n 0, 1) := by decide +kernel
theorem dX3_loudness_1 : decode cX3_loudness 1 = .ok (.getfield 9, 3) := by decide +kernel
theorem dX3_loudness_4 : decode cX3_loudness 4 = .ok (.iload_n 1, 1) := by decide +kernel
theorem dX3_loudness_5 : decode cX3_loudness 5 = .ok (.iaload, 1) := by decide +kernel
theorem dX3_loudness_6 : decode cX3_loudness 6 = .ok (.iload_n 1, 1) := by decide +kernel
theorem dX3_loudness_7 : decode cX3_loudness 7 = .ok (.iload_n 2, 1) := by decide +kernel
theorem dX3_loudness_8 : decode cX3_loudness 8 = .ok (.invokestatic 53, 3) := by decide +kernel
theorem nl_RX3_53 : Cond.methodLinkNest RX3 53 yX11_stepsTo RX11 ∈ nW := by decide +kernel
theorem mT_X11_stepsTo : Cond.static yX11_stepsTo ∈ gW := gW_u tb_5 10 (by rfl) (by decide +kernel)
theorem mC_X11_stepsTo : Cond.code yX11_stepsTo cX11_stepsTo 2 (some .int) ∈ gW := gW_u tb_5 11 (by rfl) (by decide +kernel)
theorem ok_X11_stepsTo : okD yX11_stepsTo 2 := ⟨by decide +kernel, by decide +kernel, by decide +kernel⟩
theorem dX3_loudness_11 : decode cX3_loudness 11 = .ok (.aload_n 0, 1) := by decide +kernel
theorem dX3_loudness_12 : decode cX3_loudness 12 = .ok (.getfield 15, 3) := by decide +kernel
theorem dX3_loudness_15 : decode cX3_loudness 15 = .ok (.iload_n 1, 1) := by decide +kernel
theorem dX3_loudness_16 : decode cX3_loudness 16 = .ok (.iaload, 1) := by decide +kernel
theorem dX3_loudness_17 : decode cX3_loudness 17 = .ok (.imul, 1) := by decide +kernel
theorem dX3_loudness_18 : decode cX3_loudness 18 = .ok (.isub, 1) := by decide +kernel
theorem dX3_loudness_19 : decode cX3_loudness 19 = .ok (.ireturn, 1) := by decide +kernel
def yX3_cellsHeardBy : MethodName := ⟨RX3, "cellsHeardBy", "(LListenWells$World;I)J"⟩
abbrev cX3_cellsHeardBy : ByteArray := prog_5_method_5_code
theorem dX3_cellsHeardBy_0 : decode cX3_cellsHeardBy 0 = .ok (.aload_n 1, 1) := by decide +kernel
theorem dX3_cellsHeardBy_1 : decode cX3_cellsHeardBy 1 = .ok (.getfield 56, 3) := by decide +kernel
theorem fl_RX3_56 : Cond.fieldLink RX3 56 RX10 "folk" "LListenWells$Folk;" ∈ gW := gW_u tb_1 224 (by rfl) (by decide +kernel)
theorem dX3_cellsHeardBy_4 : decode cX3_cellsHeardBy 4 = .ok (.getfield 60, 3) := by decide +kernel
theorem fl_RX3_60 : Cond.fieldLink RX3 60 RX4 "column" "[I" ∈ gW := gW_u tb_1 147 (by rfl) (by decide +kernel)
theorem dX3_cellsHeardBy_7 : decode cX3_cellsHeardBy 7 = .ok (.iload_n 2, 1) := by decide +kernel
theorem dX3_cellsHeardBy_8 : decode cX3_cellsHeardBy 8 = .ok (.iaload, 1) := by decide +kernel
theorem dX3_cellsHeardBy_9 : decode cX3_cellsHeardBy 9 = .ok (.istore_n 3, 1) := by decide +kernel
theorem dX3_cellsHeardBy_10 : decode cX3_cellsHeardBy 10 = .ok (.aload_n 1, 1) := by decide +kernel
theorem dX3_cellsHeardBy_11 : decode cX3_cellsHeardBy 11 = .ok (.getfield 56, 3) := by decide +kernel
theorem dX3_cellsHeardBy_14 : decode cX3_cellsHeardBy 14 = .ok (.iload_n 3, 1) := by decide +kernel
theorem dX3_cellsHeardBy_15 : decode cX3_cellsHeardBy 15 = .ok (.iconst 0, 1) := by decide +kernel
theorem dX3_cellsHeardBy_16 : decode cX3_cellsHeardBy 16 = .ok (.invokevirtual 65, 3) := by decide +kernel
theorem lk_RX3_65 : Cond.methodLink RX3 65 yX4_noiseIn ∈ gW := gW_u tb_5 38 (by rfl) (by decide +kernel)
theorem dX3_cellsHeardBy_19 : decode cX3_cellsHeardBy 19 = .ok (.istore 4, 2) := by decide +kernel
theorem dX3_cellsHeardBy_21 : decode cX3_cellsHeardBy 21 = .ok (.lconst 0, 1) := by decide +kernel
theorem dX3_cellsHeardBy_22 : decode cX3_cellsHeardBy 22 = .ok (.lstore 5, 2) := by decide +kernel
theorem dX3_cellsHeardBy_24 : decode cX3_cellsHeardBy 24 = .ok (.iconst 0, 1) := by decide +kernel
theorem dX3_cellsHeardBy_25 : decode cX3_cellsHeardBy 25 = .ok (.istore 7, 2) := by decide +kernel
theorem dX3_cellsHeardBy_27 : decode cX3_cellsHeardBy 27 = .ok (.iload 7, 2) := by decide +kernel
theorem dX3_cellsHeardBy_29 : decode cX3_cellsHeardBy 29 = .ok (.bipush 40, 2) := by decide +kernel
theorem dX3_cellsHeardBy_31 : decode cX3_cellsHeardBy 31 = .ok (.if_icmp .ge 54, 3) := by decide +kernel
theorem dX3_cellsHeardBy_34 : decode cX3_cellsHeardBy 34 = .ok (.aload_n 1, 1) := by decide +kernel
theorem dX3_cellsHeardBy_35 : decode cX3_cellsHeardBy 35 = .ok (.getfield 31, 3) := by decide +kernel
theorem fl_RX3_31 : Cond.fieldLink RX3 31 RX10 "rock" "LListenWells$Rock;" ∈ gW := gW_u tb_1 213 (by rfl) (by decide +kernel)
theorem dX3_cellsHeardBy_38 : decode cX3_cellsHeardBy 38 = .ok (.getfield 37, 3) := by decide +kernel
theorem fl_RX3_37 : Cond.fieldLink RX3 37 RX6 "kind" "[I" ∈ gW := gW_u tb_1 88 (by rfl) (by decide +kernel)
theorem dX3_cellsHeardBy_41 : decode cX3_cellsHeardBy 41 = .ok (.iload 7, 2) := by decide +kernel
theorem dX3_cellsHeardBy_43 : decode cX3_cellsHeardBy 43 = .ok (.iaload, 1) := by decide +kernel
theorem dX3_cellsHeardBy_44 : decode cX3_cellsHeardBy 44 = .ok (.iconst 3, 1) := by decide +kernel
theorem dX3_cellsHeardBy_45 : decode cX3_cellsHeardBy 45 = .ok (.if_icmp .ne 34, 3) := by decide +kernel
theorem dX3_cellsHeardBy_79 : decode cX3_cellsHeardBy 79 = .ok (.iinc 7 1, 3) := by decide +kernel
theorem dX3_cellsHeardBy_82 : decode cX3_cellsHeardBy 82 = .ok (.goto (-55), 3) := by decide +kernel
theorem dX3_cellsHeardBy_48 : decode cX3_cellsHeardBy 48 = .ok (.aload_n 0, 1) := by decide +kernel
theorem dX3_cellsHeardBy_49 : decode cX3_cellsHeardBy 49 = .ok (.iload 7, 2) := by decide +kernel
theorem dX3_cellsHeardBy_51 : decode cX3_cellsHeardBy 51 = .ok (.iload_n 3, 1) := by decide +kernel
theorem dX3_cellsHeardBy_52 : decode cX3_cellsHeardBy 52 = .ok (.invokevirtual 68, 3) := by decide +kernel
theorem lk_RX3_68 : Cond.methodLink RX3 68 yX3_loudness ∈ gW := gW_u tb_5 39 (by rfl) (by decide +kernel)
theorem mI_X3_loudness : Cond.instanceMethod yX3_loudness ∈ gW := gW_u tb_5 41 (by rfl) (by decide +kernel)
theorem mS_X3_loudness : Cond.selects RX3 yX3_loudness yX3_loudness ∈ gW := gW_p (q := (yX3_loudness, 4)) 30 (by decide +kernel)
theorem mN_RX3 : Cond.initialized RX3 ∈ gW := gW_u tb_1 14 (by rfl) (by decide +kernel)
theorem mC_X3_loudness : Cond.code yX3_loudness cX3_loudness 3 (some .int) ∈ gW := gW_u tb_5 42 (by rfl) (by decide +kernel)
theorem ok_X3_loudness : okD yX3_loudness 2 := ⟨by decide +kernel, by decide +kernel, by decide +kernel⟩
theorem dX3_cellsHeardBy_55 : decode cX3_cellsHeardBy 55 = .ok (.aload_n 1, 1) := by decide +kernel
theorem dX3_cellsHeardBy_56 : decode cX3_cellsHeardBy 56 = .ok (.getfield 56, 3) := by decide +kernel
theorem dX3_cellsHeardBy_59 : decode cX3_cellsHeardBy 59 = .ok (.getfield 71, 3) := by decide +kernel
theorem fl_RX3_71 : Cond.fieldLink RX3 71 RX4 "ear" "[I" ∈ gW := gW_u tb_1 152 (by rfl) (by decide +kernel)
theorem dX3_cellsHeardBy_62 : decode cX3_cellsHeardBy 62 = .ok (.iload_n 2, 1) := by decide +kernel
theorem dX3_cellsHeardBy_63 : decode cX3_cellsHeardBy 63 = .ok (.iaload, 1) := by decide +kernel
theorem dX3_cellsHeardBy_64 : decode cX3_cellsHeardBy 64 = .ok (.iadd, 1) := by decide +kernel
theorem dX3_cellsHeardBy_65 : decode cX3_cellsHeardBy 65 = .ok (.iload 4, 2) := by decide +kernel
theorem dX3_cellsHeardBy_67 : decode cX3_cellsHeardBy 67 = .ok (.if_icmp .le 12, 3) := by decide +kernel
theorem dX3_cellsHeardBy_70 : decode cX3_cellsHeardBy 70 = .ok (.lload 5, 2) := by decide +kernel
theorem dX3_cellsHeardBy_72 : decode cX3_cellsHeardBy 72 = .ok (.lconst 1, 1) := by decide +kernel
theorem dX3_cellsHeardBy_73 : decode cX3_cellsHeardBy 73 = .ok (.iload 7, 2) := by decide +kernel
theorem dX3_cellsHeardBy_75 : decode cX3_cellsHeardBy 75 = .ok (.lshl, 1) := by decide +kernel
theorem dX3_cellsHeardBy_76 : decode cX3_cellsHeardBy 76 = .ok (.lor, 1) := by decide +kernel
theorem dX3_cellsHeardBy_77 : decode cX3_cellsHeardBy 77 = .ok (.lstore 5, 2) := by decide +kernel
theorem dX3_cellsHeardBy_85 : decode cX3_cellsHeardBy 85 = .ok (.lload 5, 2) := by decide +kernel
theorem dX3_cellsHeardBy_87 : decode cX3_cellsHeardBy 87 = .ok (.lreturn, 1) := by decide +kernel
def yX3_allHear : MethodName := ⟨RX3, "allHear", "(LListenWells$World;III)Z"⟩
abbrev cX3_allHear : ByteArray := prog_5_method_7_code
theorem dX3_allHear_0 : decode cX3_allHear 0 = .ok (.aload_n 1, 1) := by decide +kernel
theorem dX3_allHear_1 : decode cX3_allHear 1 = .ok (.getfield 56, 3) := by decide +kernel
theorem dX3_allHear_4 : decode cX3_allHear 4 = .ok (.astore 5, 2) := by decide +kernel
theorem dX3_allHear_6 : decode cX3_allHear 6 = .ok (.iconst 0, 1) := by decide +kernel
theorem dX3_allHear_7 : decode cX3_allHear 7 = .ok (.istore 6, 2) := by decide +kernel
theorem dX3_allHear_9 : decode cX3_allHear 9 = .ok (.iload 6, 2) := by decide +kernel
theorem dX3_allHear_11 : decode cX3_allHear 11 = .ok (.aload 5, 2) := by decide +kernel
theorem dX3_allHear_13 : decode cX3_allHear 13 = .ok (.getfield 91, 3) := by decide +kernel
theorem fl_RX3_91 : Cond.fieldLink RX3 91 RX4 "listeners" "I" ∈ gW := gW_u tb_1 156 (by rfl) (by decide +kernel)
theorem dX3_allHear_16 : decode cX3_allHear 16 = .ok (.if_icmp .ge 70, 3) := by decide +kernel
theorem dX3_allHear_19 : decode cX3_allHear 19 = .ok (.aload 5, 2) := by decide +kernel
theorem dX3_allHear_21 : decode cX3_allHear 21 = .ok (.getfield 60, 3) := by decide +kernel
theorem dX3_allHear_24 : decode cX3_allHear 24 = .ok (.iload 6, 2) := by decide +kernel
theorem dX3_allHear_26 : decode cX3_allHear 26 = .ok (.iaload, 1) := by decide +kernel
theorem dX3_allHear_27 : decode cX3_allHear 27 = .ok (.istore 7, 2) := by decide +kernel
theorem dX3_allHear_29 : decode cX3_allHear 29 = .ok (.iload_n 2, 1) := by decide +kernel
theorem dX3_allHear_30 : decode cX3_allHear 30 = .ok (.iload 6, 2) := by decide +kernel
theorem dX3_allHear_32 : decode cX3_allHear 32 = .ok (.ishr, 1) := by decide +kernel
theorem dX3_allHear_33 : decode cX3_allHear 33 = .ok (.iconst 1, 1) := by decide +kernel
theorem dX3_allHear_34 : decode cX3_allHear 34 = .ok (.iand, 1) := by decide +kernel
theorem dX3_allHear_35 : decode cX3_allHear 35 = .ok (.ifCond .eq 7, 3) := by decide +kernel
theorem dX3_allHear_42 : decode cX3_allHear 42 = .ok (.iconst 0, 1) := by decide +kernel
theorem dX3_allHear_38 : decode cX3_allHear 38 = .ok (.iconst 1, 1) := by decide +kernel
theorem dX3_allHear_39 : decode cX3_allHear 39 = .ok (.goto 4, 3) := by decide +kernel
theorem dX3_allHear_43 : decode cX3_allHear 43 = .ok (.istore 8, 2) := by decide +kernel
theorem dX3_allHear_45 : decode cX3_allHear 45 = .ok (.iload 8, 2) := by decide +kernel
theorem dX3_allHear_47 : decode cX3_allHear 47 = .ok (.ifCond .eq 33, 3) := by decide +kernel
theorem dX3_allHear_80 : decode cX3_allHear 80 = .ok (.iinc 6 1, 3) := by decide +kernel
theorem dX3_allHear_83 : decode cX3_allHear 83 = .ok (.goto (-74), 3) := by decide +kernel
theorem dX3_allHear_50 : decode cX3_allHear 50 = .ok (.aload_n 0, 1) := by decide +kernel
theorem dX3_allHear_51 : decode cX3_allHear 51 = .ok (.iload_n 3, 1) := by decide +kernel
theorem dX3_allHear_52 : decode cX3_allHear 52 = .ok (.iload 7, 2) := by decide +kernel
theorem dX3_allHear_54 : decode cX3_allHear 54 = .ok (.invokevirtual 68, 3) := by decide +kernel
theorem dX3_allHear_57 : decode cX3_allHear 57 = .ok (.aload 5, 2) := by decide +kernel
theorem dX3_allHear_59 : decode cX3_allHear 59 = .ok (.getfield 71, 3) := by decide +kernel
theorem dX3_allHear_62 : decode cX3_allHear 62 = .ok (.iload 6, 2) := by decide +kernel
theorem dX3_allHear_64 : decode cX3_allHear 64 = .ok (.iaload, 1) := by decide +kernel
theorem dX3_allHear_65 : decode cX3_allHear 65 = .ok (.iadd, 1) := by decide +kernel
theorem dX3_allHear_66 : decode cX3_allHear 66 = .ok (.aload 5, 2) := by decide +kernel
theorem dX3_allHear_68 : decode cX3_allHear 68 = .ok (.iload 7, 2) := by decide +kernel
theorem dX3_allHear_70 : decode cX3_allHear 70 = .ok (.iload 4, 2) := by decide +kernel
theorem dX3_allHear_72 : decode cX3_allHear 72 = .ok (.invokevirtual 65, 3) := by decide +kernel
theorem dX3_allHear_75 : decode cX3_allHear 75 = .ok (.if_icmp .gt 5, 3) := by decide +kernel
theorem dX3_allHear_78 : decode cX3_allHear 78 = .ok (.iconst 0, 1) := by decide +kernel
theorem dX3_allHear_79 : decode cX3_allHear 79 = .ok (.ireturn, 1) := by decide +kernel
theorem dX3_allHear_86 : decode cX3_allHear 86 = .ok (.iconst 1, 1) := by decide +kernel
theorem dX3_allHear_87 : decode cX3_allHear 87 = .ok (.ireturn, 1) := by decide +kernel
def yX3_isAsHeard : MethodName := ⟨RX3, "isAsHeard", "(LListenWells$Folk;I)Z"⟩
abbrev cX3_isAsHeard : ByteArray := prog_5_method_9_code
theorem dX3_isAsHeard_0 : decode cX3_isAsHeard 0 = .ok (.iconst 0, 1) := by decide +kernel
theorem dX3_isAsHeard_1 : decode cX3_isAsHeard 1 = .ok (.istore_n 3, 1) := by decide +kernel
theorem dX3_isAsHeard_2 : decode cX3_isAsHeard 2 = .ok (.iload_n 3, 1) := by decide +kernel
theorem dX3_isAsHeard_3 : decode cX3_isAsHeard 3 = .ok (.aload_n 1, 1) := by decide +kernel
theorem dX3_isAsHeard_4 : decode cX3_isAsHeard 4 = .ok (.getfield 106, 3) := by decide +kernel
theorem fl_RX3_106 : Cond.fieldLink RX3 106 RX4 "hearsay" "I" ∈ gW := gW_u tb_1 177 (by rfl) (by decide +kernel)
theorem dX3_isAsHeard_7 : decode cX3_isAsHeard 7 = .ok (.if_icmp .ge 35, 3) := by decide +kernel
theorem dX3_isAsHeard_10 : decode cX3_isAsHeard 10 = .ok (.iconst 0, 1) := by decide +kernel
theorem dX3_isAsHeard_11 : decode cX3_isAsHeard 11 = .ok (.aload_n 0, 1) := by decide +kernel
theorem dX3_isAsHeard_12 : decode cX3_isAsHeard 12 = .ok (.iload_n 2, 1) := by decide +kernel
theorem dX3_isAsHeard_13 : decode cX3_isAsHeard 13 = .ok (.aload_n 1, 1) := by decide +kernel
theorem dX3_isAsHeard_14 : decode cX3_isAsHeard 14 = .ok (.getfield 109, 3) := by decide +kernel
theorem fl_RX3_109 : Cond.fieldLink RX3 109 RX4 "hearsayColumn" "[I" ∈ gW := gW_u tb_1 173 (by rfl) (by decide +kernel)
theorem dX3_isAsHeard_17 : decode cX3_isAsHeard 17 = .ok (.iload_n 3, 1) := by decide +kernel
theorem dX3_isAsHeard_18 : decode cX3_isAsHeard 18 = .ok (.iaload, 1) := by decide +kernel
theorem dX3_isAsHeard_19 : decode cX3_isAsHeard 19 = .ok (.invokevirtual 68, 3) := by decide +kernel
theorem dX3_isAsHeard_22 : decode cX3_isAsHeard 22 = .ok (.invokestatic 112, 3) := by decide +kernel
theorem lk_RX3_112 : Cond.methodLink RX3 112 Lib.Math.max.name ∈ gW := gW_u tb_5 192 (by rfl) (by decide +kernel)
theorem dX3_isAsHeard_25 : decode cX3_isAsHeard 25 = .ok (.aload_n 1, 1) := by decide +kernel
theorem dX3_isAsHeard_26 : decode cX3_isAsHeard 26 = .ok (.getfield 117, 3) := by decide +kernel
theorem fl_RX3_117 : Cond.fieldLink RX3 117 RX4 "hearsayLoud" "[I" ∈ gW := gW_u tb_1 175 (by rfl) (by decide +kernel)
theorem dX3_isAsHeard_29 : decode cX3_isAsHeard 29 = .ok (.iload_n 3, 1) := by decide +kernel
theorem dX3_isAsHeard_30 : decode cX3_isAsHeard 30 = .ok (.iaload, 1) := by decide +kernel
theorem dX3_isAsHeard_31 : decode cX3_isAsHeard 31 = .ok (.if_icmp .eq 5, 3) := by decide +kernel
theorem dX3_isAsHeard_36 : decode cX3_isAsHeard 36 = .ok (.iinc 3 1, 3) := by decide +kernel
theorem dX3_isAsHeard_39 : decode cX3_isAsHeard 39 = .ok (.goto (-37), 3) := by decide +kernel
theorem dX3_isAsHeard_34 : decode cX3_isAsHeard 34 = .ok (.iconst 0, 1) := by decide +kernel
theorem dX3_isAsHeard_35 : decode cX3_isAsHeard 35 = .ok (.ireturn, 1) := by decide +kernel
theorem dX3_isAsHeard_42 : decode cX3_isAsHeard 42 = .ok (.iconst 1, 1) := by decide +kernel
theorem dX3_isAsHeard_43 : decode cX3_isAsHeard 43 = .ok (.ireturn, 1) := by decide +kernel
def yX3_mostAlike : MethodName := ⟨RX3, "mostAlike", "(JI)I"⟩
abbrev cX3_mostAlike : ByteArray := prog_5_method_10_code
theorem dX3_mostAlike_0 : decode cX3_mostAlike 0 = .ok (.aload_n 0, 1) := by decide +kernel
theorem dX3_mostAlike_1 : decode cX3_mostAlike 1 = .ok (.getfield 18, 3) := by decide +kernel
theorem fl_RX3_18 : Cond.fieldLink RX3 18 RX3 "alike" "[I" ∈ gW := gW_u tb_2 194 (by rfl) (by decide +kernel)
theorem dX3_mostAlike_4 : decode cX3_mostAlike 4 = .ok (.iconst 0, 1) := by decide +kernel
theorem dX3_mostAlike_5 : decode cX3_mostAlike 5 = .ok (.invokestatic 120, 3) := by decide +kernel
theorem lk_RX3_120 : Cond.methodLink RX3 120 yJ7_fill_53178 ∈ gW := gW_u tb_5 201 (by rfl) (by decide +kernel)
theorem mT_J7_fill_53178 : Cond.static yJ7_fill_53178 ∈ gW := gW_u tb_1 85 (by rfl) (by decide +kernel)
theorem mN_RJ7 : Cond.initialized RJ7 ∈ gW := gW_u tb_1 6 (by rfl) (by decide +kernel)
theorem mC_J7_fill_53178 : Cond.code yJ7_fill_53178 cJ7_fill_53178 4 none ∈ gW := gW_u tb_1 86 (by rfl) (by decide +kernel)
theorem ok_J7_fill_53178 : okD yJ7_fill_53178 2 := ⟨by decide +kernel, by decide +kernel, by decide +kernel⟩
theorem dX3_mostAlike_8 : decode cX3_mostAlike 8 = .ok (.iconst 0, 1) := by decide +kernel
theorem dX3_mostAlike_9 : decode cX3_mostAlike 9 = .ok (.istore 4, 2) := by decide +kernel
theorem dX3_mostAlike_11 : decode cX3_mostAlike 11 = .ok (.iconst 0, 1) := by decide +kernel
theorem dX3_mostAlike_12 : decode cX3_mostAlike 12 = .ok (.istore 5, 2) := by decide +kernel
theorem dX3_mostAlike_14 : decode cX3_mostAlike 14 = .ok (.iload 5, 2) := by decide +kernel
theorem dX3_mostAlike_16 : decode cX3_mostAlike 16 = .ok (.bipush 40, 2) := by decide +kernel
theorem dX3_mostAlike_18 : decode cX3_mostAlike 18 = .ok (.if_icmp .ge 60, 3) := by decide +kernel
theorem dX3_mostAlike_21 : decode cX3_mostAlike 21 = .ok (.lload_n 1, 1) := by decide +kernel
theorem dX3_mostAlike_22 : decode cX3_mostAlike 22 = .ok (.iload 5, 2) := by decide +kernel
theorem dX3_mostAlike_24 : decode cX3_mostAlike 24 = .ok (.lshr, 1) := by decide +kernel
theorem dX3_mostAlike_25 : decode cX3_mostAlike 25 = .ok (.lconst 1, 1) := by decide +kernel
theorem dX3_mostAlike_26 : decode cX3_mostAlike 26 = .ok (.land, 1) := by decide +kernel
theorem dX3_mostAlike_27 : decode cX3_mostAlike 27 = .ok (.lconst 0, 1) := by decide +kernel
theorem dX3_mostAlike_28 : decode cX3_mostAlike 28 = .ok (.lcmp, 1) := by decide +kernel
theorem dX3_mostAlike_29 : decode cX3_mostAlike 29 = .ok (.ifCond .eq 43, 3) := by decide +kernel
theorem dX3_mostAlike_72 : decode cX3_mostAlike 72 = .ok (.iinc 5 1, 3) := by decide +kernel
theorem dX3_mostAlike_75 : decode cX3_mostAlike 75 = .ok (.goto (-61), 3) := by decide +kernel
theorem dX3_mostAlike_32 : decode cX3_mostAlike 32 = .ok (.aload_n 0, 1) := by decide +kernel
theorem dX3_mostAlike_33 : decode cX3_mostAlike 33 = .ok (.iload 5, 2) := by decide +kernel
theorem dX3_mostAlike_35 : decode cX3_mostAlike 35 = .ok (.iload_n 3, 1) := by decide +kernel
theorem dX3_mostAlike_36 : decode cX3_mostAlike 36 = .ok (.invokevirtual 68, 3) := by decide +kernel
theorem dX3_mostAlike_39 : decode cX3_mostAlike 39 = .ok (.iconst 0, 1) := by decide +kernel
theorem dX3_mostAlike_40 : decode cX3_mostAlike 40 = .ok (.bipush 99, 2) := by decide +kernel
theorem dX3_mostAlike_42 : decode cX3_mostAlike 42 = .ok (.invokestatic 126, 3) := by decide +kernel
theorem nl_RX3_126 : Cond.methodLinkNest RX3 126 yX11_nearest RX11 ∈ nW := by decide +kernel
theorem dX3_mostAlike_45 : decode cX3_mostAlike 45 = .ok (.istore 6, 2) := by decide +kernel
theorem dX3_mostAlike_47 : decode cX3_mostAlike 47 = .ok (.aload_n 0, 1) := by decide +kernel
theorem dX3_mostAlike_48 : decode cX3_mostAlike 48 = .ok (.getfield 18, 3) := by decide +kernel
theorem dX3_mostAlike_51 : decode cX3_mostAlike 51 = .ok (.iload 6, 2) := by decide +kernel
theorem dX3_mostAlike_53 : decode cX3_mostAlike 53 = .ok (.dup2, 1) := by decide +kernel
theorem dX3_mostAlike_54 : decode cX3_mostAlike 54 = .ok (.iaload, 1) := by decide +kernel
theorem dX3_mostAlike_55 : decode cX3_mostAlike 55 = .ok (.iconst 1, 1) := by decide +kernel
theorem dX3_mostAlike_56 : decode cX3_mostAlike 56 = .ok (.iadd, 1) := by decide +kernel
theorem dX3_mostAlike_57 : decode cX3_mostAlike 57 = .ok (.iastore, 1) := by decide +kernel
theorem dX3_mostAlike_58 : decode cX3_mostAlike 58 = .ok (.iload 4, 2) := by decide +kernel
theorem dX3_mostAlike_60 : decode cX3_mostAlike 60 = .ok (.aload_n 0, 1) := by decide +kernel
theorem dX3_mostAlike_61 : decode cX3_mostAlike 61 = .ok (.getfield 18, 3) := by decide +kernel
theorem dX3_mostAlike_64 : decode cX3_mostAlike 64 = .ok (.iload 6, 2) := by decide +kernel
theorem dX3_mostAlike_66 : decode cX3_mostAlike 66 = .ok (.iaload, 1) := by decide +kernel
theorem dX3_mostAlike_67 : decode cX3_mostAlike 67 = .ok (.invokestatic 112, 3) := by decide +kernel
theorem dX3_mostAlike_70 : decode cX3_mostAlike 70 = .ok (.istore 4, 2) := by decide +kernel
theorem dX3_mostAlike_78 : decode cX3_mostAlike 78 = .ok (.iload 4, 2) := by decide +kernel
theorem dX3_mostAlike_80 : decode cX3_mostAlike 80 = .ok (.ireturn, 1) := by decide +kernel
def yX4_fewestSounds : MethodName := ⟨RX4, "fewestSounds", "()I"⟩
abbrev cX4_fewestSounds : ByteArray := prog_6_method_7_code
theorem dX4_fewestSounds_0 : decode cX4_fewestSounds 0 = .ok (.iconst (-1), 1) := by decide +kernel
theorem dX4_fewestSounds_1 : decode cX4_fewestSounds 1 = .ok (.istore_n 1, 1) := by decide +kernel
theorem dX4_fewestSounds_2 : decode cX4_fewestSounds 2 = .ok (.iconst 0, 1) := by decide +kernel
theorem dX4_fewestSounds_3 : decode cX4_fewestSounds 3 = .ok (.istore_n 2, 1) := by decide +kernel
theorem dX4_fewestSounds_4 : decode cX4_fewestSounds 4 = .ok (.iload_n 2, 1) := by decide +kernel
theorem dX4_fewestSounds_5 : decode cX4_fewestSounds 5 = .ok (.bipush 64, 2) := by decide +kernel
theorem dX4_fewestSounds_7 : decode cX4_fewestSounds 7 = .ok (.if_icmp .ge 45, 3) := by decide +kernel
theorem dX4_fewestSounds_10 : decode cX4_fewestSounds 10 = .ok (.iload_n 1, 1) := by decide +kernel
theorem dX4_fewestSounds_11 : decode cX4_fewestSounds 11 = .ok (.iconst (-1), 1) := by decide +kernel
theorem dX4_fewestSounds_12 : decode cX4_fewestSounds 12 = .ok (.if_icmp .eq 14, 3) := by decide +kernel
theorem dX4_fewestSounds_26 : decode cX4_fewestSounds 26 = .ok (.iconst 1, 1) := by decide +kernel
theorem dX4_fewestSounds_27 : decode cX4_fewestSounds 27 = .ok (.goto 4, 3) := by decide +kernel
theorem dX4_fewestSounds_15 : decode cX4_fewestSounds 15 = .ok (.iload_n 2, 1) := by decide +kernel
theorem dX4_fewestSounds_16 : decode cX4_fewestSounds 16 = .ok (.invokestatic 62, 3) := by decide +kernel
theorem lk_RX4_62 : Cond.methodLink RX4 62 yJ6_bitCount_0f7a4 ∈ gW := gW_u tb_5 219 (by rfl) (by decide +kernel)
theorem mT_J6_bitCount_0f7a4 : Cond.static yJ6_bitCount_0f7a4 ∈ gW := gW_u tb_5 156 (by rfl) (by decide +kernel)
theorem mN_RJ6 : Cond.initialized RJ6 ∈ gW := gW_u tb_1 22 (by rfl) (by decide +kernel)
theorem mC_J6_bitCount_0f7a4 : Cond.code yJ6_bitCount_0f7a4 cJ6_bitCount_0f7a4 1 (some .int) ∈ gW := gW_u tb_5 157 (by rfl) (by decide +kernel)
theorem ok_J6_bitCount_0f7a4 : okD yJ6_bitCount_0f7a4 1 := ⟨by decide +kernel, by decide +kernel, by decide +kernel⟩
theorem dX4_fewestSounds_19 : decode cX4_fewestSounds 19 = .ok (.iload_n 1, 1) := by decide +kernel
theorem dX4_fewestSounds_20 : decode cX4_fewestSounds 20 = .ok (.invokestatic 62, 3) := by decide +kernel
theorem dX4_fewestSounds_23 : decode cX4_fewestSounds 23 = .ok (.if_icmp .ge 7, 3) := by decide +kernel
theorem dX4_fewestSounds_30 : decode cX4_fewestSounds 30 = .ok (.iconst 0, 1) := by decide +kernel
theorem dX4_fewestSounds_31 : decode cX4_fewestSounds 31 = .ok (.istore_n 3, 1) := by decide +kernel
theorem dX4_fewestSounds_32 : decode cX4_fewestSounds 32 = .ok (.iload_n 3, 1) := by decide +kernel
theorem dX4_fewestSounds_33 : decode cX4_fewestSounds 33 = .ok (.ifCond .eq 13, 3) := by decide +kernel
theorem dX4_fewestSounds_46 : decode cX4_fewestSounds 46 = .ok (.iinc 2 1, 3) := by decide +kernel
theorem dX4_fewestSounds_49 : decode cX4_fewestSounds 49 = .ok (.goto (-45), 3) := by decide +kernel
theorem dX4_fewestSounds_36 : decode cX4_fewestSounds 36 = .ok (.aload_n 0, 1) := by decide +kernel
theorem dX4_fewestSounds_37 : decode cX4_fewestSounds 37 = .ok (.iload_n 2, 1) := by decide +kernel
theorem dX4_fewestSounds_38 : decode cX4_fewestSounds 38 = .ok (.invokevirtual 67, 3) := by decide +kernel
theorem lk_RX4_67 : Cond.methodLink RX4 67 yX4_meanWater ∈ gW := gW_u tb_5 220 (by rfl) (by decide +kernel)
theorem mI_X4_meanWater : Cond.instanceMethod yX4_meanWater ∈ gW := gW_u tb_5 222 (by rfl) (by decide +kernel)
theorem mS_X4_meanWater : Cond.selects RX4 yX4_meanWater yX4_meanWater ∈ gW := gW_p (q := (yX4_meanWater, 13)) 39 (by decide +kernel)
theorem mC_X4_meanWater : Cond.code yX4_meanWater cX4_meanWater 4 (some .boolean) ∈ gW := gW_u tb_5 223 (by rfl) (by decide +kernel)
theorem ok_X4_meanWater : okD yX4_meanWater 1 := ⟨by decide +kernel, by decide +kernel, by decide +kernel⟩
theorem dX4_fewestSounds_41 : decode cX4_fewestSounds 41 = .ok (.ifCond .eq 5, 3) := by decide +kernel
theorem dX4_fewestSounds_44 : decode cX4_fewestSounds 44 = .ok (.iload_n 2, 1) := by decide +kernel
theorem dX4_fewestSounds_45 : decode cX4_fewestSounds 45 = .ok (.istore_n 1, 1) := by decide +kernel
theorem dX4_fewestSounds_52 : decode cX4_fewestSounds 52 = .ok (.iload_n 1, 1) := by decide +kernel
theorem dX4_fewestSounds_53 : decode cX4_fewestSounds 53 = .ok (.ireturn, 1) := by decide +kernel
def yX5_setHead : MethodName := ⟨RX5, "setHead", "(II)V"⟩
abbrev cX5_setHead : ByteArray := prog_7_method_15_code
theorem dX5_setHead_0 : decode cX5_setHead 0 = .ok (.aload_n 0, 1) := by decide +kernel
theorem dX5_setHead_1 : decode cX5_setHead 1 = .ok (.getfield 30, 3) := by decide +kernel
theorem dX5_setHead_4 : decode cX5_setHead 4 = .ok (.aload_n 0, 1) := by decide +kernel
theorem dX5_setHead_5 : decode cX5_setHead 5 = .ok (.getfield 30, 3) := by decide +kernel
theorem dX5_setHead_8 : decode cX5_setHead 8 = .ok (.getfield 69, 3) := by decide +kernel
theorem fl_RX5_69 : Cond.fieldLink RX5 69 RX8 "clauses" "I" ∈ gW := gW_u tb_2 91 (by rfl) (by decide +kernel)
theorem dX5_setHead_11 : decode cX5_setHead 11 = .ok (.iload_n 1, 1) := by decide +kernel
theorem dX5_setHead_12 : decode cX5_setHead 12 = .ok (.iload_n 2, 1) := by decide +kernel
theorem dX5_setHead_13 : decode cX5_setHead 13 = .ok (.invokevirtual 133, 3) := by decide +kernel
theorem lk_RX5_133 : Cond.methodLink RX5 133 yX8_setHead ∈ gW := gW_u tb_4 21 (by rfl) (by decide +kernel)
theorem mI_X8_setHead : Cond.instanceMethod yX8_setHead ∈ gW := gW_u tb_4 22 (by rfl) (by decide +kernel)
theorem mS_X8_setHead : Cond.selects RX8 yX8_setHead yX8_setHead ∈ gW := gW_u tb_4 23 (by rfl) (by decide +kernel)
theorem mN_RX8 : Cond.initialized RX8 ∈ gW := gW_u tb_1 11 (by rfl) (by decide +kernel)
theorem mC_X8_setHead : Cond.code yX8_setHead cX8_setHead 5 none ∈ gW := gW_u tb_4 24 (by rfl) (by decide +kernel)
theorem ok_X8_setHead : okD yX8_setHead 3 := ⟨by decide +kernel, by decide +kernel, by decide +kernel⟩
theorem dX5_setHead_16 : decode cX5_setHead 16 = .ok (.return_, 1) := by decide +kernel
def yX5_readTimes : MethodName := ⟨RX5, "readTimes", "()Z"⟩
abbrev cX5_readTimes : ByteArray := prog_7_method_18_code
theorem dX5_readTimes_0 : decode cX5_readTimes 0 = .ok (.aload_n 0, 1) := by decide +kernel
theorem dX5_readTimes_1 : decode cX5_readTimes 1 = .ok (.invokevirtual 86, 3) := by decide +kernel
theorem lk_RX5_86 : Cond.methodLink RX5 86 yX5_tokenNow ∈ gW := gW_u tb_4 29 (by rfl) (by decide +kernel)
theorem mI_X5_tokenNow : Cond.instanceMethod yX5_tokenNow ∈ gW := gW_u tb_4 31 (by rfl) (by decide +kernel)
theorem mS_X5_tokenNow : Cond.selects RX5 yX5_tokenNow yX5_tokenNow ∈ gW := gW_p (q := (yX5_tokenNow, 10)) 13 (by decide +kernel)
theorem mC_X5_tokenNow : Cond.code yX5_tokenNow cX5_tokenNow 1 (some .int) ∈ gW := gW_u tb_4 32 (by rfl) (by decide +kernel)
theorem ok_X5_tokenNow : okD yX5_tokenNow 0 := ⟨by decide +kernel, by decide +kernel, by decide +kernel⟩
theorem dX5_readTimes_4 : decode cX5_readTimes 4 = .ok (.sipush 1000, 3) := by decide +kernel
theorem dX5_readTimes_7 : decode cX5_readTimes 7 = .ok (.isub, 1) := by decide +kernel
theorem dX5_readTimes_8 : decode cX5_readTimes 8 = .ok (.istore_n 1, 1) := by decide +kernel
theorem dX5_readTimes_9 : decode cX5_readTimes 9 = .ok (.iload_n 1, 1) := by decide +kernel
theorem dX5_readTimes_10 : decode cX5_readTimes 10 = .ok (.iconst 1, 1) := by decide +kernel
theorem dX5_readTimes_11 : decode cX5_readTimes 11 = .ok (.if_icmp .lt 9, 3) := by decide +kernel
theorem dX5_readTimes_20 : decode cX5_readTimes 20 = .ok (.iconst 0, 1) := by decide +kernel
theorem dX5_readTimes_21 : decode cX5_readTimes 21 = .ok (.ireturn, 1) := by decide +kernel
theorem dX5_readTimes_14 : decode cX5_readTimes 14 = .ok (.iload_n 1, 1) := by decide +kernel
theorem dX5_readTimes_15 : decode cX5_readTimes 15 = .ok (.bipush 20, 2) := by decide +kernel
theorem dX5_readTimes_17 : decode cX5_readTimes 17 = .ok (.if_icmp .le 5, 3) := by decide +kernel
theorem dX5_readTimes_22 : decode cX5_readTimes 22 = .ok (.aload_n 0, 1) := by decide +kernel
theorem dX5_readTimes_23 : decode cX5_readTimes 23 = .ok (.dup, 1) := by decide +kernel
theorem dX5_readTimes_24 : decode cX5_readTimes 24 = .ok (.getfield 63, 3) := by decide +kernel
theorem dX5_readTimes_27 : decode cX5_readTimes 27 = .ok (.iconst 1, 1) := by decide +kernel
theorem dX5_readTimes_28 : decode cX5_readTimes 28 = .ok (.iadd, 1) := by decide +kernel
theorem dX5_readTimes_29 : decode cX5_readTimes 29 = .ok (.putfield 63, 3) := by decide +kernel
theorem dX5_readTimes_32 : decode cX5_readTimes 32 = .ok (.aload_n 0, 1) := by decide +kernel
theorem dX5_readTimes_33 : decode cX5_readTimes 33 = .ok (.iconst 4, 1) := by decide +kernel
theorem dX5_readTimes_34 : decode cX5_readTimes 34 = .ok (.iload_n 1, 1) := by decide +kernel
theorem dX5_readTimes_35 : decode cX5_readTimes 35 = .ok (.invokevirtual 130, 3) := by decide +kernel
theorem lk_RX5_130 : Cond.methodLink RX5 130 yX5_setHead ∈ gW := gW_u tb_4 17 (by rfl) (by decide +kernel)
theorem mI_X5_setHead : Cond.instanceMethod yX5_setHead ∈ gW := gW_u tb_4 19 (by rfl) (by decide +kernel)
theorem mS_X5_setHead : Cond.selects RX5 yX5_setHead yX5_setHead ∈ gW := gW_p (q := (yX5_setHead, 10)) 11 (by decide +kernel)
theorem mC_X5_setHead : Cond.code yX5_setHead cX5_setHead 3 none ∈ gW := gW_u tb_4 20 (by rfl) (by decide +kernel)
theorem ok_X5_setHead : okD yX5_setHead 2 := ⟨by decide +kernel, by decide +kernel, by decide +kernel⟩
theorem dX5_readTimes_38 : decode cX5_readTimes 38 = .ok (.iconst 1, 1) := by decide +kernel
theorem dX5_readTimes_39 : decode cX5_readTimes 39 = .ok (.ireturn, 1) := by decide +kernel
def yX7_copyFrom : MethodName := ⟨RX7, "copyFrom", "(LListenWells$Site;)V"⟩
abbrev cX7_copyFrom : ByteArray := prog_9_method_2_code
theorem dX7_copyFrom_0 : decode cX7_copyFrom 0 = .ok (.aload_n 0, 1) := by decide +kernel
theorem dX7_copyFrom_1 : decode cX7_copyFrom 1 = .ok (.getfield 12, 3) := by decide +kernel
theorem dX7_copyFrom_4 : decode cX7_copyFrom 4 = .ok (.aload_n 1, 1) := by decide +kernel
theorem dX7_copyFrom_5 : decode cX7_copyFrom 5 = .ok (.getfield 12, 3) := by decide +kernel
theorem dX7_copyFrom_8 : decode cX7_copyFrom 8 = .ok (.invokevirtual 29, 3) := by decide +kernel
theorem lk_RX7_29 : Cond.methodLink RX7 29 yX10_copyFrom ∈ gW := gW_u tb_4 119 (by rfl) (by decide +kernel)
theorem dX7_copyFrom_11 : decode cX7_copyFrom 11 = .ok (.aload_n 0, 1) := by decide +kernel
theorem dX7_copyFrom_12 : decode cX7_copyFrom 12 = .ok (.getfield 21, 3) := by decide +kernel
theorem dX7_copyFrom_15 : decode cX7_copyFrom 15 = .ok (.aload_n 1, 1) := by decide +kernel
theorem dX7_copyFrom_16 : decode cX7_copyFrom 16 = .ok (.getfield 21, 3) := by decide +kernel
theorem dX7_copyFrom_19 : decode cX7_copyFrom 19 = .ok (.invokevirtual 33, 3) := by decide +kernel
theorem lk_RX7_33 : Cond.methodLink RX7 33 yX2_copyFrom ∈ gW := gW_u tb_4 139 (by rfl) (by decide +kernel)
theorem mI_X2_copyFrom : Cond.instanceMethod yX2_copyFrom ∈ gW := gW_u tb_4 140 (by rfl) (by decide +kernel)
theorem mS_X2_copyFrom : Cond.selects RX2 yX2_copyFrom yX2_copyFrom ∈ gW := gW_u tb_4 141 (by rfl) (by decide +kernel)
theorem mC_X2_copyFrom : Cond.code yX2_copyFrom cX2_copyFrom 2 none ∈ gW := gW_u tb_4 142 (by rfl) (by decide +kernel)
theorem ok_X2_copyFrom : okD yX2_copyFrom 1 := ⟨by decide +kernel, by decide +kernel, by decide +kernel⟩
theorem dX7_copyFrom_22 : decode cX7_copyFrom 22 = .ok (.return_, 1) := by decide +kernel
def yX7_tryDig : MethodName := ⟨RX7, "tryDig", "(II)I"⟩
abbrev cX7_tryDig : ByteArray := prog_9_method_3_code
theorem dX7_tryDig_0 : decode cX7_tryDig 0 = .ok (.iload_n 2, 1) := by decide +kernel
theorem dX7_tryDig_1 : decode cX7_tryDig 1 = .ok (.ifCond .lt 8, 3) := by decide +kernel
theorem dX7_tryDig_9 : decode cX7_tryDig 9 = .ok (.iconst (-1), 1) := by decide +kernel
theorem dX7_tryDig_10 : decode cX7_tryDig 10 = .ok (.ireturn, 1) := by decide +kernel
theorem dX7_tryDig_4 : decode cX7_tryDig 4 = .ok (.iload_n 2, 1) := by decide +kernel
theorem dX7_tryDig_5 : decode cX7_tryDig 5 = .ok (.iconst 2, 1) := by decide +kernel
theorem dX7_tryDig_6 : decode cX7_tryDig 6 = .ok (.if_icmp .le 5, 3) := by decide +kernel
theorem dX7_tryDig_11 : decode cX7_tryDig 11 = .ok (.iload_n 1, 1) := by decide +kernel
theorem dX7_tryDig_12 : decode cX7_tryDig 12 = .ok (.aload_n 0, 1) := by decide +kernel
theorem dX7_tryDig_13 : decode cX7_tryDig 13 = .ok (.getfield 12, 3) := by decide +kernel
theorem dX7_tryDig_16 : decode cX7_tryDig 16 = .ok (.getfield 36, 3) := by decide +kernel
theorem dX7_tryDig_19 : decode cX7_tryDig 19 = .ok (.getfield 40, 3) := by decide +kernel
theorem fl_RX7_40 : Cond.fieldLink RX7 40 RX1 "count" "I" ∈ gW := gW_u tb_1 129 (by rfl) (by decide +kernel)
theorem dX7_tryDig_22 : decode cX7_tryDig 22 = .ok (.invokestatic 46, 3) := by decide +kernel
theorem dX7_tryDig_25 : decode cX7_tryDig 25 = .ok (.ifCond .ne 6, 3) := by decide +kernel
theorem dX7_tryDig_31 : decode cX7_tryDig 31 = .ok (.aload_n 0, 1) := by decide +kernel
theorem dX7_tryDig_32 : decode cX7_tryDig 32 = .ok (.getfield 12, 3) := by decide +kernel
theorem dX7_tryDig_35 : decode cX7_tryDig 35 = .ok (.getfield 36, 3) := by decide +kernel
theorem dX7_tryDig_38 : decode cX7_tryDig 38 = .ok (.getfield 50, 3) := by decide +kernel
theorem dX7_tryDig_41 : decode cX7_tryDig 41 = .ok (.iload_n 1, 1) := by decide +kernel
theorem dX7_tryDig_42 : decode cX7_tryDig 42 = .ok (.iaload, 1) := by decide +kernel
theorem dX7_tryDig_43 : decode cX7_tryDig 43 = .ok (.istore_n 3, 1) := by decide +kernel
theorem dX7_tryDig_44 : decode cX7_tryDig 44 = .ok (.iload_n 3, 1) := by decide +kernel
theorem dX7_tryDig_45 : decode cX7_tryDig 45 = .ok (.iload_n 2, 1) := by decide +kernel
theorem dX7_tryDig_46 : decode cX7_tryDig 46 = .ok (.invokestatic 54, 3) := by decide +kernel
theorem lk_RX7_54 : Cond.methodLink RX7 54 yX7_neighbour ∈ gW := gW_u tb_4 200 (by rfl) (by decide +kernel)
theorem mT_X7_neighbour : Cond.static yX7_neighbour ∈ gW := gW_u tb_4 201 (by rfl) (by decide +kernel)
theorem mC_X7_neighbour : Cond.code yX7_neighbour cX7_neighbour 3 (some .int) ∈ gW := gW_u tb_4 202 (by rfl) (by decide +kernel)
theorem ok_X7_neighbour : okD yX7_neighbour 2 := ⟨by decide +kernel, by decide +kernel, by decide +kernel⟩
theorem dX7_tryDig_49 : decode cX7_tryDig 49 = .ok (.istore 4, 2) := by decide +kernel
theorem dX7_tryDig_51 : decode cX7_tryDig 51 = .ok (.aload_n 0, 1) := by decide +kernel
theorem dX7_tryDig_52 : decode cX7_tryDig 52 = .ok (.getfield 12, 3) := by decide +kernel
theorem dX7_tryDig_55 : decode cX7_tryDig 55 = .ok (.iload_n 1, 1) := by decide +kernel
theorem dX7_tryDig_56 : decode cX7_tryDig 56 = .ok (.invokevirtual 58, 3) := by decide +kernel
theorem lk_RX7_58 : Cond.methodLink RX7 58 yX10_mayBeDugOn ∈ gW := gW_u tb_4 203 (by rfl) (by decide +kernel)
theorem mI_X10_mayBeDugOn : Cond.instanceMethod yX10_mayBeDugOn ∈ gW := gW_u tb_4 204 (by rfl) (by decide +kernel)
theorem mS_X10_mayBeDugOn : Cond.selects RX10 yX10_mayBeDugOn yX10_mayBeDugOn ∈ gW := gW_u tb_4 205 (by rfl) (by decide +kernel)
theorem mC_X10_mayBeDugOn : Cond.code yX10_mayBeDugOn cX10_mayBeDugOn 2 (some .boolean) ∈ gW := gW_u tb_4 206 (by rfl) (by decide +kernel)
theorem ok_X10_mayBeDugOn : okD yX10_mayBeDugOn 1 := ⟨by decide +kernel, by decide +kernel, by decide +kernel⟩
theorem dX7_tryDig_59 : decode cX7_tryDig 59 = .ok (.ifCond .eq 24, 3) := by decide +kernel
theorem dX7_tryDig_83 : decode cX7_tryDig 83 = .ok (.bipush (-3), 2) := by decide +kernel
theorem dX7_tryDig_85 : decode cX7_tryDig 85 = .ok (.ireturn, 1) := by decide +kernel
theorem dX7_tryDig_62 : decode cX7_tryDig 62 = .ok (.iload 4, 2) := by decide +kernel
theorem dX7_tryDig_64 : decode cX7_tryDig 64 = .ok (.iconst (-1), 1) := by decide +kernel
theorem dX7_tryDig_65 : decode cX7_tryDig 65 = .ok (.if_icmp .eq 18, 3) := by decide +kernel
theorem dX7_tryDig_68 : decode cX7_tryDig 68 = .ok (.aload_n 0, 1) := by decide +kernel
theorem dX7_tryDig_69 : decode cX7_tryDig 69 = .ok (.getfield 12, 3) := by decide +kernel
theorem dX7_tryDig_72 : decode cX7_tryDig 72 = .ok (.getfield 62, 3) := by decide +kernel
theorem dX7_tryDig_75 : decode cX7_tryDig 75 = .ok (.iload 4, 2) := by decide +kernel
theorem dX7_tryDig_77 : decode cX7_tryDig 77 = .ok (.invokevirtual 66, 3) := by decide +kernel
theorem lk_RX7_66 : Cond.methodLink RX7 66 yX6_isDug ∈ gW := gW_u tb_4 211 (by rfl) (by decide +kernel)
theorem dX7_tryDig_80 : decode cX7_tryDig 80 = .ok (.ifCond .eq 6, 3) := by decide +kernel
theorem dX7_tryDig_86 : decode cX7_tryDig 86 = .ok (.aload_n 0, 1) := by decide +kernel
theorem dX7_tryDig_87 : decode cX7_tryDig 87 = .ok (.getfield 25, 3) := by decide +kernel
theorem fl_RX7_25 : Cond.fieldLink RX7 25 RX7 "asker" "LListenWells$Asker;" ∈ gW := gW_u tb_2 53 (by rfl) (by decide +kernel)
theorem dX7_tryDig_90 : decode cX7_tryDig 90 = .ok (.aload_n 0, 1) := by decide +kernel
theorem dX7_tryDig_91 : decode cX7_tryDig 91 = .ok (.getfield 12, 3) := by decide +kernel
theorem dX7_tryDig_94 : decode cX7_tryDig 94 = .ok (.aload_n 0, 1) := by decide +kernel
theorem dX7_tryDig_95 : decode cX7_tryDig 95 = .ok (.getfield 12, 3) := by decide +kernel
theorem dX7_tryDig_98 : decode cX7_tryDig 98 = .ok (.invokevirtual 71, 3) := by decide +kernel
theorem lk_RX7_71 : Cond.methodLink RX7 71 yX10_lawInForce ∈ gW := gW_u tb_4 184 (by rfl) (by decide +kernel)
theorem mI_X10_lawInForce : Cond.instanceMethod yX10_lawInForce ∈ gW := gW_u tb_3 40 (by rfl) (by decide +kernel)
theorem mS_X10_lawInForce : Cond.selects RX10 yX10_lawInForce yX10_lawInForce ∈ gW := gW_u tb_3 41 (by rfl) (by decide +kernel)
theorem mC_X10_lawInForce : Cond.code yX10_lawInForce cX10_lawInForce 1 (some (.object "ListenWells$Text")) ∈ gW := gW_u tb_3 42 (by rfl) (by decide +kernel)
theorem ok_X10_lawInForce : okD yX10_lawInForce 0 := ⟨by decide +kernel, by decide +kernel, by decide +kernel⟩
theorem dX7_tryDig_101 : decode cX7_tryDig 101 = .ok (.invokevirtual 75, 3) := by decide +kernel
theorem lk_RX7_75 : Cond.methodLink RX7 75 yX0_turnTo ∈ gW := gW_u tb_4 185 (by rfl) (by decide +kernel)
theorem mI_X0_turnTo : Cond.instanceMethod yX0_turnTo ∈ gW := gW_u tb_3 48 (by rfl) (by decide +kernel)
theorem mS_X0_turnTo : Cond.selects RX0 yX0_turnTo yX0_turnTo ∈ gW := gW_u tb_3 49 (by rfl) (by decide +kernel)
theorem mC_X0_turnTo : Cond.code yX0_turnTo cX0_turnTo 3 none ∈ gW := gW_u tb_3 50 (by rfl) (by decide +kernel)
theorem ok_X0_turnTo : okD yX0_turnTo 2 := ⟨by decide +kernel, by decide +kernel, by decide +kernel⟩
theorem dX7_tryDig_104 : decode cX7_tryDig 104 = .ok (.aload_n 0, 1) := by decide +kernel
theorem dX7_tryDig_105 : decode cX7_tryDig 105 = .ok (.getfield 12, 3) := by decide +kernel
theorem dX7_tryDig_108 : decode cX7_tryDig 108 = .ok (.getfield 81, 3) := by decide +kernel
theorem dX7_tryDig_111 : decode cX7_tryDig 111 = .ok (.iconst 0, 1) := by decide +kernel
theorem dX7_tryDig_112 : decode cX7_tryDig 112 = .ok (.iaload, 1) := by decide +kernel
theorem dX7_tryDig_113 : decode cX7_tryDig 113 = .ok (.istore 5, 2) := by decide +kernel
theorem dX7_tryDig_115 : decode cX7_tryDig 115 = .ok (.iload 5, 2) := by decide +kernel
theorem dX7_tryDig_117 : decode cX7_tryDig 117 = .ok (.aload_n 0, 1) := by decide +kernel
theorem dX7_tryDig_118 : decode cX7_tryDig 118 = .ok (.getfield 25, 3) := by decide +kernel
theorem dX7_tryDig_121 : decode cX7_tryDig 121 = .ok (.iload_n 1, 1) := by decide +kernel
theorem dX7_tryDig_122 : decode cX7_tryDig 122 = .ok (.iload 4, 2) := by decide +kernel
theorem dX7_tryDig_124 : decode cX7_tryDig 124 = .ok (.invokevirtual 84, 3) := by decide +kernel
theorem lk_RX7_84 : Cond.methodLink RX7 84 yX0_digsOf ∈ gW := gW_u tb_4 212 (by rfl) (by decide +kernel)
theorem mI_X0_digsOf : Cond.instanceMethod yX0_digsOf ∈ gW := gW_u tb_4 213 (by rfl) (by decide +kernel)
theorem mS_X0_digsOf : Cond.selects RX0 yX0_digsOf yX0_digsOf ∈ gW := gW_u tb_4 214 (by rfl) (by decide +kernel)
theorem mC_X0_digsOf : Cond.code yX0_digsOf cX0_digsOf 3 (some .int) ∈ gW := gW_u tb_4 215 (by rfl) (by decide +kernel)
theorem ok_X0_digsOf : okD yX0_digsOf 2 := ⟨by decide +kernel, by decide +kernel, by decide +kernel⟩
theorem dX7_tryDig_127 : decode cX7_tryDig 127 = .ok (.iadd, 1) := by decide +kernel
theorem dX7_tryDig_128 : decode cX7_tryDig 128 = .ok (.istore 6, 2) := by decide +kernel
theorem dX7_tryDig_130 : decode cX7_tryDig 130 = .ok (.iload 6, 2) := by decide +kernel
theorem dX7_tryDig_132 : decode cX7_tryDig 132 = .ok (.sipush 9999, 3) := by decide +kernel
theorem dX7_tryDig_135 : decode cX7_tryDig 135 = .ok (.if_icmp .gt 16, 3) := by decide +kernel
theorem dX7_tryDig_151 : decode cX7_tryDig 151 = .ok (.bipush (-3), 2) := by decide +kernel
theorem dX7_tryDig_153 : decode cX7_tryDig 153 = .ok (.ireturn, 1) := by decide +kernel
theorem dX7_tryDig_138 : decode cX7_tryDig 138 = .ok (.aload_n 0, 1) := by decide +kernel
theorem dX7_tryDig_139 : decode cX7_tryDig 139 = .ok (.getfield 25, 3) := by decide +kernel
theorem dX7_tryDig_142 : decode cX7_tryDig 142 = .ok (.iload_n 1, 1) := by decide +kernel
theorem dX7_tryDig_143 : decode cX7_tryDig 143 = .ok (.iload 4, 2) := by decide +kernel
theorem dX7_tryDig_145 : decode cX7_tryDig 145 = .ok (.invokevirtual 87, 3) := by decide +kernel
theorem lk_RX7_87 : Cond.methodLink RX7 87 yX0_passesOf ∈ gW := gW_u tb_4 216 (by rfl) (by decide +kernel)
theorem mI_X0_passesOf : Cond.instanceMethod yX0_passesOf ∈ gW := gW_u tb_4 217 (by rfl) (by decide +kernel)
theorem mS_X0_passesOf : Cond.selects RX0 yX0_passesOf yX0_passesOf ∈ gW := gW_u tb_4 218 (by rfl) (by decide +kernel)
theorem mC_X0_passesOf : Cond.code yX0_passesOf cX0_passesOf 3 (some .boolean) ∈ gW := gW_u tb_4 219 (by rfl) (by decide +kernel)
theorem ok_X0_passesOf : okD yX0_passesOf 2 := ⟨by decide +kernel, by decide +kernel, by decide +kernel⟩
theorem dX7_tryDig_148 : decode cX7_tryDig 148 = .ok (.ifCond .ne 6, 3) := by decide +kernel
theorem dX7_tryDig_154 : decode cX7_tryDig 154 = .ok (.aload_n 0, 1) := by decide +kernel
theorem dX7_tryDig_155 : decode cX7_tryDig 155 = .ok (.getfield 21, 3) := by decide +kernel
theorem dX7_tryDig_158 : decode cX7_tryDig 158 = .ok (.iconst 0, 1) := by decide +kernel
theorem dX7_tryDig_159 : decode cX7_tryDig 159 = .ok (.iload_n 1, 1) := by decide +kernel
theorem dX7_tryDig_160 : decode cX7_tryDig 160 = .ok (.iload_n 3, 1) := by decide +kernel
theorem dX7_tryDig_161 : decode cX7_tryDig 161 = .ok (.iconst 0, 1) := by decide +kernel
theorem dX7_tryDig_162 : decode cX7_tryDig 162 = .ok (.iload 5, 2) := by decide +kernel
theorem dX7_tryDig_164 : decode cX7_tryDig 164 = .ok (.invokevirtual 90, 3) := by decide +kernel
theorem dX7_tryDig_167 : decode cX7_tryDig 167 = .ok (.aload_n 0, 1) := by decide +kernel
theorem dX7_tryDig_168 : decode cX7_tryDig 168 = .ok (.getfield 12, 3) := by decide +kernel
theorem dX7_tryDig_171 : decode cX7_tryDig 171 = .ok (.getfield 81, 3) := by decide +kernel
theorem dX7_tryDig_174 : decode cX7_tryDig 174 = .ok (.iconst 0, 1) := by decide +kernel
theorem dX7_tryDig_175 : decode cX7_tryDig 175 = .ok (.iload 6, 2) := by decide +kernel
theorem dX7_tryDig_177 : decode cX7_tryDig 177 = .ok (.iastore, 1) := by decide +kernel
theorem dX7_tryDig_178 : decode cX7_tryDig 178 = .ok (.aload_n 0, 1) := by decide +kernel
theorem dX7_tryDig_179 : decode cX7_tryDig 179 = .ok (.getfield 12, 3) := by decide +kernel
theorem dX7_tryDig_182 : decode cX7_tryDig 182 = .ok (.getfield 62, 3) := by decide +kernel
theorem dX7_tryDig_185 : decode cX7_tryDig 185 = .ok (.iload 4, 2) := by decide +kernel
theorem dX7_tryDig_187 : decode cX7_tryDig 187 = .ok (.invokevirtual 94, 3) := by decide +kernel
theorem lk_RX7_94 : Cond.methodLink RX7 94 yX6_mark ∈ gW := gW_u tb_4 220 (by rfl) (by decide +kernel)
theorem dX7_tryDig_190 : decode cX7_tryDig 190 = .ok (.aload_n 0, 1) := by decide +kernel
theorem dX7_tryDig_191 : decode cX7_tryDig 191 = .ok (.getfield 12, 3) := by decide +kernel
theorem dX7_tryDig_194 : decode cX7_tryDig 194 = .ok (.getfield 36, 3) := by decide +kernel
theorem dX7_tryDig_197 : decode cX7_tryDig 197 = .ok (.getfield 50, 3) := by decide +kernel
theorem dX7_tryDig_200 : decode cX7_tryDig 200 = .ok (.iload_n 1, 1) := by decide +kernel
theorem dX7_tryDig_201 : decode cX7_tryDig 201 = .ok (.iload 4, 2) := by decide +kernel
theorem dX7_tryDig_203 : decode cX7_tryDig 203 = .ok (.iastore, 1) := by decide +kernel
theorem dX7_tryDig_204 : decode cX7_tryDig 204 = .ok (.iload 4, 2) := by decide +kernel
theorem dX7_tryDig_206 : decode cX7_tryDig 206 = .ok (.ireturn, 1) := by decide +kernel
theorem dX7_tryDig_28 : decode cX7_tryDig 28 = .ok (.bipush (-2), 2) := by decide +kernel
theorem dX7_tryDig_30 : decode cX7_tryDig 30 = .ok (.ireturn, 1) := by decide +kernel
def yX7_tryHaul : MethodName := ⟨RX7, "tryHaul", "(I)I"⟩
abbrev cX7_tryHaul : ByteArray := prog_9_method_5_code
theorem dX7_tryHaul_0 : decode cX7_tryHaul 0 = .ok (.iload_n 1, 1) := by decide +kernel
theorem dX7_tryHaul_1 : decode cX7_tryHaul 1 = .ok (.aload_n 0, 1) := by decide +kernel
theorem dX7_tryHaul_2 : decode cX7_tryHaul 2 = .ok (.getfield 12, 3) := by decide +kernel
theorem dX7_tryHaul_5 : decode cX7_tryHaul 5 = .ok (.getfield 36, 3) := by decide +kernel
theorem dX7_tryHaul_8 : decode cX7_tryHaul 8 = .ok (.getfield 40, 3) := by decide +kernel
theorem dX7_tryHaul_11 : decode cX7_tryHaul 11 = .ok (.invokestatic 46, 3) := by decide +kernel
theorem dX7_tryHaul_14 : decode cX7_tryHaul 14 = .ok (.ifCond .ne 6, 3) := by decide +kernel
theorem dX7_tryHaul_20 : decode cX7_tryHaul 20 = .ok (.aload_n 0, 1) := by decide +kernel
theorem dX7_tryHaul_21 : decode cX7_tryHaul 21 = .ok (.getfield 12, 3) := by decide +kernel
theorem dX7_tryHaul_24 : decode cX7_tryHaul 24 = .ok (.getfield 36, 3) := by decide +kernel
theorem dX7_tryHaul_27 : decode cX7_tryHaul 27 = .ok (.getfield 50, 3) := by decide +kernel
theorem dX7_tryHaul_30 : decode cX7_tryHaul 30 = .ok (.iload_n 1, 1) := by decide +kernel
theorem dX7_tryHaul_31 : decode cX7_tryHaul 31 = .ok (.iaload, 1) := by decide +kernel
theorem dX7_tryHaul_32 : decode cX7_tryHaul 32 = .ok (.istore_n 2, 1) := by decide +kernel
theorem dX7_tryHaul_33 : decode cX7_tryHaul 33 = .ok (.aload_n 0, 1) := by decide +kernel
theorem dX7_tryHaul_34 : decode cX7_tryHaul 34 = .ok (.getfield 12, 3) := by decide +kernel
theorem dX7_tryHaul_37 : decode cX7_tryHaul 37 = .ok (.getfield 81, 3) := by decide +kernel
theorem dX7_tryHaul_40 : decode cX7_tryHaul 40 = .ok (.iconst 0, 1) := by decide +kernel
theorem dX7_tryHaul_41 : decode cX7_tryHaul 41 = .ok (.iaload, 1) := by decide +kernel
theorem dX7_tryHaul_42 : decode cX7_tryHaul 42 = .ok (.istore_n 3, 1) := by decide +kernel
theorem dX7_tryHaul_43 : decode cX7_tryHaul 43 = .ok (.aload_n 0, 1) := by decide +kernel
theorem dX7_tryHaul_44 : decode cX7_tryHaul 44 = .ok (.getfield 12, 3) := by decide +kernel
theorem dX7_tryHaul_47 : decode cX7_tryHaul 47 = .ok (.getfield 62, 3) := by decide +kernel
theorem dX7_tryHaul_50 : decode cX7_tryHaul 50 = .ok (.getfield 98, 3) := by decide +kernel
theorem fl_RX7_98 : Cond.fieldLink RX7 98 RX6 "kind" "[I" ∈ gW := gW_u tb_1 91 (by rfl) (by decide +kernel)
theorem dX7_tryHaul_53 : decode cX7_tryHaul 53 = .ok (.iload_n 2, 1) := by decide +kernel
theorem dX7_tryHaul_54 : decode cX7_tryHaul 54 = .ok (.iaload, 1) := by decide +kernel
theorem dX7_tryHaul_55 : decode cX7_tryHaul 55 = .ok (.iconst 3, 1) := by decide +kernel
theorem dX7_tryHaul_56 : decode cX7_tryHaul 56 = .ok (.if_icmp .ne 10, 3) := by decide +kernel
theorem dX7_tryHaul_66 : decode cX7_tryHaul 66 = .ok (.bipush (-3), 2) := by decide +kernel
theorem dX7_tryHaul_68 : decode cX7_tryHaul 68 = .ok (.ireturn, 1) := by decide +kernel
theorem dX7_tryHaul_59 : decode cX7_tryHaul 59 = .ok (.iload_n 3, 1) := by decide +kernel
theorem dX7_tryHaul_60 : decode cX7_tryHaul 60 = .ok (.sipush 9999, 3) := by decide +kernel
theorem dX7_tryHaul_63 : decode cX7_tryHaul 63 = .ok (.if_icmp .lt 6, 3) := by decide +kernel
theorem dX7_tryHaul_69 : decode cX7_tryHaul 69 = .ok (.aload_n 0, 1) := by decide +kernel
theorem dX7_tryHaul_70 : decode cX7_tryHaul 70 = .ok (.getfield 25, 3) := by decide +kernel
theorem dX7_tryHaul_73 : decode cX7_tryHaul 73 = .ok (.aload_n 0, 1) := by decide +kernel
theorem dX7_tryHaul_74 : decode cX7_tryHaul 74 = .ok (.getfield 12, 3) := by decide +kernel
theorem dX7_tryHaul_77 : decode cX7_tryHaul 77 = .ok (.aload_n 0, 1) := by decide +kernel
theorem dX7_tryHaul_78 : decode cX7_tryHaul 78 = .ok (.getfield 12, 3) := by decide +kernel
theorem dX7_tryHaul_81 : decode cX7_tryHaul 81 = .ok (.invokevirtual 71, 3) := by decide +kernel
theorem dX7_tryHaul_84 : decode cX7_tryHaul 84 = .ok (.invokevirtual 75, 3) := by decide +kernel
theorem dX7_tryHaul_87 : decode cX7_tryHaul 87 = .ok (.aload_n 0, 1) := by decide +kernel
theorem dX7_tryHaul_88 : decode cX7_tryHaul 88 = .ok (.getfield 25, 3) := by decide +kernel
theorem dX7_tryHaul_91 : decode cX7_tryHaul 91 = .ok (.iload_n 1, 1) := by decide +kernel
theorem dX7_tryHaul_92 : decode cX7_tryHaul 92 = .ok (.iload_n 2, 1) := by decide +kernel
theorem dX7_tryHaul_93 : decode cX7_tryHaul 93 = .ok (.invokevirtual 101, 3) := by decide +kernel
theorem lk_RX7_101 : Cond.methodLink RX7 101 yX0_givesOf ∈ gW := gW_u tb_4 186 (by rfl) (by decide +kernel)
theorem mI_X0_givesOf : Cond.instanceMethod yX0_givesOf ∈ gW := gW_u tb_4 187 (by rfl) (by decide +kernel)
theorem mS_X0_givesOf : Cond.selects RX0 yX0_givesOf yX0_givesOf ∈ gW := gW_u tb_4 188 (by rfl) (by decide +kernel)
theorem mC_X0_givesOf : Cond.code yX0_givesOf cX0_givesOf 3 (some .int) ∈ gW := gW_u tb_4 189 (by rfl) (by decide +kernel)
theorem ok_X0_givesOf : okD yX0_givesOf 2 := ⟨by decide +kernel, by decide +kernel, by decide +kernel⟩
theorem dX7_tryHaul_96 : decode cX7_tryHaul 96 = .ok (.istore 4, 2) := by decide +kernel
theorem dX7_tryHaul_98 : decode cX7_tryHaul 98 = .ok (.aload_n 0, 1) := by decide +kernel
theorem dX7_tryHaul_99 : decode cX7_tryHaul 99 = .ok (.getfield 12, 3) := by decide +kernel
theorem dX7_tryHaul_102 : decode cX7_tryHaul 102 = .ok (.getfield 36, 3) := by decide +kernel
theorem dX7_tryHaul_105 : decode cX7_tryHaul 105 = .ok (.getfield 104, 3) := by decide +kernel
theorem dX7_tryHaul_108 : decode cX7_tryHaul 108 = .ok (.iload_n 1, 1) := by decide +kernel
theorem dX7_tryHaul_109 : decode cX7_tryHaul 109 = .ok (.iaload, 1) := by decide +kernel
theorem dX7_tryHaul_110 : decode cX7_tryHaul 110 = .ok (.istore 5, 2) := by decide +kernel
theorem dX7_tryHaul_112 : decode cX7_tryHaul 112 = .ok (.aload_n 0, 1) := by decide +kernel
theorem dX7_tryHaul_113 : decode cX7_tryHaul 113 = .ok (.getfield 21, 3) := by decide +kernel
theorem dX7_tryHaul_116 : decode cX7_tryHaul 116 = .ok (.iconst 1, 1) := by decide +kernel
theorem dX7_tryHaul_117 : decode cX7_tryHaul 117 = .ok (.iload_n 1, 1) := by decide +kernel
theorem dX7_tryHaul_118 : decode cX7_tryHaul 118 = .ok (.aload_n 0, 1) := by decide +kernel
theorem dX7_tryHaul_119 : decode cX7_tryHaul 119 = .ok (.getfield 12, 3) := by decide +kernel
theorem dX7_tryHaul_122 : decode cX7_tryHaul 122 = .ok (.getfield 62, 3) := by decide +kernel
theorem dX7_tryHaul_125 : decode cX7_tryHaul 125 = .ok (.getfield 107, 3) := by decide +kernel
theorem dX7_tryHaul_128 : decode cX7_tryHaul 128 = .ok (.iload_n 2, 1) := by decide +kernel
theorem dX7_tryHaul_129 : decode cX7_tryHaul 129 = .ok (.iaload, 1) := by decide +kernel
theorem dX7_tryHaul_130 : decode cX7_tryHaul 130 = .ok (.iload 5, 2) := by decide +kernel
theorem dX7_tryHaul_132 : decode cX7_tryHaul 132 = .ok (.iload_n 3, 1) := by decide +kernel
theorem dX7_tryHaul_133 : decode cX7_tryHaul 133 = .ok (.invokevirtual 90, 3) := by decide +kernel
theorem dX7_tryHaul_136 : decode cX7_tryHaul 136 = .ok (.aload_n 0, 1) := by decide +kernel
theorem dX7_tryHaul_137 : decode cX7_tryHaul 137 = .ok (.getfield 12, 3) := by decide +kernel
theorem dX7_tryHaul_140 : decode cX7_tryHaul 140 = .ok (.getfield 62, 3) := by decide +kernel
theorem dX7_tryHaul_143 : decode cX7_tryHaul 143 = .ok (.getfield 107, 3) := by decide +kernel
theorem dX7_tryHaul_146 : decode cX7_tryHaul 146 = .ok (.iload_n 2, 1) := by decide +kernel
theorem dX7_tryHaul_147 : decode cX7_tryHaul 147 = .ok (.dup2, 1) := by decide +kernel
theorem dX7_tryHaul_148 : decode cX7_tryHaul 148 = .ok (.iaload, 1) := by decide +kernel
theorem dX7_tryHaul_149 : decode cX7_tryHaul 149 = .ok (.iload 4, 2) := by decide +kernel
theorem dX7_tryHaul_151 : decode cX7_tryHaul 151 = .ok (.isub, 1) := by decide +kernel
theorem dX7_tryHaul_152 : decode cX7_tryHaul 152 = .ok (.iastore, 1) := by decide +kernel
theorem dX7_tryHaul_153 : decode cX7_tryHaul 153 = .ok (.aload_n 0, 1) := by decide +kernel
theorem dX7_tryHaul_154 : decode cX7_tryHaul 154 = .ok (.getfield 12, 3) := by decide +kernel
theorem dX7_tryHaul_157 : decode cX7_tryHaul 157 = .ok (.getfield 36, 3) := by decide +kernel
theorem dX7_tryHaul_160 : decode cX7_tryHaul 160 = .ok (.getfield 104, 3) := by decide +kernel
theorem dX7_tryHaul_163 : decode cX7_tryHaul 163 = .ok (.iload_n 1, 1) := by decide +kernel
theorem dX7_tryHaul_164 : decode cX7_tryHaul 164 = .ok (.sipush 9999, 3) := by decide +kernel
theorem dX7_tryHaul_167 : decode cX7_tryHaul 167 = .ok (.iload 5, 2) := by decide +kernel
theorem dX7_tryHaul_169 : decode cX7_tryHaul 169 = .ok (.iload 4, 2) := by decide +kernel
theorem dX7_tryHaul_171 : decode cX7_tryHaul 171 = .ok (.iadd, 1) := by decide +kernel
theorem dX7_tryHaul_172 : decode cX7_tryHaul 172 = .ok (.invokestatic 110, 3) := by decide +kernel
theorem lk_RX7_110 : Cond.methodLink RX7 110 Lib.Math.min.name ∈ gW := gW_u tb_4 191 (by rfl) (by decide +kernel)
theorem dX7_tryHaul_175 : decode cX7_tryHaul 175 = .ok (.iastore, 1) := by decide +kernel
theorem dX7_tryHaul_176 : decode cX7_tryHaul 176 = .ok (.aload_n 0, 1) := by decide +kernel
theorem dX7_tryHaul_177 : decode cX7_tryHaul 177 = .ok (.getfield 12, 3) := by decide +kernel
theorem dX7_tryHaul_180 : decode cX7_tryHaul 180 = .ok (.getfield 81, 3) := by decide +kernel
theorem dX7_tryHaul_183 : decode cX7_tryHaul 183 = .ok (.iconst 0, 1) := by decide +kernel
theorem dX7_tryHaul_184 : decode cX7_tryHaul 184 = .ok (.iload_n 3, 1) := by decide +kernel
theorem dX7_tryHaul_185 : decode cX7_tryHaul 185 = .ok (.iconst 1, 1) := by decide +kernel
theorem dX7_tryHaul_186 : decode cX7_tryHaul 186 = .ok (.iadd, 1) := by decide +kernel
theorem dX7_tryHaul_187 : decode cX7_tryHaul 187 = .ok (.iastore, 1) := by decide +kernel
theorem dX7_tryHaul_188 : decode cX7_tryHaul 188 = .ok (.iload 4, 2) := by decide +kernel
theorem dX7_tryHaul_190 : decode cX7_tryHaul 190 = .ok (.ireturn, 1) := by decide +kernel
theorem dX7_tryHaul_17 : decode cX7_tryHaul 17 = .ok (.bipush (-2), 2) := by decide +kernel
theorem dX7_tryHaul_19 : decode cX7_tryHaul 19 = .ok (.ireturn, 1) := by decide +kernel
def yX7_runOrder : MethodName := ⟨RX7, "runOrder", "(LListenWells$Text;I)Z"⟩
abbrev cX7_runOrder : ByteArray := prog_9_method_10_code
theorem dX7_runOrder_0 : decode cX7_runOrder 0 = .ok (.aload_n 0, 1) := by decide +kernel
theorem dX7_runOrder_1 : decode cX7_runOrder 1 = .ok (.getfield 25, 3) := by decide +kernel
theorem dX7_runOrder_4 : decode cX7_runOrder 4 = .ok (.aload_n 1, 1) := by decide +kernel
theorem dX7_runOrder_5 : decode cX7_runOrder 5 = .ok (.aload_n 1, 1) := by decide +kernel
theorem dX7_runOrder_6 : decode cX7_runOrder 6 = .ok (.iload_n 2, 1) := by decide +kernel
theorem dX7_runOrder_7 : decode cX7_runOrder 7 = .ok (.iconst 1, 1) := by decide +kernel
theorem dX7_runOrder_8 : decode cX7_runOrder 8 = .ok (.invokevirtual 175, 3) := by decide +kernel
theorem lk_RX7_175 : Cond.methodLink RX7 175 yX8_headOf ∈ gW := gW_u tb_4 148 (by rfl) (by decide +kernel)
theorem mI_X8_headOf : Cond.instanceMethod yX8_headOf ∈ gW := gW_u tb_3 64 (by rfl) (by decide +kernel)
theorem mS_X8_headOf : Cond.selects RX8 yX8_headOf yX8_headOf ∈ gW := gW_u tb_3 65 (by rfl) (by decide +kernel)
theorem mC_X8_headOf : Cond.code yX8_headOf cX8_headOf 4 (some .int) ∈ gW := gW_u tb_3 66 (by rfl) (by decide +kernel)
theorem ok_X8_headOf : okD yX8_headOf 2 := ⟨by decide +kernel, by decide +kernel, by decide +kernel⟩
theorem dX7_runOrder_11 : decode cX7_runOrder 11 = .ok (.invokevirtual 182, 3) := by decide +kernel
theorem lk_RX7_182 : Cond.methodLink RX7 182 yX0_reckon ∈ gW := gW_u tb_4 153 (by rfl) (by decide +kernel)
theorem mI_X0_reckon : Cond.instanceMethod yX0_reckon ∈ gW := gW_u tb_3 68 (by rfl) (by decide +kernel)
theorem mS_X0_reckon : Cond.selects RX0 yX0_reckon yX0_reckon ∈ gW := gW_u tb_3 69 (by rfl) (by decide +kernel)
theorem mC_X0_reckon : Cond.code yX0_reckon cX0_reckon 9 (some .boolean) ∈ gW := gW_u tb_3 70 (by rfl) (by decide +kernel)
theorem ok_X0_reckon : okD yX0_reckon 2 := ⟨by decide +kernel, by decide +kernel, by decide +kernel⟩
theorem dX7_runOrder_14 : decode cX7_runOrder 14 = .ok (.ifCond .ne 5, 3) := by decide +kernel
theorem dX7_runOrder_19 : decode cX7_runOrder 19 = .ok (.aload_n 0, 1) := by decide +kernel
theorem dX7_runOrder_20 : decode cX7_runOrder 20 = .ok (.getfield 25, 3) := by decide +kernel
theorem dX7_runOrder_23 : decode cX7_runOrder 23 = .ok (.invokevirtual 186, 3) := by decide +kernel
theorem lk_RX7_186 : Cond.methodLink RX7 186 yX0_reckoned ∈ gW := gW_u tb_4 154 (by rfl) (by decide +kernel)
theorem mI_X0_reckoned : Cond.instanceMethod yX0_reckoned ∈ gW := gW_u tb_4 155 (by rfl) (by decide +kernel)
theorem mS_X0_reckoned : Cond.selects RX0 yX0_reckoned yX0_reckoned ∈ gW := gW_u tb_4 156 (by rfl) (by decide +kernel)
theorem mC_X0_reckoned : Cond.code yX0_reckoned cX0_reckoned 1 (some .int) ∈ gW := gW_u tb_4 157 (by rfl) (by decide +kernel)
theorem ok_X0_reckoned : okD yX0_reckoned 0 := ⟨by decide +kernel, by decide +kernel, by decide +kernel⟩
theorem dX7_runOrder_26 : decode cX7_runOrder 26 = .ok (.istore_n 3, 1) := by decide +kernel
theorem dX7_runOrder_27 : decode cX7_runOrder 27 = .ok (.aload_n 1, 1) := by decide +kernel
theorem dX7_runOrder_28 : decode cX7_runOrder 28 = .ok (.iload_n 2, 1) := by decide +kernel
theorem dX7_runOrder_29 : decode cX7_runOrder 29 = .ok (.iconst 0, 1) := by decide +kernel
theorem dX7_runOrder_30 : decode cX7_runOrder 30 = .ok (.invokevirtual 175, 3) := by decide +kernel
theorem dX7_runOrder_33 : decode cX7_runOrder 33 = .ok (.istore 4, 2) := by decide +kernel
theorem dX7_runOrder_35 : decode cX7_runOrder 35 = .ok (.iload 4, 2) := by decide +kernel
theorem dX7_runOrder_37 : decode cX7_runOrder 37 = .ok (.bipush 21, 2) := by decide +kernel
theorem dX7_runOrder_39 : decode cX7_runOrder 39 = .ok (.if_icmp .ne 17, 3) := by decide +kernel
theorem dX7_runOrder_56 : decode cX7_runOrder 56 = .ok (.iload 4, 2) := by decide +kernel
theorem dX7_runOrder_58 : decode cX7_runOrder 58 = .ok (.bipush 20, 2) := by decide +kernel
theorem dX7_runOrder_60 : decode cX7_runOrder 60 = .ok (.if_icmp .ne 25, 3) := by decide +kernel
theorem dX7_runOrder_85 : decode cX7_runOrder 85 = .ok (.aload_n 0, 1) := by decide +kernel
theorem dX7_runOrder_86 : decode cX7_runOrder 86 = .ok (.getfield 25, 3) := by decide +kernel
theorem dX7_runOrder_89 : decode cX7_runOrder 89 = .ok (.aload_n 1, 1) := by decide +kernel
theorem dX7_runOrder_90 : decode cX7_runOrder 90 = .ok (.aload_n 1, 1) := by decide +kernel
theorem dX7_runOrder_91 : decode cX7_runOrder 91 = .ok (.iload_n 2, 1) := by decide +kernel
theorem dX7_runOrder_92 : decode cX7_runOrder 92 = .ok (.iconst 2, 1) := by decide +kernel
theorem dX7_runOrder_93 : decode cX7_runOrder 93 = .ok (.invokevirtual 175, 3) := by decide +kernel
theorem dX7_runOrder_96 : decode cX7_runOrder 96 = .ok (.invokevirtual 182, 3) := by decide +kernel
theorem dX7_runOrder_99 : decode cX7_runOrder 99 = .ok (.ifCond .ne 5, 3) := by decide +kernel
theorem dX7_runOrder_104 : decode cX7_runOrder 104 = .ok (.aload_n 0, 1) := by decide +kernel
theorem dX7_runOrder_105 : decode cX7_runOrder 105 = .ok (.getfield 25, 3) := by decide +kernel
theorem dX7_runOrder_108 : decode cX7_runOrder 108 = .ok (.invokevirtual 186, 3) := by decide +kernel
theorem dX7_runOrder_111 : decode cX7_runOrder 111 = .ok (.istore 5, 2) := by decide +kernel
theorem dX7_runOrder_113 : decode cX7_runOrder 113 = .ok (.iload 4, 2) := by decide +kernel
theorem dX7_runOrder_115 : decode cX7_runOrder 115 = .ok (.bipush 22, 2) := by decide +kernel
theorem dX7_runOrder_117 : decode cX7_runOrder 117 = .ok (.if_icmp .ne 19, 3) := by decide +kernel
theorem dX7_runOrder_136 : decode cX7_runOrder 136 = .ok (.aload_n 0, 1) := by decide +kernel
theorem dX7_runOrder_137 : decode cX7_runOrder 137 = .ok (.aload_n 0, 1) := by decide +kernel
theorem dX7_runOrder_138 : decode cX7_runOrder 138 = .ok (.iload_n 3, 1) := by decide +kernel
theorem dX7_runOrder_139 : decode cX7_runOrder 139 = .ok (.iload 5, 2) := by decide +kernel
theorem dX7_runOrder_141 : decode cX7_runOrder 141 = .ok (.invokevirtual 205, 3) := by decide +kernel
theorem lk_RX7_205 : Cond.methodLink RX7 205 yX7_tryDig ∈ gW := gW_u tb_4 196 (by rfl) (by decide +kernel)
theorem mI_X7_tryDig : Cond.instanceMethod yX7_tryDig ∈ gW := gW_u tb_4 197 (by rfl) (by decide +kernel)
theorem mS_X7_tryDig : Cond.selects RX7 yX7_tryDig yX7_tryDig ∈ gW := gW_u tb_4 198 (by rfl) (by decide +kernel)
theorem mC_X7_tryDig : Cond.code yX7_tryDig cX7_tryDig 7 (some .int) ∈ gW := gW_u tb_4 199 (by rfl) (by decide +kernel)
theorem ok_X7_tryDig : okD yX7_tryDig 2 := ⟨by decide +kernel, by decide +kernel, by decide +kernel⟩
theorem dX7_runOrder_144 : decode cX7_runOrder 144 = .ok (.putfield 169, 3) := by decide +kernel
theorem fl_RX7_169 : Cond.fieldLink RX7 169 RX7 "latest" "I" ∈ gW := gW_u tb_2 56 (by rfl) (by decide +kernel)
theorem dX7_runOrder_147 : decode cX7_runOrder 147 = .ok (.aload_n 0, 1) := by decide +kernel
theorem dX7_runOrder_148 : decode cX7_runOrder 148 = .ok (.getfield 169, 3) := by decide +kernel
theorem dX7_runOrder_151 : decode cX7_runOrder 151 = .ok (.ifCond .lt 7, 3) := by decide +kernel
theorem dX7_runOrder_158 : decode cX7_runOrder 158 = .ok (.iconst 0, 1) := by decide +kernel
theorem dX7_runOrder_159 : decode cX7_runOrder 159 = .ok (.ireturn, 1) := by decide +kernel
theorem dX7_runOrder_154 : decode cX7_runOrder 154 = .ok (.iconst 1, 1) := by decide +kernel
theorem dX7_runOrder_155 : decode cX7_runOrder 155 = .ok (.goto 4, 3) := by decide +kernel
theorem dX7_runOrder_120 : decode cX7_runOrder 120 = .ok (.aload_n 0, 1) := by decide +kernel
theorem dX7_runOrder_121 : decode cX7_runOrder 121 = .ok (.iload_n 3, 1) := by decide +kernel
theorem dX7_runOrder_122 : decode cX7_runOrder 122 = .ok (.iload 5, 2) := by decide +kernel
theorem dX7_runOrder_124 : decode cX7_runOrder 124 = .ok (.invokevirtual 202, 3) := by decide +kernel
theorem lk_RX7_202 : Cond.methodLink RX7 202 yX7_tryLie ∈ gW := gW_u tb_4 192 (by rfl) (by decide +kernel)
theorem dX7_runOrder_127 : decode cX7_runOrder 127 = .ok (.ifCond .lt 7, 3) := by decide +kernel
theorem dX7_runOrder_134 : decode cX7_runOrder 134 = .ok (.iconst 0, 1) := by decide +kernel
theorem dX7_runOrder_135 : decode cX7_runOrder 135 = .ok (.ireturn, 1) := by decide +kernel
theorem dX7_runOrder_130 : decode cX7_runOrder 130 = .ok (.iconst 1, 1) := by decide +kernel
theorem dX7_runOrder_131 : decode cX7_runOrder 131 = .ok (.goto 4, 3) := by decide +kernel
theorem dX7_runOrder_102 : decode cX7_runOrder 102 = .ok (.iconst 0, 1) := by decide +kernel
theorem dX7_runOrder_103 : decode cX7_runOrder 103 = .ok (.ireturn, 1) := by decide +kernel
theorem dX7_runOrder_63 : decode cX7_runOrder 63 = .ok (.aload_n 0, 1) := by decide +kernel
theorem dX7_runOrder_64 : decode cX7_runOrder 64 = .ok (.aload_n 0, 1) := by decide +kernel
theorem dX7_runOrder_65 : decode cX7_runOrder 65 = .ok (.iload_n 3, 1) := by decide +kernel
theorem dX7_runOrder_66 : decode cX7_runOrder 66 = .ok (.invokevirtual 199, 3) := by decide +kernel
theorem lk_RX7_199 : Cond.methodLink RX7 199 yX7_tryHaul ∈ gW := gW_u tb_4 180 (by rfl) (by decide +kernel)
theorem mI_X7_tryHaul : Cond.instanceMethod yX7_tryHaul ∈ gW := gW_u tb_4 181 (by rfl) (by decide +kernel)
theorem mS_X7_tryHaul : Cond.selects RX7 yX7_tryHaul yX7_tryHaul ∈ gW := gW_u tb_4 182 (by rfl) (by decide +kernel)
theorem mC_X7_tryHaul : Cond.code yX7_tryHaul cX7_tryHaul 6 (some .int) ∈ gW := gW_u tb_4 183 (by rfl) (by decide +kernel)
theorem ok_X7_tryHaul : okD yX7_tryHaul 1 := ⟨by decide +kernel, by decide +kernel, by decide +kernel⟩
theorem dX7_runOrder_69 : decode cX7_runOrder 69 = .ok (.putfield 169, 3) := by decide +kernel
theorem dX7_runOrder_72 : decode cX7_runOrder 72 = .ok (.aload_n 0, 1) := by decide +kernel
theorem dX7_runOrder_73 : decode cX7_runOrder 73 = .ok (.getfield 169, 3) := by decide +kernel
theorem dX7_runOrder_76 : decode cX7_runOrder 76 = .ok (.ifCond .lt 7, 3) := by decide +kernel
theorem dX7_runOrder_83 : decode cX7_runOrder 83 = .ok (.iconst 0, 1) := by decide +kernel
theorem dX7_runOrder_84 : decode cX7_runOrder 84 = .ok (.ireturn, 1) := by decide +kernel
theorem dX7_runOrder_79 : decode cX7_runOrder 79 = .ok (.iconst 1, 1) := by decide +kernel
theorem dX7_runOrder_80 : decode cX7_runOrder 80 = .ok (.goto 4, 3) := by decide +kernel
theorem dX7_runOrder_42 : decode cX7_runOrder 42 = .ok (.aload_n 0, 1) := by decide +kernel
theorem dX7_runOrder_43 : decode cX7_runOrder 43 = .ok (.iload_n 3, 1) := by decide +kernel
theorem dX7_runOrder_44 : decode cX7_runOrder 44 = .ok (.invokevirtual 195, 3) := by decide +kernel
theorem lk_RX7_195 : Cond.methodLink RX7 195 yX7_tryHush ∈ gW := gW_u tb_4 162 (by rfl) (by decide +kernel)
theorem dX7_runOrder_47 : decode cX7_runOrder 47 = .ok (.ifCond .lt 7, 3) := by decide +kernel
theorem dX7_runOrder_54 : decode cX7_runOrder 54 = .ok (.iconst 0, 1) := by decide +kernel
theorem dX7_runOrder_55 : decode cX7_runOrder 55 = .ok (.ireturn, 1) := by decide +kernel
theorem dX7_runOrder_50 : decode cX7_runOrder 50 = .ok (.iconst 1, 1) := by decide +kernel
theorem dX7_runOrder_51 : decode cX7_runOrder 51 = .ok (.goto 4, 3) := by decide +kernel
theorem dX7_runOrder_17 : decode cX7_runOrder 17 = .ok (.iconst 0, 1) := by decide +kernel
theorem dX7_runOrder_18 : decode cX7_runOrder 18 = .ok (.ireturn, 1) := by decide +kernel
