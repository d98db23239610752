def yX3_measure : MethodName := ⟨RX3, "measure", "(LListenWells$World;LListenWells$Text;)V"⟩
abbrev cX3_measure : ByteArray := prog_5_method_2_code
theorem dX3_measure_0 : decode cX3_measure 0 = .ok (.aload_n 0, 1) := by decide +kernel
theorem dX3_measure_1 : decode cX3_measure 1 = .ok (.getfield 21, 3) := by decide +kernel
theorem dX3_measure_4 : decode cX3_measure 4 = .ok (.aload_n 1, 1) := by decide +kernel
theorem dX3_measure_5 : decode cX3_measure 5 = .ok (.aload_n 2, 1) := by decide +kernel
theorem dX3_measure_6 : decode cX3_measure 6 = .ok (.invokevirtual 25, 3) := by decide +kernel
theorem lk_RX3_25 : Cond.methodLink RX3 25 yX0_turnTo ∈ gW := gW_t 987 (by decide +kernel) rfl
theorem dX3_measure_9 : decode cX3_measure 9 = .ok (.iconst 0, 1) := by decide +kernel
theorem dX3_measure_10 : decode cX3_measure 10 = .ok (.istore_n 3, 1) := by decide +kernel
theorem dX3_measure_11 : decode cX3_measure 11 = .ok (.iload_n 3, 1) := by decide +kernel
theorem dX3_measure_12 : decode cX3_measure 12 = .ok (.bipush 40, 2) := by decide +kernel
theorem dX3_measure_14 : decode cX3_measure 14 = .ok (.if_icmp .ge 27, 3) := by decide +kernel
theorem dX3_measure_17 : decode cX3_measure 17 = .ok (.aload_n 1, 1) := by decide +kernel
theorem dX3_measure_18 : decode cX3_measure 18 = .ok (.getfield 31, 3) := by decide +kernel
theorem dX3_measure_21 : decode cX3_measure 21 = .ok (.getfield 37, 3) := by decide +kernel
theorem dX3_measure_24 : decode cX3_measure 24 = .ok (.iload_n 3, 1) := by decide +kernel
theorem dX3_measure_25 : decode cX3_measure 25 = .ok (.iaload, 1) := by decide +kernel
theorem dX3_measure_26 : decode cX3_measure 26 = .ok (.iconst 3, 1) := by decide +kernel
theorem dX3_measure_27 : decode cX3_measure 27 = .ok (.if_icmp .ne 8, 3) := by decide +kernel
theorem dX3_measure_35 : decode cX3_measure 35 = .ok (.iinc 3 1, 3) := by decide +kernel
theorem dX3_measure_38 : decode cX3_measure 38 = .ok (.goto (-27), 3) := by decide +kernel
theorem dX3_measure_30 : decode cX3_measure 30 = .ok (.aload_n 0, 1) := by decide +kernel
theorem dX3_measure_31 : decode cX3_measure 31 = .ok (.iload_n 3, 1) := by decide +kernel
theorem dX3_measure_32 : decode cX3_measure 32 = .ok (.invokevirtual 42, 3) := by decide +kernel
theorem lk_RX3_42 : Cond.methodLink RX3 42 yX3_measureCell ∈ gW := gW_t 988 (by decide +kernel) rfl
theorem mI_X3_measureCell : Cond.instanceMethod yX3_measureCell ∈ gW := gW_t 990 (by decide +kernel) rfl
theorem mS_X3_measureCell : Cond.selects RX3 yX3_measureCell yX3_measureCell ∈ gW := gW_p (q := (yX3_measureCell, 4)) 29 (by decide +kernel)
theorem mC_X3_measureCell : Cond.code yX3_measureCell cX3_measureCell 2 none ∈ gW := gW_t 991 (by decide +kernel) rfl
theorem ok_X3_measureCell : okD yX3_measureCell 1 := ⟨by decide +kernel, by decide +kernel, by decide +kernel⟩
theorem dX3_measure_41 : decode cX3_measure 41 = .ok (.return_, 1) := by decide +kernel
def yX3_fewestToHush : MethodName := ⟨RX3, "fewestToHush", "(LListenWells$World;II)I"⟩
abbrev cX3_fewestToHush : ByteArray := prog_5_method_6_code
theorem dX3_fewestToHush_0 : decode cX3_fewestToHush 0 = .ok (.aload_n 0, 1) := by decide +kernel
theorem dX3_fewestToHush_1 : decode cX3_fewestToHush 1 = .ok (.iload_n 3, 1) := by decide +kernel
theorem dX3_fewestToHush_2 : decode cX3_fewestToHush 2 = .ok (.invokevirtual 42, 3) := by decide +kernel
theorem dX3_fewestToHush_5 : decode cX3_fewestToHush 5 = .ok (.iconst (-1), 1) := by decide +kernel
theorem dX3_fewestToHush_6 : decode cX3_fewestToHush 6 = .ok (.istore 4, 2) := by decide +kernel
theorem dX3_fewestToHush_8 : decode cX3_fewestToHush 8 = .ok (.iconst 0, 1) := by decide +kernel
theorem dX3_fewestToHush_9 : decode cX3_fewestToHush 9 = .ok (.istore 5, 2) := by decide +kernel
theorem dX3_fewestToHush_11 : decode cX3_fewestToHush 11 = .ok (.iload 5, 2) := by decide +kernel
theorem dX3_fewestToHush_13 : decode cX3_fewestToHush 13 = .ok (.iconst 1, 1) := by decide +kernel
theorem dX3_fewestToHush_14 : decode cX3_fewestToHush 14 = .ok (.aload_n 1, 1) := by decide +kernel
theorem dX3_fewestToHush_15 : decode cX3_fewestToHush 15 = .ok (.getfield 56, 3) := by decide +kernel
theorem dX3_fewestToHush_18 : decode cX3_fewestToHush 18 = .ok (.getfield 74, 3) := by decide +kernel
theorem fl_RX3_74 : Cond.fieldLink RX3 74 RX4 "noises" "I" ∈ gW := gW_t 166 (by decide +kernel) rfl
theorem dX3_fewestToHush_21 : decode cX3_fewestToHush 21 = .ok (.ishl, 1) := by decide +kernel
theorem dX3_fewestToHush_22 : decode cX3_fewestToHush 22 = .ok (.if_icmp .ge 81, 3) := by decide +kernel
theorem dX3_fewestToHush_25 : decode cX3_fewestToHush 25 = .ok (.iload 4, 2) := by decide +kernel
theorem dX3_fewestToHush_27 : decode cX3_fewestToHush 27 = .ok (.iconst (-1), 1) := by decide +kernel
theorem dX3_fewestToHush_28 : decode cX3_fewestToHush 28 = .ok (.if_icmp .eq 16, 3) := by decide +kernel
theorem dX3_fewestToHush_44 : decode cX3_fewestToHush 44 = .ok (.iconst 1, 1) := by decide +kernel
theorem dX3_fewestToHush_45 : decode cX3_fewestToHush 45 = .ok (.goto 4, 3) := by decide +kernel
theorem dX3_fewestToHush_31 : decode cX3_fewestToHush 31 = .ok (.iload 5, 2) := by decide +kernel
theorem dX3_fewestToHush_33 : decode cX3_fewestToHush 33 = .ok (.invokestatic 78, 3) := by decide +kernel
theorem lk_RX3_78 : Cond.methodLink RX3 78 yJ6_bitCount_0f7a4 ∈ gW := gW_t 1115 (by decide +kernel) rfl
theorem dX3_fewestToHush_36 : decode cX3_fewestToHush 36 = .ok (.iload 4, 2) := by decide +kernel
theorem dX3_fewestToHush_38 : decode cX3_fewestToHush 38 = .ok (.invokestatic 78, 3) := by decide +kernel
theorem dX3_fewestToHush_41 : decode cX3_fewestToHush 41 = .ok (.if_icmp .ge 7, 3) := by decide +kernel
theorem dX3_fewestToHush_48 : decode cX3_fewestToHush 48 = .ok (.iconst 0, 1) := by decide +kernel
theorem dX3_fewestToHush_49 : decode cX3_fewestToHush 49 = .ok (.istore 6, 2) := by decide +kernel
theorem dX3_fewestToHush_51 : decode cX3_fewestToHush 51 = .ok (.iload 5, 2) := by decide +kernel
theorem dX3_fewestToHush_53 : decode cX3_fewestToHush 53 = .ok (.aload_n 1, 1) := by decide +kernel
theorem dX3_fewestToHush_54 : decode cX3_fewestToHush 54 = .ok (.getfield 56, 3) := by decide +kernel
theorem dX3_fewestToHush_57 : decode cX3_fewestToHush 57 = .ok (.getfield 84, 3) := by decide +kernel
theorem fl_RX3_84 : Cond.fieldLink RX3 84 RX4 "hushed" "I" ∈ gW := gW_t 170 (by decide +kernel) rfl
theorem dX3_fewestToHush_60 : decode cX3_fewestToHush 60 = .ok (.iand, 1) := by decide +kernel
theorem dX3_fewestToHush_61 : decode cX3_fewestToHush 61 = .ok (.ifCond .ne 7, 3) := by decide +kernel
theorem dX3_fewestToHush_68 : decode cX3_fewestToHush 68 = .ok (.iconst 0, 1) := by decide +kernel
theorem dX3_fewestToHush_64 : decode cX3_fewestToHush 64 = .ok (.iconst 1, 1) := by decide +kernel
theorem dX3_fewestToHush_65 : decode cX3_fewestToHush 65 = .ok (.goto 4, 3) := by decide +kernel
theorem dX3_fewestToHush_69 : decode cX3_fewestToHush 69 = .ok (.istore 7, 2) := by decide +kernel
theorem dX3_fewestToHush_71 : decode cX3_fewestToHush 71 = .ok (.iload 6, 2) := by decide +kernel
theorem dX3_fewestToHush_73 : decode cX3_fewestToHush 73 = .ok (.ifCond .eq 24, 3) := by decide +kernel
theorem dX3_fewestToHush_97 : decode cX3_fewestToHush 97 = .ok (.iinc 5 1, 3) := by decide +kernel
theorem dX3_fewestToHush_100 : decode cX3_fewestToHush 100 = .ok (.goto (-89), 3) := by decide +kernel
theorem dX3_fewestToHush_76 : decode cX3_fewestToHush 76 = .ok (.iload 7, 2) := by decide +kernel
theorem dX3_fewestToHush_78 : decode cX3_fewestToHush 78 = .ok (.ifCond .eq 19, 3) := by decide +kernel
theorem dX3_fewestToHush_81 : decode cX3_fewestToHush 81 = .ok (.aload_n 0, 1) := by decide +kernel
theorem dX3_fewestToHush_82 : decode cX3_fewestToHush 82 = .ok (.aload_n 1, 1) := by decide +kernel
theorem dX3_fewestToHush_83 : decode cX3_fewestToHush 83 = .ok (.iload_n 2, 1) := by decide +kernel
theorem dX3_fewestToHush_84 : decode cX3_fewestToHush 84 = .ok (.iload_n 3, 1) := by decide +kernel
theorem dX3_fewestToHush_85 : decode cX3_fewestToHush 85 = .ok (.iload 5, 2) := by decide +kernel
theorem dX3_fewestToHush_87 : decode cX3_fewestToHush 87 = .ok (.invokevirtual 87, 3) := by decide +kernel
theorem lk_RX3_87 : Cond.methodLink RX3 87 yX3_allHear ∈ gW := gW_t 1121 (by decide +kernel) rfl
theorem mI_X3_allHear : Cond.instanceMethod yX3_allHear ∈ gW := gW_t 1123 (by decide +kernel) rfl
theorem mS_X3_allHear : Cond.selects RX3 yX3_allHear yX3_allHear ∈ gW := gW_p (q := (yX3_allHear, 4)) 37 (by decide +kernel)
theorem mC_X3_allHear : Cond.code yX3_allHear cX3_allHear 9 (some .boolean) ∈ gW := gW_t 1124 (by decide +kernel) rfl
theorem ok_X3_allHear : okD yX3_allHear 4 := ⟨by decide +kernel, by decide +kernel, by decide +kernel⟩
theorem dX3_fewestToHush_90 : decode cX3_fewestToHush 90 = .ok (.ifCond .eq 7, 3) := by decide +kernel
theorem dX3_fewestToHush_93 : decode cX3_fewestToHush 93 = .ok (.iload 5, 2) := by decide +kernel
theorem dX3_fewestToHush_95 : decode cX3_fewestToHush 95 = .ok (.istore 4, 2) := by decide +kernel
theorem dX3_fewestToHush_103 : decode cX3_fewestToHush 103 = .ok (.iload 4, 2) := by decide +kernel
theorem dX3_fewestToHush_105 : decode cX3_fewestToHush 105 = .ok (.ireturn, 1) := by decide +kernel
def yX3_hiddenCells : MethodName := ⟨RX3, "hiddenCells", "(LListenWells$World;)J"⟩
abbrev cX3_hiddenCells : ByteArray := prog_5_method_8_code
theorem dX3_hiddenCells_0 : decode cX3_hiddenCells 0 = .ok (.aload_n 0, 1) := by decide +kernel
theorem dX3_hiddenCells_1 : decode cX3_hiddenCells 1 = .ok (.getfield 21, 3) := by decide +kernel
theorem dX3_hiddenCells_4 : decode cX3_hiddenCells 4 = .ok (.aload_n 1, 1) := by decide +kernel
theorem dX3_hiddenCells_5 : decode cX3_hiddenCells 5 = .ok (.aload_n 1, 1) := by decide +kernel
theorem dX3_hiddenCells_6 : decode cX3_hiddenCells 6 = .ok (.invokevirtual 94, 3) := by decide +kernel
theorem lk_RX3_94 : Cond.methodLink RX3 94 yX10_lawInForce ∈ gW := gW_t 1146 (by decide +kernel) rfl
theorem dX3_hiddenCells_9 : decode cX3_hiddenCells 9 = .ok (.invokevirtual 25, 3) := by decide +kernel
theorem dX3_hiddenCells_12 : decode cX3_hiddenCells 12 = .ok (.lconst 0, 1) := by decide +kernel
theorem dX3_hiddenCells_13 : decode cX3_hiddenCells 13 = .ok (.lstore_n 2, 1) := by decide +kernel
theorem dX3_hiddenCells_14 : decode cX3_hiddenCells 14 = .ok (.iconst 0, 1) := by decide +kernel
theorem dX3_hiddenCells_15 : decode cX3_hiddenCells 15 = .ok (.istore 4, 2) := by decide +kernel
theorem dX3_hiddenCells_17 : decode cX3_hiddenCells 17 = .ok (.iload 4, 2) := by decide +kernel
theorem dX3_hiddenCells_19 : decode cX3_hiddenCells 19 = .ok (.bipush 40, 2) := by decide +kernel
theorem dX3_hiddenCells_21 : decode cX3_hiddenCells 21 = .ok (.if_icmp .ge 61, 3) := by decide +kernel
theorem dX3_hiddenCells_24 : decode cX3_hiddenCells 24 = .ok (.aload_n 1, 1) := by decide +kernel
theorem dX3_hiddenCells_25 : decode cX3_hiddenCells 25 = .ok (.getfield 31, 3) := by decide +kernel
theorem dX3_hiddenCells_28 : decode cX3_hiddenCells 28 = .ok (.getfield 37, 3) := by decide +kernel
theorem dX3_hiddenCells_31 : decode cX3_hiddenCells 31 = .ok (.iload 4, 2) := by decide +kernel
theorem dX3_hiddenCells_33 : decode cX3_hiddenCells 33 = .ok (.iaload, 1) := by decide +kernel
theorem dX3_hiddenCells_34 : decode cX3_hiddenCells 34 = .ok (.iconst 3, 1) := by decide +kernel
theorem dX3_hiddenCells_35 : decode cX3_hiddenCells 35 = .ok (.if_icmp .eq 41, 3) := by decide +kernel
theorem dX3_hiddenCells_76 : decode cX3_hiddenCells 76 = .ok (.iinc 4 1, 3) := by decide +kernel
theorem dX3_hiddenCells_79 : decode cX3_hiddenCells 79 = .ok (.goto (-62), 3) := by decide +kernel
theorem dX3_hiddenCells_38 : decode cX3_hiddenCells 38 = .ok (.aload_n 1, 1) := by decide +kernel
theorem dX3_hiddenCells_39 : decode cX3_hiddenCells 39 = .ok (.getfield 31, 3) := by decide +kernel
theorem dX3_hiddenCells_42 : decode cX3_hiddenCells 42 = .ok (.iload 4, 2) := by decide +kernel
theorem dX3_hiddenCells_44 : decode cX3_hiddenCells 44 = .ok (.invokevirtual 98, 3) := by decide +kernel
theorem lk_RX3_98 : Cond.methodLink RX3 98 yX6_isDug ∈ gW := gW_t 1147 (by decide +kernel) rfl
theorem dX3_hiddenCells_47 : decode cX3_hiddenCells 47 = .ok (.ifCond .ne 29, 3) := by decide +kernel
theorem dX3_hiddenCells_50 : decode cX3_hiddenCells 50 = .ok (.aload_n 0, 1) := by decide +kernel
theorem dX3_hiddenCells_51 : decode cX3_hiddenCells 51 = .ok (.iload 4, 2) := by decide +kernel
theorem dX3_hiddenCells_53 : decode cX3_hiddenCells 53 = .ok (.invokevirtual 42, 3) := by decide +kernel
theorem dX3_hiddenCells_56 : decode cX3_hiddenCells 56 = .ok (.aload_n 0, 1) := by decide +kernel
theorem dX3_hiddenCells_57 : decode cX3_hiddenCells 57 = .ok (.aload_n 1, 1) := by decide +kernel
theorem dX3_hiddenCells_58 : decode cX3_hiddenCells 58 = .ok (.getfield 56, 3) := by decide +kernel
theorem dX3_hiddenCells_61 : decode cX3_hiddenCells 61 = .ok (.iload 4, 2) := by decide +kernel
theorem dX3_hiddenCells_63 : decode cX3_hiddenCells 63 = .ok (.invokevirtual 102, 3) := by decide +kernel
theorem lk_RX3_102 : Cond.methodLink RX3 102 yX3_isAsHeard ∈ gW := gW_t 1148 (by decide +kernel) rfl
theorem mI_X3_isAsHeard : Cond.instanceMethod yX3_isAsHeard ∈ gW := gW_t 1150 (by decide +kernel) rfl
theorem mS_X3_isAsHeard : Cond.selects RX3 yX3_isAsHeard yX3_isAsHeard ∈ gW := gW_p (q := (yX3_isAsHeard, 4)) 38 (by decide +kernel)
theorem mC_X3_isAsHeard : Cond.code yX3_isAsHeard cX3_isAsHeard 4 (some .boolean) ∈ gW := gW_t 1151 (by decide +kernel) rfl
theorem ok_X3_isAsHeard : okD yX3_isAsHeard 2 := ⟨by decide +kernel, by decide +kernel, by decide +kernel⟩
theorem dX3_hiddenCells_66 : decode cX3_hiddenCells 66 = .ok (.ifCond .eq 10, 3) := by decide +kernel
theorem dX3_hiddenCells_69 : decode cX3_hiddenCells 69 = .ok (.lload_n 2, 1) := by decide +kernel
theorem dX3_hiddenCells_70 : decode cX3_hiddenCells 70 = .ok (.lconst 1, 1) := by decide +kernel
theorem dX3_hiddenCells_71 : decode cX3_hiddenCells 71 = .ok (.iload 4, 2) := by decide +kernel
theorem dX3_hiddenCells_73 : decode cX3_hiddenCells 73 = .ok (.lshl, 1) := by decide +kernel
theorem dX3_hiddenCells_74 : decode cX3_hiddenCells 74 = .ok (.lor, 1) := by decide +kernel
theorem dX3_hiddenCells_75 : decode cX3_hiddenCells 75 = .ok (.lstore_n 2, 1) := by decide +kernel
theorem dX3_hiddenCells_82 : decode cX3_hiddenCells 82 = .ok (.lload_n 2, 1) := by decide +kernel
theorem dX3_hiddenCells_83 : decode cX3_hiddenCells 83 = .ok (.lreturn, 1) := by decide +kernel
def yX5_beginHead : MethodName := ⟨RX5, "beginHead", "()V"⟩
abbrev cX5_beginHead : ByteArray := prog_7_method_14_code
theorem dX5_beginHead_0 : decode cX5_beginHead 0 = .ok (.aload_n 0, 1) := by decide +kernel
theorem dX5_beginHead_1 : decode cX5_beginHead 1 = .ok (.iconst 0, 1) := by decide +kernel
theorem dX5_beginHead_2 : decode cX5_beginHead 2 = .ok (.iconst (-1), 1) := by decide +kernel
theorem dX5_beginHead_3 : decode cX5_beginHead 3 = .ok (.invokevirtual 130, 3) := by decide +kernel
theorem dX5_beginHead_6 : decode cX5_beginHead 6 = .ok (.aload_n 0, 1) := by decide +kernel
theorem dX5_beginHead_7 : decode cX5_beginHead 7 = .ok (.iconst 1, 1) := by decide +kernel
theorem dX5_beginHead_8 : decode cX5_beginHead 8 = .ok (.iconst (-1), 1) := by decide +kernel
theorem dX5_beginHead_9 : decode cX5_beginHead 9 = .ok (.invokevirtual 130, 3) := by decide +kernel
theorem dX5_beginHead_12 : decode cX5_beginHead 12 = .ok (.aload_n 0, 1) := by decide +kernel
theorem dX5_beginHead_13 : decode cX5_beginHead 13 = .ok (.iconst 2, 1) := by decide +kernel
theorem dX5_beginHead_14 : decode cX5_beginHead 14 = .ok (.iconst (-1), 1) := by decide +kernel
theorem dX5_beginHead_15 : decode cX5_beginHead 15 = .ok (.invokevirtual 130, 3) := by decide +kernel
theorem dX5_beginHead_18 : decode cX5_beginHead 18 = .ok (.aload_n 0, 1) := by decide +kernel
theorem dX5_beginHead_19 : decode cX5_beginHead 19 = .ok (.iconst 3, 1) := by decide +kernel
theorem dX5_beginHead_20 : decode cX5_beginHead 20 = .ok (.iconst (-1), 1) := by decide +kernel
theorem dX5_beginHead_21 : decode cX5_beginHead 21 = .ok (.invokevirtual 130, 3) := by decide +kernel
theorem dX5_beginHead_24 : decode cX5_beginHead 24 = .ok (.aload_n 0, 1) := by decide +kernel
theorem dX5_beginHead_25 : decode cX5_beginHead 25 = .ok (.iconst 4, 1) := by decide +kernel
theorem dX5_beginHead_26 : decode cX5_beginHead 26 = .ok (.iconst 1, 1) := by decide +kernel
theorem dX5_beginHead_27 : decode cX5_beginHead 27 = .ok (.invokevirtual 130, 3) := by decide +kernel
theorem dX5_beginHead_30 : decode cX5_beginHead 30 = .ok (.return_, 1) := by decide +kernel
def yX7_runOrders : MethodName := ⟨RX7, "runOrders", "(LListenWells$Text;)I"⟩
abbrev cX7_runOrders : ByteArray := prog_9_method_9_code
theorem dX7_runOrders_0 : decode cX7_runOrders 0 = .ok (.aload_n 0, 1) := by decide +kernel
theorem dX7_runOrders_1 : decode cX7_runOrders 1 = .ok (.iconst 0, 1) := by decide +kernel
theorem dX7_runOrders_2 : decode cX7_runOrders 2 = .ok (.putfield 166, 3) := by decide +kernel
theorem fl_RX7_166 : Cond.fieldLink RX7 166 RX7 "done" "I" ∈ gW := gW_t 294 (by decide +kernel) rfl
theorem dX7_runOrders_5 : decode cX7_runOrders 5 = .ok (.aload_n 0, 1) := by decide +kernel
theorem dX7_runOrders_6 : decode cX7_runOrders 6 = .ok (.iconst (-1), 1) := by decide +kernel
theorem dX7_runOrders_7 : decode cX7_runOrders 7 = .ok (.putfield 169, 3) := by decide +kernel
theorem dX7_runOrders_10 : decode cX7_runOrders 10 = .ok (.iconst 0, 1) := by decide +kernel
theorem dX7_runOrders_11 : decode cX7_runOrders 11 = .ok (.istore_n 2, 1) := by decide +kernel
theorem dX7_runOrders_12 : decode cX7_runOrders 12 = .ok (.iload_n 2, 1) := by decide +kernel
theorem dX7_runOrders_13 : decode cX7_runOrders 13 = .ok (.aload_n 1, 1) := by decide +kernel
theorem dX7_runOrders_14 : decode cX7_runOrders 14 = .ok (.getfield 170, 3) := by decide +kernel
theorem fl_RX7_170 : Cond.fieldLink RX7 170 RX8 "clauses" "I" ∈ gW := gW_t 332 (by decide +kernel) rfl
theorem dX7_runOrders_17 : decode cX7_runOrders 17 = .ok (.if_icmp .ge 112, 3) := by decide +kernel
theorem dX7_runOrders_20 : decode cX7_runOrders 20 = .ok (.aload_n 1, 1) := by decide +kernel
theorem dX7_runOrders_21 : decode cX7_runOrders 21 = .ok (.iload_n 2, 1) := by decide +kernel
theorem dX7_runOrders_22 : decode cX7_runOrders 22 = .ok (.iconst 4, 1) := by decide +kernel
theorem dX7_runOrders_23 : decode cX7_runOrders 23 = .ok (.invokevirtual 175, 3) := by decide +kernel
theorem dX7_runOrders_26 : decode cX7_runOrders 26 = .ok (.istore_n 3, 1) := by decide +kernel
theorem dX7_runOrders_27 : decode cX7_runOrders 27 = .ok (.aload_n 1, 1) := by decide +kernel
theorem dX7_runOrders_28 : decode cX7_runOrders 28 = .ok (.iload_n 2, 1) := by decide +kernel
theorem dX7_runOrders_29 : decode cX7_runOrders 29 = .ok (.iconst 3, 1) := by decide +kernel
theorem dX7_runOrders_30 : decode cX7_runOrders 30 = .ok (.invokevirtual 175, 3) := by decide +kernel
theorem dX7_runOrders_33 : decode cX7_runOrders 33 = .ok (.istore 4, 2) := by decide +kernel
theorem dX7_runOrders_35 : decode cX7_runOrders 35 = .ok (.iconst 0, 1) := by decide +kernel
theorem dX7_runOrders_36 : decode cX7_runOrders 36 = .ok (.istore 5, 2) := by decide +kernel
theorem dX7_runOrders_38 : decode cX7_runOrders 38 = .ok (.iload 5, 2) := by decide +kernel
theorem dX7_runOrders_40 : decode cX7_runOrders 40 = .ok (.iload_n 3, 1) := by decide +kernel
theorem dX7_runOrders_41 : decode cX7_runOrders 41 = .ok (.if_icmp .ge 82, 3) := by decide +kernel
theorem dX7_runOrders_44 : decode cX7_runOrders 44 = .ok (.aload_n 0, 1) := by decide +kernel
theorem dX7_runOrders_45 : decode cX7_runOrders 45 = .ok (.getfield 25, 3) := by decide +kernel
theorem dX7_runOrders_48 : decode cX7_runOrders 48 = .ok (.aload_n 0, 1) := by decide +kernel
theorem dX7_runOrders_49 : decode cX7_runOrders 49 = .ok (.getfield 12, 3) := by decide +kernel
theorem dX7_runOrders_52 : decode cX7_runOrders 52 = .ok (.aload_n 0, 1) := by decide +kernel
theorem dX7_runOrders_53 : decode cX7_runOrders 53 = .ok (.getfield 166, 3) := by decide +kernel
theorem dX7_runOrders_56 : decode cX7_runOrders 56 = .ok (.aload_n 0, 1) := by decide +kernel
theorem dX7_runOrders_57 : decode cX7_runOrders 57 = .ok (.getfield 169, 3) := by decide +kernel
theorem dX7_runOrders_60 : decode cX7_runOrders 60 = .ok (.invokevirtual 178, 3) := by decide +kernel
theorem lk_RX7_178 : Cond.methodLink RX7 178 yX0_turnToOrders ∈ gW := gW_t 869 (by decide +kernel) rfl
theorem mI_X0_turnToOrders : Cond.instanceMethod yX0_turnToOrders ∈ gW := gW_t 870 (by decide +kernel) rfl
theorem mS_X0_turnToOrders : Cond.selects RX0 yX0_turnToOrders yX0_turnToOrders ∈ gW := gW_t 871 (by decide +kernel) rfl
theorem mC_X0_turnToOrders : Cond.code yX0_turnToOrders cX0_turnToOrders 4 none ∈ gW := gW_t 872 (by decide +kernel) rfl
theorem ok_X0_turnToOrders : okD yX0_turnToOrders 3 := ⟨by decide +kernel, by decide +kernel, by decide +kernel⟩
theorem dX7_runOrders_63 : decode cX7_runOrders 63 = .ok (.iload 4, 2) := by decide +kernel
theorem dX7_runOrders_65 : decode cX7_runOrders 65 = .ok (.iconst (-1), 1) := by decide +kernel
theorem dX7_runOrders_66 : decode cX7_runOrders 66 = .ok (.if_icmp .eq 30, 3) := by decide +kernel
theorem dX7_runOrders_69 : decode cX7_runOrders 69 = .ok (.aload_n 0, 1) := by decide +kernel
theorem dX7_runOrders_70 : decode cX7_runOrders 70 = .ok (.getfield 25, 3) := by decide +kernel
theorem dX7_runOrders_73 : decode cX7_runOrders 73 = .ok (.aload_n 1, 1) := by decide +kernel
theorem dX7_runOrders_74 : decode cX7_runOrders 74 = .ok (.iload 4, 2) := by decide +kernel
theorem dX7_runOrders_76 : decode cX7_runOrders 76 = .ok (.invokevirtual 182, 3) := by decide +kernel
theorem dX7_runOrders_79 : decode cX7_runOrders 79 = .ok (.ifCond .eq 38, 3) := by decide +kernel
theorem dX7_runOrders_117 : decode cX7_runOrders 117 = .ok (.iinc 5 1, 3) := by decide +kernel
theorem dX7_runOrders_120 : decode cX7_runOrders 120 = .ok (.goto (-82), 3) := by decide +kernel
theorem dX7_runOrders_82 : decode cX7_runOrders 82 = .ok (.aload_n 0, 1) := by decide +kernel
theorem dX7_runOrders_83 : decode cX7_runOrders 83 = .ok (.getfield 25, 3) := by decide +kernel
theorem dX7_runOrders_86 : decode cX7_runOrders 86 = .ok (.invokevirtual 186, 3) := by decide +kernel
theorem dX7_runOrders_89 : decode cX7_runOrders 89 = .ok (.iconst 1, 1) := by decide +kernel
theorem dX7_runOrders_90 : decode cX7_runOrders 90 = .ok (.if_icmp .eq 6, 3) := by decide +kernel
theorem dX7_runOrders_93 : decode cX7_runOrders 93 = .ok (.goto 24, 3) := by decide +kernel
theorem dX7_runOrders_96 : decode cX7_runOrders 96 = .ok (.aload_n 0, 1) := by decide +kernel
theorem dX7_runOrders_97 : decode cX7_runOrders 97 = .ok (.aload_n 1, 1) := by decide +kernel
theorem dX7_runOrders_98 : decode cX7_runOrders 98 = .ok (.iload_n 2, 1) := by decide +kernel
theorem dX7_runOrders_99 : decode cX7_runOrders 99 = .ok (.invokevirtual 190, 3) := by decide +kernel
theorem lk_RX7_190 : Cond.methodLink RX7 190 yX7_runOrder ∈ gW := gW_t 878 (by decide +kernel) rfl
theorem mI_X7_runOrder : Cond.instanceMethod yX7_runOrder ∈ gW := gW_t 880 (by decide +kernel) rfl
theorem mS_X7_runOrder : Cond.selects RX7 yX7_runOrder yX7_runOrder ∈ gW := gW_p (q := (yX7_runOrder, 5)) 28 (by decide +kernel)
theorem mC_X7_runOrder : Cond.code yX7_runOrder cX7_runOrder 6 (some .boolean) ∈ gW := gW_t 881 (by decide +kernel) rfl
theorem ok_X7_runOrder : okD yX7_runOrder 2 := ⟨by decide +kernel, by decide +kernel, by decide +kernel⟩
theorem dX7_runOrders_102 : decode cX7_runOrders 102 = .ok (.ifCond .ne 5, 3) := by decide +kernel
theorem dX7_runOrders_107 : decode cX7_runOrders 107 = .ok (.aload_n 0, 1) := by decide +kernel
theorem dX7_runOrders_108 : decode cX7_runOrders 108 = .ok (.dup, 1) := by decide +kernel
theorem dX7_runOrders_109 : decode cX7_runOrders 109 = .ok (.getfield 166, 3) := by decide +kernel
theorem dX7_runOrders_112 : decode cX7_runOrders 112 = .ok (.iconst 1, 1) := by decide +kernel
theorem dX7_runOrders_113 : decode cX7_runOrders 113 = .ok (.iadd, 1) := by decide +kernel
theorem dX7_runOrders_114 : decode cX7_runOrders 114 = .ok (.putfield 166, 3) := by decide +kernel
theorem dX7_runOrders_105 : decode cX7_runOrders 105 = .ok (.iload_n 2, 1) := by decide +kernel
theorem dX7_runOrders_106 : decode cX7_runOrders 106 = .ok (.ireturn, 1) := by decide +kernel
theorem dX7_runOrders_123 : decode cX7_runOrders 123 = .ok (.iinc 2 1, 3) := by decide +kernel
theorem dX7_runOrders_126 : decode cX7_runOrders 126 = .ok (.goto (-114), 3) := by decide +kernel
theorem dX7_runOrders_129 : decode cX7_runOrders 129 = .ok (.iconst (-1), 1) := by decide +kernel
theorem dX7_runOrders_130 : decode cX7_runOrders 130 = .ok (.ireturn, 1) := by decide +kernel
