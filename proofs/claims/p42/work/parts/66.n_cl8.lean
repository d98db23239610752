theorem dX3_measure_41 : decode cX3_measure 41 = .ok (.return_, 1) := by decide +kernel
theorem mI_X3_allHear : Cond.instanceMethod yX3_allHear ∈ gW := gW_t 1123 (by decide +kernel) rfl
theorem mS_X3_allHear : Cond.selects RX3 yX3_allHear yX3_allHear ∈ gW := gW_p (q := (yX3_allHear, 4)) 37 (by decide +kernel)
theorem mC_X3_allHear : Cond.code yX3_allHear cX3_allHear 9 (some .boolean) ∈ gW := gW_t 1124 (by decide +kernel) rfl
theorem ok_X3_allHear : okD yX3_allHear 4 := ⟨by decide +kernel, by decide +kernel, by decide +kernel⟩
theorem dX3_fewestToHush_90 : decode cX3_fewestToHush 90 = .ok (.ifCond .eq 7, 3) := by decide +kernel
theorem dX3_fewestToHush_93 : decode cX3_fewestToHush 93 = .ok (.iload 5, 2) := by decide +kernel
theorem dX3_fewestToHush_95 : decode cX3_fewestToHush 95 = .ok (.istore 4, 2) := by decide +kernel
theorem dX3_fewestToHush_103 : decode cX3_fewestToHush 103 = .ok (.iload 4, 2) := by decide +kernel
theorem dX3_fewestToHush_105 : decode cX3_fewestToHush 105 = .ok (.ireturn, 1) := by decide +kernel
theorem mI_X3_isAsHeard : Cond.instanceMethod yX3_isAsHeard ∈ gW := gW_t 1150 (by decide +kernel) rfl
theorem mS_X3_isAsHeard : Cond.selects RX3 yX3_isAsHeard yX3_isAsHeard ∈ gW := gW_p (q := (yX3_isAsHeard, 4)) 38 (by decide +kernel)
theorem mC_X3_isAsHeard : Cond.code yX3_isAsHeard cX3_isAsHeard 4 (some .boolean) ∈ gW := gW_t 1151 (by decide +kernel) rfl
theorem ok_X3_isAsHeard : okD yX3_isAsHeard 2 := ⟨by decide +kernel, by decide +kernel, by decide +kernel⟩
theorem dX3_hiddenCells_66 : decode cX3_hiddenCells 66 = .ok (.ifCond .eq 10, 3) := by decide +kernel
theorem dX3_hiddenCells_69 : decode cX3_hiddenCells 69 = .ok (.lload_n 2, 1) := by decide +kernel
theorem dX3_hiddenCells_70 : decode cX3_hiddenCells 70 = .ok (.lconst 1, 1) := by decide +kernel
theorem dX3_hiddenCells_71 : decode cX3_hiddenCells 71 = .ok (.iload 4, 2) := by decide +kernel
theorem dX3_hiddenCells_73 : decode cX3_hiddenCells 73 = .ok (.lshl, 1) := by decide +kernel
theorem dX3_hiddenCells_74 : decode cX3_hiddenCells 74 = .ok (.lor, 1) := by decide +kernel
theorem dX3_hiddenCells_75 : decode cX3_hiddenCells 75 = .ok (.lstore_n 2, 1) := by decide +kernel
theorem dX3_hiddenCells_82 : decode cX3_hiddenCells 82 = .ok (.lload_n 2, 1) := by decide +kernel
theorem dX3_hiddenCells_83 : decode cX3_hiddenCells 83 = .ok (.lreturn, 1) := by decide +kernel
theorem dX5_beginHead_6 : decode cX5_beginHead 6 = .ok (.aload_n 0, 1) := by decide +kernel
theorem dX5_beginHead_7 : decode cX5_beginHead 7 = .ok (.iconst 1, 1) := by decide +kernel
theorem dX5_beginHead_8 : decode cX5_beginHead 8 = .ok (.iconst (-1), 1) := by decide +kernel
theorem dX5_beginHead_9 : decode cX5_beginHead 9 = .ok (.invokevirtual 130, 3) := by decide +kernel
theorem dX5_beginHead_12 : decode cX5_beginHead 12 = .ok (.aload_n 0, 1) := by decide +kernel
theorem dX5_beginHead_13 : decode cX5_beginHead 13 = .ok (.iconst 2, 1) := by decide +kernel
theorem dX5_beginHead_14 : decode cX5_beginHead 14 = .ok (.iconst (-1), 1) := by decide +kernel
theorem dX5_beginHead_15 : decode cX5_beginHead 15 = .ok (.invokevirtual 130, 3) := by decide +kernel
theorem dX5_beginHead_18 : decode cX5_beginHead 18 = .ok (.aload_n 0, 1) := by decide +kernel
theorem dX5_beginHead_19 : decode cX5_beginHead 19 = .ok (.iconst 3, 1) := by decide +kernel
theorem dX5_beginHead_20 : decode cX5_beginHead 20 = .ok (.iconst (-1), 1) := by decide +kernel
theorem dX5_beginHead_21 : decode cX5_beginHead 21 = .ok (.invokevirtual 130, 3) := by decide +kernel
theorem dX5_beginHead_24 : decode cX5_beginHead 24 = .ok (.aload_n 0, 1) := by decide +kernel
theorem dX5_beginHead_25 : decode cX5_beginHead 25 = .ok (.iconst 4, 1) := by decide +kernel
theorem dX5_beginHead_26 : decode cX5_beginHead 26 = .ok (.iconst 1, 1) := by decide +kernel
theorem dX5_beginHead_27 : decode cX5_beginHead 27 = .ok (.invokevirtual 130, 3) := by decide +kernel
theorem dX5_beginHead_30 : decode cX5_beginHead 30 = .ok (.return_, 1) := by decide +kernel
theorem mI_X7_runOrder : Cond.instanceMethod yX7_runOrder ∈ gW := gW_t 880 (by decide +kernel) rfl
theorem mS_X7_runOrder : Cond.selects RX7 yX7_runOrder yX7_runOrder ∈ gW := gW_p (q := (yX7_runOrder, 5)) 28 (by decide +kernel)
theorem mC_X7_runOrder : Cond.code yX7_runOrder cX7_runOrder 6 (some .boolean) ∈ gW := gW_t 881 (by decide +kernel) rfl
theorem ok_X7_runOrder : okD yX7_runOrder 2 := ⟨by decide +kernel, by decide +kernel, by decide +kernel⟩
theorem dX7_runOrders_102 : decode cX7_runOrders 102 = .ok (.ifCond .ne 5, 3) := by decide +kernel
theorem dX7_runOrders_107 : decode cX7_runOrders 107 = .ok (.aload_n 0, 1) := by decide +kernel
theorem dX7_runOrders_108 : decode cX7_runOrders 108 = .ok (.dup, 1) := by decide +kernel
theorem dX7_runOrders_109 : decode cX7_runOrders 109 = .ok (.getfield 166, 3) := by decide +kernel
theorem dX7_runOrders_112 : decode cX7_runOrders 112 = .ok (.iconst 1, 1) := by decide +kernel
theorem dX7_runOrders_113 : decode cX7_runOrders 113 = .ok (.iadd, 1) := by decide +kernel
theorem dX7_runOrders_114 : decode cX7_runOrders 114 = .ok (.putfield 166, 3) := by decide +kernel
theorem dX7_runOrders_105 : decode cX7_runOrders 105 = .ok (.iload_n 2, 1) := by decide +kernel
theorem dX7_runOrders_106 : decode cX7_runOrders 106 = .ok (.ireturn, 1) := by decide +kernel
theorem dX7_runOrders_123 : decode cX7_runOrders 123 = .ok (.iinc 2 1, 3) := by decide +kernel
theorem dX7_runOrders_126 : decode cX7_runOrders 126 = .ok (.goto (-114), 3) := by decide +kernel
theorem dX7_runOrders_129 : decode cX7_runOrders 129 = .ok (.iconst (-1), 1) := by decide +kernel
theorem dX7_runOrders_130 : decode cX7_runOrders 130 = .ok (.ireturn, 1) := by decide +kernel
