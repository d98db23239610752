theorem mI_X3_fewestToHush : Cond.instanceMethod yX3_fewestToHush ∈ gW := gW_t 1112 (by decide +kernel) rfl
theorem mS_X3_fewestToHush : Cond.selects RX3 yX3_fewestToHush yX3_fewestToHush ∈ gW := gW_t 1113 (by decide +kernel) rfl
theorem mC_X3_fewestToHush : Cond.code yX3_fewestToHush cX3_fewestToHush 8 (some .int) ∈ gW := gW_t 1114 (by decide +kernel) rfl
theorem ok_X3_fewestToHush : okD yX3_fewestToHush 3 := ⟨by decide +kernel, by decide +kernel, by decide +kernel⟩
theorem dX11_quiet_96 : decode cX11_quiet 96 = .ok (.istore 6, 2) := by decide +kernel
theorem dX11_quiet_98 : decode cX11_quiet 98 = .ok (.iload 6, 2) := by decide +kernel
theorem dX11_quiet_100 : decode cX11_quiet 100 = .ok (.iconst (-1), 1) := by decide +kernel
theorem dX11_quiet_101 : decode cX11_quiet 101 = .ok (.if_icmp .ne 5, 3) := by decide +kernel
theorem dX11_quiet_106 : decode cX11_quiet 106 = .ok (.iload_n 3, 1) := by decide +kernel
theorem dX11_quiet_107 : decode cX11_quiet 107 = .ok (.ifCond .ne 11, 3) := by decide +kernel
theorem dX11_quiet_118 : decode cX11_quiet 118 = .ok (.iload 6, 2) := by decide +kernel
theorem dX11_quiet_120 : decode cX11_quiet 120 = .ok (.ireturn, 1) := by decide +kernel
theorem dX11_quiet_110 : decode cX11_quiet 110 = .ok (.iload 6, 2) := by decide +kernel
theorem dX11_quiet_112 : decode cX11_quiet 112 = .ok (.invokestatic 325, 3) := by decide +kernel
theorem dX11_quiet_115 : decode cX11_quiet 115 = .ok (.goto 5, 3) := by decide +kernel
theorem dX11_quiet_104 : decode cX11_quiet 104 = .ok (.iconst (-1), 1) := by decide +kernel
theorem dX11_quiet_105 : decode cX11_quiet 105 = .ok (.ireturn, 1) := by decide +kernel
theorem mI_X3_hiddenCells : Cond.instanceMethod yX3_hiddenCells ∈ gW := gW_t 1143 (by decide +kernel) rfl
theorem mS_X3_hiddenCells : Cond.selects RX3 yX3_hiddenCells yX3_hiddenCells ∈ gW := gW_t 1144 (by decide +kernel) rfl
theorem mC_X3_hiddenCells : Cond.code yX3_hiddenCells cX3_hiddenCells 5 (some .long) ∈ gW := gW_t 1145 (by decide +kernel) rfl
theorem ok_X3_hiddenCells : okD yX3_hiddenCells 1 := ⟨by decide +kernel, by decide +kernel, by decide +kernel⟩
theorem dX11_hidden_14 : decode cX11_hidden 14 = .ok (.lreturn, 1) := by decide +kernel
theorem dX11_next_22 : decode cX11_next 22 = .ok (.goto 4, 3) := by decide +kernel
theorem dX11_next_26 : decode cX11_next 26 = .ok (.lstore_n 2, 1) := by decide +kernel
theorem dX11_next_27 : decode cX11_next 27 = .ok (.lload_n 2, 1) := by decide +kernel
theorem dX11_next_28 : decode cX11_next 28 = .ok (.lconst 0, 1) := by decide +kernel
theorem dX11_next_29 : decode cX11_next 29 = .ok (.lcmp, 1) := by decide +kernel
theorem dX11_next_30 : decode cX11_next 30 = .ok (.ifCond .ne 5, 3) := by decide +kernel
theorem dX11_next_35 : decode cX11_next 35 = .ok (.iconst 0, 1) := by decide +kernel
theorem dX11_next_36 : decode cX11_next 36 = .ok (.istore 4, 2) := by decide +kernel
theorem dX11_next_38 : decode cX11_next 38 = .ok (.aload_n 0, 1) := by decide +kernel
theorem dX11_next_39 : decode cX11_next 39 = .ok (.getfield 56, 3) := by decide +kernel
theorem dX11_next_42 : decode cX11_next 42 = .ok (.lload_n 2, 1) := by decide +kernel
theorem dX11_next_43 : decode cX11_next 43 = .ok (.iconst 0, 1) := by decide +kernel
theorem dX11_next_44 : decode cX11_next 44 = .ok (.invokevirtual 342, 3) := by decide +kernel
theorem lk_RX11_342 : Cond.methodLink RX11 342 yX3_mostAlike ∈ gW := gW_t 1157 (by decide +kernel) rfl
theorem mI_X3_mostAlike : Cond.instanceMethod yX3_mostAlike ∈ gW := gW_t 1158 (by decide +kernel) rfl
theorem mS_X3_mostAlike : Cond.selects RX3 yX3_mostAlike yX3_mostAlike ∈ gW := gW_t 1159 (by decide +kernel) rfl
theorem mC_X3_mostAlike : Cond.code yX3_mostAlike cX3_mostAlike 7 (some .int) ∈ gW := gW_t 1160 (by decide +kernel) rfl
theorem ok_X3_mostAlike : okD yX3_mostAlike 2 := ⟨by decide +kernel, by decide +kernel, by decide +kernel⟩
theorem dX11_next_47 : decode cX11_next 47 = .ok (.istore 5, 2) := by decide +kernel
theorem dX11_next_49 : decode cX11_next 49 = .ok (.iconst 1, 1) := by decide +kernel
theorem dX11_next_50 : decode cX11_next 50 = .ok (.istore 6, 2) := by decide +kernel
theorem dX11_next_52 : decode cX11_next 52 = .ok (.iload 6, 2) := by decide +kernel
theorem dX11_next_54 : decode cX11_next 54 = .ok (.bipush 8, 2) := by decide +kernel
theorem dX11_next_56 : decode cX11_next 56 = .ok (.if_icmp .ge 36, 3) := by decide +kernel
theorem dX11_next_59 : decode cX11_next 59 = .ok (.aload_n 0, 1) := by decide +kernel
theorem dX11_next_60 : decode cX11_next 60 = .ok (.getfield 56, 3) := by decide +kernel
theorem dX11_next_63 : decode cX11_next 63 = .ok (.lload_n 2, 1) := by decide +kernel
theorem dX11_next_64 : decode cX11_next 64 = .ok (.iload 6, 2) := by decide +kernel
theorem dX11_next_66 : decode cX11_next 66 = .ok (.invokevirtual 342, 3) := by decide +kernel
theorem dX11_next_69 : decode cX11_next 69 = .ok (.istore 7, 2) := by decide +kernel
theorem dX11_next_71 : decode cX11_next 71 = .ok (.iload 7, 2) := by decide +kernel
theorem dX11_next_73 : decode cX11_next 73 = .ok (.iload 5, 2) := by decide +kernel
theorem dX11_next_75 : decode cX11_next 75 = .ok (.if_icmp .ge 11, 3) := by decide +kernel
theorem dX11_next_86 : decode cX11_next 86 = .ok (.iinc 6 1, 3) := by decide +kernel
theorem dX11_next_89 : decode cX11_next 89 = .ok (.goto (-37), 3) := by decide +kernel
theorem dX11_next_78 : decode cX11_next 78 = .ok (.iload 7, 2) := by decide +kernel
theorem dX11_next_80 : decode cX11_next 80 = .ok (.istore 5, 2) := by decide +kernel
theorem dX11_next_82 : decode cX11_next 82 = .ok (.iload 6, 2) := by decide +kernel
theorem dX11_next_84 : decode cX11_next 84 = .ok (.istore 4, 2) := by decide +kernel
theorem dX11_next_92 : decode cX11_next 92 = .ok (.iload_n 1, 1) := by decide +kernel
theorem dX11_next_93 : decode cX11_next 93 = .ok (.ifCond .ne 8, 3) := by decide +kernel
theorem dX11_next_101 : decode cX11_next 101 = .ok (.iload 5, 2) := by decide +kernel
theorem dX11_next_103 : decode cX11_next 103 = .ok (.ireturn, 1) := by decide +kernel
theorem dX11_next_96 : decode cX11_next 96 = .ok (.iload 4, 2) := by decide +kernel
theorem dX11_next_98 : decode cX11_next 98 = .ok (.goto 5, 3) := by decide +kernel
theorem dX11_next_33 : decode cX11_next 33 = .ok (.iconst (-1), 1) := by decide +kernel
theorem dX11_next_34 : decode cX11_next 34 = .ok (.ireturn, 1) := by decide +kernel
theorem dX11_time_16 : decode cX11_time 16 = .ok (.ifCond .ne 7, 3) := by decide +kernel
theorem dX11_time_23 : decode cX11_time 23 = .ok (.aload_n 0, 1) := by decide +kernel
theorem dX11_time_24 : decode cX11_time 24 = .ok (.getfield 49, 3) := by decide +kernel
theorem dX11_time_27 : decode cX11_time 27 = .ok (.iload_n 3, 1) := by decide +kernel
theorem dX11_time_28 : decode cX11_time 28 = .ok (.aload_n 0, 1) := by decide +kernel
theorem dX11_time_29 : decode cX11_time 29 = .ok (.getfield 21, 3) := by decide +kernel
theorem dX11_time_32 : decode cX11_time 32 = .ok (.getfield 78, 3) := by decide +kernel
theorem dX11_time_35 : decode cX11_time 35 = .ok (.getfield 193, 3) := by decide +kernel
theorem dX11_time_38 : decode cX11_time 38 = .ok (.iconst 1, 1) := by decide +kernel
theorem dX11_time_39 : decode cX11_time 39 = .ok (.iaload, 1) := by decide +kernel
theorem dX11_time_40 : decode cX11_time 40 = .ok (.invokevirtual 362, 3) := by decide +kernel
theorem lk_RX11_362 : Cond.methodLink RX11 362 yX9_chanceIn ∈ gW := gW_t 1195 (by decide +kernel) rfl
theorem mI_X9_chanceIn : Cond.instanceMethod yX9_chanceIn ∈ gW := gW_t 1196 (by decide +kernel) rfl
theorem mS_X9_chanceIn : Cond.selects RX9 yX9_chanceIn yX9_chanceIn ∈ gW := gW_t 1197 (by decide +kernel) rfl
theorem mC_X9_chanceIn : Cond.code yX9_chanceIn cX9_chanceIn 5 (some .long) ∈ gW := gW_t 1198 (by decide +kernel) rfl
theorem ok_X9_chanceIn : okD yX9_chanceIn 2 := ⟨by decide +kernel, by decide +kernel, by decide +kernel⟩
theorem dX11_time_43 : decode cX11_time 43 = .ok (.lreturn, 1) := by decide +kernel
