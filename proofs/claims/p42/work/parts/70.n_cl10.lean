def yX11_quiet : MethodName := ⟨RX11, "quiet", "(III)I"⟩
abbrev cX11_quiet : ByteArray := prog_1_method_30_code
theorem dX11_quiet_0 : decode cX11_quiet 0 = .ok (.aload_n 0, 1) := by decide +kernel
theorem dX11_quiet_1 : decode cX11_quiet 1 = .ok (.getfield 21, 3) := by decide +kernel
theorem dX11_quiet_4 : decode cX11_quiet 4 = .ok (.getfield 78, 3) := by decide +kernel
theorem dX11_quiet_7 : decode cX11_quiet 7 = .ok (.astore 4, 2) := by decide +kernel
theorem dX11_quiet_9 : decode cX11_quiet 9 = .ok (.iload_n 1, 1) := by decide +kernel
theorem dX11_quiet_10 : decode cX11_quiet 10 = .ok (.ifCond .lt 20, 3) := by decide +kernel
theorem dX11_quiet_30 : decode cX11_quiet 30 = .ok (.iconst 0, 1) := by decide +kernel
theorem dX11_quiet_13 : decode cX11_quiet 13 = .ok (.iload_n 1, 1) := by decide +kernel
theorem dX11_quiet_14 : decode cX11_quiet 14 = .ok (.aload 4, 2) := by decide +kernel
theorem dX11_quiet_16 : decode cX11_quiet 16 = .ok (.getfield 156, 3) := by decide +kernel
theorem dX11_quiet_19 : decode cX11_quiet 19 = .ok (.getfield 160, 3) := by decide +kernel
theorem dX11_quiet_22 : decode cX11_quiet 22 = .ok (.ishr, 1) := by decide +kernel
theorem dX11_quiet_23 : decode cX11_quiet 23 = .ok (.ifCond .ne 7, 3) := by decide +kernel
theorem dX11_quiet_26 : decode cX11_quiet 26 = .ok (.iconst 1, 1) := by decide +kernel
theorem dX11_quiet_27 : decode cX11_quiet 27 = .ok (.goto 4, 3) := by decide +kernel
theorem dX11_quiet_31 : decode cX11_quiet 31 = .ok (.istore 5, 2) := by decide +kernel
theorem dX11_quiet_33 : decode cX11_quiet 33 = .ok (.iload 5, 2) := by decide +kernel
theorem dX11_quiet_35 : decode cX11_quiet 35 = .ok (.ifCond .eq 34, 3) := by decide +kernel
theorem dX11_quiet_69 : decode cX11_quiet 69 = .ok (.iconst (-1), 1) := by decide +kernel
theorem dX11_quiet_70 : decode cX11_quiet 70 = .ok (.ireturn, 1) := by decide +kernel
theorem dX11_quiet_38 : decode cX11_quiet 38 = .ok (.iload_n 2, 1) := by decide +kernel
theorem dX11_quiet_39 : decode cX11_quiet 39 = .ok (.bipush 40, 2) := by decide +kernel
theorem dX11_quiet_41 : decode cX11_quiet 41 = .ok (.invokestatic 82, 3) := by decide +kernel
theorem dX11_quiet_44 : decode cX11_quiet 44 = .ok (.ifCond .eq 25, 3) := by decide +kernel
theorem dX11_quiet_47 : decode cX11_quiet 47 = .ok (.iload_n 3, 1) := by decide +kernel
theorem dX11_quiet_48 : decode cX11_quiet 48 = .ok (.iconst 2, 1) := by decide +kernel
theorem dX11_quiet_49 : decode cX11_quiet 49 = .ok (.invokestatic 82, 3) := by decide +kernel
theorem dX11_quiet_52 : decode cX11_quiet 52 = .ok (.ifCond .eq 17, 3) := by decide +kernel
theorem dX11_quiet_55 : decode cX11_quiet 55 = .ok (.aload 4, 2) := by decide +kernel
theorem dX11_quiet_57 : decode cX11_quiet 57 = .ok (.getfield 95, 3) := by decide +kernel
theorem dX11_quiet_60 : decode cX11_quiet 60 = .ok (.getfield 124, 3) := by decide +kernel
theorem dX11_quiet_63 : decode cX11_quiet 63 = .ok (.iload_n 2, 1) := by decide +kernel
theorem dX11_quiet_64 : decode cX11_quiet 64 = .ok (.iaload, 1) := by decide +kernel
theorem dX11_quiet_65 : decode cX11_quiet 65 = .ok (.iconst 3, 1) := by decide +kernel
theorem dX11_quiet_66 : decode cX11_quiet 66 = .ok (.if_icmp .eq 5, 3) := by decide +kernel
theorem dX11_quiet_71 : decode cX11_quiet 71 = .ok (.aload_n 0, 1) := by decide +kernel
theorem dX11_quiet_72 : decode cX11_quiet 72 = .ok (.getfield 10, 3) := by decide +kernel
theorem dX11_quiet_75 : decode cX11_quiet 75 = .ok (.aload 4, 2) := by decide +kernel
theorem dX11_quiet_77 : decode cX11_quiet 77 = .ok (.aload 4, 2) := by decide +kernel
theorem dX11_quiet_79 : decode cX11_quiet 79 = .ok (.invokevirtual 116, 3) := by decide +kernel
theorem dX11_quiet_82 : decode cX11_quiet 82 = .ok (.invokevirtual 120, 3) := by decide +kernel
theorem dX11_quiet_85 : decode cX11_quiet 85 = .ok (.aload_n 0, 1) := by decide +kernel
theorem dX11_quiet_86 : decode cX11_quiet 86 = .ok (.getfield 56, 3) := by decide +kernel
theorem dX11_quiet_89 : decode cX11_quiet 89 = .ok (.aload 4, 2) := by decide +kernel
theorem dX11_quiet_91 : decode cX11_quiet 91 = .ok (.iload_n 1, 1) := by decide +kernel
theorem dX11_quiet_92 : decode cX11_quiet 92 = .ok (.iload_n 2, 1) := by decide +kernel
theorem dX11_quiet_93 : decode cX11_quiet 93 = .ok (.invokevirtual 321, 3) := by decide +kernel
theorem lk_RX11_321 : Cond.methodLink RX11 321 yX3_fewestToHush ∈ gW := gW_t 1111 (by decide +kernel) rfl
theorem mI_X3_fewestToHush : Cond.instanceMethod yX3_fewestToHush ∈ gW := gW_t 1112 (by decide +kernel) rfl
theorem mS_X3_fewestToHush : Cond.selects RX3 yX3_fewestToHush yX3_fewestToHush ∈ gW := gW_t 1113 (by decide +kernel) rfl
theorem mC_X3_fewestToHush : Cond.code yX3_fewestToHush cX3_fewestToHush 8 (some .int) ∈ gW := gW_t 1114 (by decide +kernel) rfl
theorem ok_X3_fewestToHush : okD yX3_fewestToHush 3 := ⟨by decide +kernel, by decide +kernel, by decide +kernel⟩
theorem dX11_quiet_96 : decode cX11_quiet 96 = .ok (.istore 6, 2) := by decide +kernel
theorem dX11_quiet_98 : decode cX11_quiet 98 = .ok (.iload 6, 2) := by decide +kernel
theorem dX11_quiet_100 : decode cX11_quiet 100 = .ok (.iconst (-1), 1) := by decide +kernel
theorem dX11_quiet_101 : decode cX11_quiet 101 = .ok (.if_icmp .ne 5, 3) := by decide +kernel
theorem dX11_quiet_106 : decode cX11_quiet 106 = .ok (.iload_n 3, 1) := by decide +kernel
theorem dX11_quiet_107 : decode cX11_quiet 107 = .ok (.ifCond .ne 11, 3) := by decide +kernel
theorem dX11_quiet_118 : decode cX11_quiet 118 = .ok (.iload 6, 2) := by decide +kernel
theorem dX11_quiet_120 : decode cX11_quiet 120 = .ok (.ireturn, 1) := by decide +kernel
theorem dX11_quiet_110 : decode cX11_quiet 110 = .ok (.iload 6, 2) := by decide +kernel
theorem dX11_quiet_112 : decode cX11_quiet 112 = .ok (.invokestatic 325, 3) := by decide +kernel
theorem dX11_quiet_115 : decode cX11_quiet 115 = .ok (.goto 5, 3) := by decide +kernel
theorem dX11_quiet_104 : decode cX11_quiet 104 = .ok (.iconst (-1), 1) := by decide +kernel
theorem dX11_quiet_105 : decode cX11_quiet 105 = .ok (.ireturn, 1) := by decide +kernel
def yX11_hidden : MethodName := ⟨RX11, "hidden", "()J"⟩
abbrev cX11_hidden : ByteArray := prog_1_method_33_code
theorem dX11_hidden_0 : decode cX11_hidden 0 = .ok (.aload_n 0, 1) := by decide +kernel
theorem dX11_hidden_1 : decode cX11_hidden 1 = .ok (.getfield 56, 3) := by decide +kernel
theorem dX11_hidden_4 : decode cX11_hidden 4 = .ok (.aload_n 0, 1) := by decide +kernel
theorem dX11_hidden_5 : decode cX11_hidden 5 = .ok (.getfield 21, 3) := by decide +kernel
theorem dX11_hidden_8 : decode cX11_hidden 8 = .ok (.getfield 78, 3) := by decide +kernel
theorem dX11_hidden_11 : decode cX11_hidden 11 = .ok (.invokevirtual 338, 3) := by decide +kernel
theorem lk_RX11_338 : Cond.methodLink RX11 338 yX3_hiddenCells ∈ gW := gW_t 1142 (by decide +kernel) rfl
theorem mI_X3_hiddenCells : Cond.instanceMethod yX3_hiddenCells ∈ gW := gW_t 1143 (by decide +kernel) rfl
theorem mS_X3_hiddenCells : Cond.selects RX3 yX3_hiddenCells yX3_hiddenCells ∈ gW := gW_t 1144 (by decide +kernel) rfl
theorem mC_X3_hiddenCells : Cond.code yX3_hiddenCells cX3_hiddenCells 5 (some .long) ∈ gW := gW_t 1145 (by decide +kernel) rfl
theorem ok_X3_hiddenCells : okD yX3_hiddenCells 1 := ⟨by decide +kernel, by decide +kernel, by decide +kernel⟩
theorem dX11_hidden_14 : decode cX11_hidden 14 = .ok (.lreturn, 1) := by decide +kernel
def yX11_next : MethodName := ⟨RX11, "next", "(I)I"⟩
abbrev cX11_next : ByteArray := prog_1_method_34_code
theorem dX11_next_0 : decode cX11_next 0 = .ok (.iload_n 1, 1) := by decide +kernel
theorem dX11_next_1 : decode cX11_next 1 = .ok (.iconst 2, 1) := by decide +kernel
theorem dX11_next_2 : decode cX11_next 2 = .ok (.invokestatic 82, 3) := by decide +kernel
theorem dX11_next_5 : decode cX11_next 5 = .ok (.ifCond .eq 20, 3) := by decide +kernel
theorem dX11_next_25 : decode cX11_next 25 = .ok (.lconst 0, 1) := by decide +kernel
theorem dX11_next_8 : decode cX11_next 8 = .ok (.aload_n 0, 1) := by decide +kernel
theorem dX11_next_9 : decode cX11_next 9 = .ok (.getfield 56, 3) := by decide +kernel
theorem dX11_next_12 : decode cX11_next 12 = .ok (.aload_n 0, 1) := by decide +kernel
theorem dX11_next_13 : decode cX11_next 13 = .ok (.getfield 21, 3) := by decide +kernel
theorem dX11_next_16 : decode cX11_next 16 = .ok (.getfield 78, 3) := by decide +kernel
theorem dX11_next_19 : decode cX11_next 19 = .ok (.invokevirtual 338, 3) := by decide +kernel
theorem dX11_next_22 : decode cX11_next 22 = .ok (.goto 4, 3) := by decide +kernel
theorem dX11_next_26 : decode cX11_next 26 = .ok (.lstore_n 2, 1) := by decide +kernel
theorem dX11_next_27 : decode cX11_next 27 = .ok (.lload_n 2, 1) := by decide +kernel
theorem dX11_next_28 : decode cX11_next 28 = .ok (.lconst 0, 1) := by decide +kernel
theorem dX11_next_29 : decode cX11_next 29 = .ok (.lcmp, 1) := by decide +kernel
theorem dX11_next_30 : decode cX11_next 30 = .ok (.ifCond .ne 5, 3) := by decide +kernel
theorem dX11_next_35 : decode cX11_next 35 = .ok (.iconst 0, 1) := by decide +kernel
theorem dX11_next_36 : decode cX11_next 36 = .ok (.istore 4, 2) := by decide +kernel
theorem dX11_next_38 : decode cX11_next 38 = .ok (.aload_n 0, 1) := by decide +kernel
theorem dX11_next_39 : decode cX11_next 39 = .ok (.getfield 56, 3) := by decide +kernel
theorem dX11_next_42 : decode cX11_next 42 = .ok (.lload_n 2, 1) := by decide +kernel
theorem dX11_next_43 : decode cX11_next 43 = .ok (.iconst 0, 1) := by decide +kernel
theorem dX11_next_44 : decode cX11_next 44 = .ok (.invokevirtual 342, 3) := by decide +kernel
theorem lk_RX11_342 : Cond.methodLink RX11 342 yX3_mostAlike ∈ gW := gW_t 1157 (by decide +kernel) rfl
theorem mI_X3_mostAlike : Cond.instanceMethod yX3_mostAlike ∈ gW := gW_t 1158 (by decide +kernel) rfl
theorem mS_X3_mostAlike : Cond.selects RX3 yX3_mostAlike yX3_mostAlike ∈ gW := gW_t 1159 (by decide +kernel) rfl
theorem mC_X3_mostAlike : Cond.code yX3_mostAlike cX3_mostAlike 7 (some .int) ∈ gW := gW_t 1160 (by decide +kernel) rfl
theorem ok_X3_mostAlike : okD yX3_mostAlike 2 := ⟨by decide +kernel, by decide +kernel, by decide +kernel⟩
theorem dX11_next_47 : decode cX11_next 47 = .ok (.istore 5, 2) := by decide +kernel
theorem dX11_next_49 : decode cX11_next 49 = .ok (.iconst 1, 1) := by decide +kernel
theorem dX11_next_50 : decode cX11_next 50 = .ok (.istore 6, 2) := by decide +kernel
theorem dX11_next_52 : decode cX11_next 52 = .ok (.iload 6, 2) := by decide +kernel
theorem dX11_next_54 : decode cX11_next 54 = .ok (.bipush 8, 2) := by decide +kernel
theorem dX11_next_56 : decode cX11_next 56 = .ok (.if_icmp .ge 36, 3) := by decide +kernel
theorem dX11_next_59 : decode cX11_next 59 = .ok (.aload_n 0, 1) := by decide +kernel
theorem dX11_next_60 : decode cX11_next 60 = .ok (.getfield 56, 3) := by decide +kernel
theorem dX11_next_63 : decode cX11_next 63 = .ok (.lload_n 2, 1) := by decide +kernel
theorem dX11_next_64 : decode cX11_next 64 = .ok (.iload 6, 2) := by decide +kernel
theorem dX11_next_66 : decode cX11_next 66 = .ok (.invokevirtual 342, 3) := by decide +kernel
theorem dX11_next_69 : decode cX11_next 69 = .ok (.istore 7, 2) := by decide +kernel
theorem dX11_next_71 : decode cX11_next 71 = .ok (.iload 7, 2) := by decide +kernel
theorem dX11_next_73 : decode cX11_next 73 = .ok (.iload 5, 2) := by decide +kernel
theorem dX11_next_75 : decode cX11_next 75 = .ok (.if_icmp .ge 11, 3) := by decide +kernel
theorem dX11_next_86 : decode cX11_next 86 = .ok (.iinc 6 1, 3) := by decide +kernel
theorem dX11_next_89 : decode cX11_next 89 = .ok (.goto (-37), 3) := by decide +kernel
theorem dX11_next_78 : decode cX11_next 78 = .ok (.iload 7, 2) := by decide +kernel
theorem dX11_next_80 : decode cX11_next 80 = .ok (.istore 5, 2) := by decide +kernel
theorem dX11_next_82 : decode cX11_next 82 = .ok (.iload 6, 2) := by decide +kernel
theorem dX11_next_84 : decode cX11_next 84 = .ok (.istore 4, 2) := by decide +kernel
theorem dX11_next_92 : decode cX11_next 92 = .ok (.iload_n 1, 1) := by decide +kernel
theorem dX11_next_93 : decode cX11_next 93 = .ok (.ifCond .ne 8, 3) := by decide +kernel
theorem dX11_next_101 : decode cX11_next 101 = .ok (.iload 5, 2) := by decide +kernel
theorem dX11_next_103 : decode cX11_next 103 = .ok (.ireturn, 1) := by decide +kernel
theorem dX11_next_96 : decode cX11_next 96 = .ok (.iload 4, 2) := by decide +kernel
theorem dX11_next_98 : decode cX11_next 98 = .ok (.goto 5, 3) := by decide +kernel
theorem dX11_next_33 : decode cX11_next 33 = .ok (.iconst (-1), 1) := by decide +kernel
theorem dX11_next_34 : decode cX11_next 34 = .ok (.ireturn, 1) := by decide +kernel
def yX11_time : MethodName := ⟨RX11, "time", "(III)J"⟩
abbrev cX11_time : ByteArray := prog_1_method_38_code
theorem dX11_time_0 : decode cX11_time 0 = .ok (.iload_n 3, 1) := by decide +kernel
theorem dX11_time_1 : decode cX11_time 1 = .ok (.sipush 201, 3) := by decide +kernel
theorem dX11_time_4 : decode cX11_time 4 = .ok (.invokestatic 82, 3) := by decide +kernel
theorem dX11_time_7 : decode cX11_time 7 = .ok (.ifCond .eq 12, 3) := by decide +kernel
theorem dX11_time_19 : decode cX11_time 19 = .ok (.ldc2_w 268, 3) := by decide +kernel
theorem dX11_time_22 : decode cX11_time 22 = .ok (.lreturn, 1) := by decide +kernel
theorem dX11_time_10 : decode cX11_time 10 = .ok (.aload_n 0, 1) := by decide +kernel
theorem dX11_time_11 : decode cX11_time 11 = .ok (.iload_n 1, 1) := by decide +kernel
theorem dX11_time_12 : decode cX11_time 12 = .ok (.iload_n 2, 1) := by decide +kernel
theorem dX11_time_13 : decode cX11_time 13 = .ok (.invokevirtual 293, 3) := by decide +kernel
theorem dX11_time_16 : decode cX11_time 16 = .ok (.ifCond .ne 7, 3) := by decide +kernel
theorem dX11_time_23 : decode cX11_time 23 = .ok (.aload_n 0, 1) := by decide +kernel
theorem dX11_time_24 : decode cX11_time 24 = .ok (.getfield 49, 3) := by decide +kernel
theorem dX11_time_27 : decode cX11_time 27 = .ok (.iload_n 3, 1) := by decide +kernel
theorem dX11_time_28 : decode cX11_time 28 = .ok (.aload_n 0, 1) := by decide +kernel
theorem dX11_time_29 : decode cX11_time 29 = .ok (.getfield 21, 3) := by decide +kernel
theorem dX11_time_32 : decode cX11_time 32 = .ok (.getfield 78, 3) := by decide +kernel
theorem dX11_time_35 : decode cX11_time 35 = .ok (.getfield 193, 3) := by decide +kernel
theorem dX11_time_38 : decode cX11_time 38 = .ok (.iconst 1, 1) := by decide +kernel
theorem dX11_time_39 : decode cX11_time 39 = .ok (.iaload, 1) := by decide +kernel
theorem dX11_time_40 : decode cX11_time 40 = .ok (.invokevirtual 362, 3) := by decide +kernel
theorem lk_RX11_362 : Cond.methodLink RX11 362 yX9_chanceIn ∈ gW := gW_t 1195 (by decide +kernel) rfl
theorem mI_X9_chanceIn : Cond.instanceMethod yX9_chanceIn ∈ gW := gW_t 1196 (by decide +kernel) rfl
theorem mS_X9_chanceIn : Cond.selects RX9 yX9_chanceIn yX9_chanceIn ∈ gW := gW_t 1197 (by decide +kernel) rfl
theorem mC_X9_chanceIn : Cond.code yX9_chanceIn cX9_chanceIn 5 (some .long) ∈ gW := gW_t 1198 (by decide +kernel) rfl
theorem ok_X9_chanceIn : okD yX9_chanceIn 2 := ⟨by decide +kernel, by decide +kernel, by decide +kernel⟩
theorem dX11_time_43 : decode cX11_time 43 = .ok (.lreturn, 1) := by decide +kernel
