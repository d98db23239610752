def yX9_weigh : MethodName := ⟨RX9, "weigh", "(LListenWells$Rock;LListenWells$Asker;I)V"⟩
abbrev cX9_weigh : ByteArray := prog_11_method_2_code
theorem dX9_weigh_0 : decode cX9_weigh 0 = .ok (.iconst 0, 1) := by decide +kernel
theorem dX9_weigh_1 : decode cX9_weigh 1 = .ok (.istore 4, 2) := by decide +kernel
theorem dX9_weigh_3 : decode cX9_weigh 3 = .ok (.iload 4, 2) := by decide +kernel
theorem dX9_weigh_5 : decode cX9_weigh 5 = .ok (.bipush 40, 2) := by decide +kernel
theorem dX9_weigh_7 : decode cX9_weigh 7 = .ok (.if_icmp .ge 71, 3) := by decide +kernel
theorem dX9_weigh_10 : decode cX9_weigh 10 = .ok (.aload_n 1, 1) := by decide +kernel
theorem dX9_weigh_11 : decode cX9_weigh 11 = .ok (.iload 4, 2) := by decide +kernel
theorem dX9_weigh_13 : decode cX9_weigh 13 = .ok (.invokevirtual 41, 3) := by decide +kernel
theorem lk_RX9_41 : Cond.methodLink RX9 41 yX6_isDug ∈ gW := gW_t 1055 (by decide +kernel) rfl
theorem dX9_weigh_16 : decode cX9_weigh 16 = .ok (.ifCond .ne 17, 3) := by decide +kernel
theorem dX9_weigh_33 : decode cX9_weigh 33 = .ok (.iconst 0, 1) := by decide +kernel
theorem dX9_weigh_19 : decode cX9_weigh 19 = .ok (.aload_n 2, 1) := by decide +kernel
theorem dX9_weigh_20 : decode cX9_weigh 20 = .ok (.iload_n 3, 1) := by decide +kernel
theorem dX9_weigh_21 : decode cX9_weigh 21 = .ok (.iload 4, 2) := by decide +kernel
theorem dX9_weigh_23 : decode cX9_weigh 23 = .ok (.invokevirtual 47, 3) := by decide +kernel
theorem lk_RX9_47 : Cond.methodLink RX9 47 yX0_passesOf ∈ gW := gW_t 1056 (by decide +kernel) rfl
theorem dX9_weigh_26 : decode cX9_weigh 26 = .ok (.ifCond .eq 7, 3) := by decide +kernel
theorem dX9_weigh_29 : decode cX9_weigh 29 = .ok (.iconst 1, 1) := by decide +kernel
theorem dX9_weigh_30 : decode cX9_weigh 30 = .ok (.goto 4, 3) := by decide +kernel
theorem dX9_weigh_34 : decode cX9_weigh 34 = .ok (.istore 5, 2) := by decide +kernel
theorem dX9_weigh_36 : decode cX9_weigh 36 = .ok (.aload_n 0, 1) := by decide +kernel
theorem dX9_weigh_37 : decode cX9_weigh 37 = .ok (.getfield 9, 3) := by decide +kernel
theorem dX9_weigh_40 : decode cX9_weigh 40 = .ok (.iload 4, 2) := by decide +kernel
theorem dX9_weigh_42 : decode cX9_weigh 42 = .ok (.iload 5, 2) := by decide +kernel
theorem dX9_weigh_44 : decode cX9_weigh 44 = .ok (.ifCond .eq 13, 3) := by decide +kernel
theorem dX9_weigh_57 : decode cX9_weigh 57 = .ok (.iconst 0, 1) := by decide +kernel
theorem dX9_weigh_47 : decode cX9_weigh 47 = .ok (.aload_n 2, 1) := by decide +kernel
theorem dX9_weigh_48 : decode cX9_weigh 48 = .ok (.iload_n 3, 1) := by decide +kernel
theorem dX9_weigh_49 : decode cX9_weigh 49 = .ok (.iload 4, 2) := by decide +kernel
theorem dX9_weigh_51 : decode cX9_weigh 51 = .ok (.invokevirtual 53, 3) := by decide +kernel
theorem lk_RX9_53 : Cond.methodLink RX9 53 yX0_digsOf ∈ gW := gW_t 1057 (by decide +kernel) rfl
theorem dX9_weigh_54 : decode cX9_weigh 54 = .ok (.goto 4, 3) := by decide +kernel
theorem dX9_weigh_58 : decode cX9_weigh 58 = .ok (.iastore, 1) := by decide +kernel
theorem dX9_weigh_59 : decode cX9_weigh 59 = .ok (.aload_n 0, 1) := by decide +kernel
theorem dX9_weigh_60 : decode cX9_weigh 60 = .ok (.getfield 15, 3) := by decide +kernel
theorem dX9_weigh_63 : decode cX9_weigh 63 = .ok (.iload 4, 2) := by decide +kernel
theorem dX9_weigh_65 : decode cX9_weigh 65 = .ok (.aload_n 1, 1) := by decide +kernel
theorem dX9_weigh_66 : decode cX9_weigh 66 = .ok (.iload 4, 2) := by decide +kernel
theorem dX9_weigh_68 : decode cX9_weigh 68 = .ok (.invokevirtual 57, 3) := by decide +kernel
theorem lk_RX9_57 : Cond.methodLink RX9 57 yX6_endsAWay ∈ gW := gW_t 1058 (by decide +kernel) rfl
theorem dX9_weigh_71 : decode cX9_weigh 71 = .ok (.bastore, 1) := by decide +kernel
theorem dX9_weigh_72 : decode cX9_weigh 72 = .ok (.iinc 4 1, 3) := by decide +kernel
theorem dX9_weigh_75 : decode cX9_weigh 75 = .ok (.goto (-72), 3) := by decide +kernel
theorem dX9_weigh_78 : decode cX9_weigh 78 = .ok (.return_, 1) := by decide +kernel
def yX9_daysTo : MethodName := ⟨RX9, "daysTo", "(II)I"⟩
abbrev cX9_daysTo : ByteArray := prog_11_method_3_code
theorem dX9_daysTo_0 : decode cX9_daysTo 0 = .ok (.iconst 4, 1) := by decide +kernel
theorem dX9_daysTo_1 : decode cX9_daysTo 1 = .ok (.istore_n 3, 1) := by decide +kernel
theorem dX9_daysTo_2 : decode cX9_daysTo 2 = .ok (.iload_n 3, 1) := by decide +kernel
theorem dX9_daysTo_3 : decode cX9_daysTo 3 = .ok (.ifCond .lt 164, 3) := by decide +kernel
theorem dX9_daysTo_6 : decode cX9_daysTo 6 = .ok (.iload_n 3, 1) := by decide +kernel
theorem dX9_daysTo_7 : decode cX9_daysTo 7 = .ok (.bipush 8, 2) := by decide +kernel
theorem dX9_daysTo_9 : decode cX9_daysTo 9 = .ok (.imul, 1) := by decide +kernel
theorem dX9_daysTo_10 : decode cX9_daysTo 10 = .ok (.istore 4, 2) := by decide +kernel
theorem dX9_daysTo_12 : decode cX9_daysTo 12 = .ok (.iload 4, 2) := by decide +kernel
theorem dX9_daysTo_14 : decode cX9_daysTo 14 = .ok (.iload_n 3, 1) := by decide +kernel
theorem dX9_daysTo_15 : decode cX9_daysTo 15 = .ok (.bipush 8, 2) := by decide +kernel
theorem dX9_daysTo_17 : decode cX9_daysTo 17 = .ok (.imul, 1) := by decide +kernel
theorem dX9_daysTo_18 : decode cX9_daysTo 18 = .ok (.bipush 8, 2) := by decide +kernel
theorem dX9_daysTo_20 : decode cX9_daysTo 20 = .ok (.iadd, 1) := by decide +kernel
theorem dX9_daysTo_21 : decode cX9_daysTo 21 = .ok (.if_icmp .ge 36, 3) := by decide +kernel
theorem dX9_daysTo_24 : decode cX9_daysTo 24 = .ok (.aload_n 0, 1) := by decide +kernel
theorem dX9_daysTo_25 : decode cX9_daysTo 25 = .ok (.getfield 19, 3) := by decide +kernel
theorem dX9_daysTo_28 : decode cX9_daysTo 28 = .ok (.iload 4, 2) := by decide +kernel
theorem dX9_daysTo_30 : decode cX9_daysTo 30 = .ok (.iload 4, 2) := by decide +kernel
theorem dX9_daysTo_32 : decode cX9_daysTo 32 = .ok (.iload_n 2, 1) := by decide +kernel
theorem dX9_daysTo_33 : decode cX9_daysTo 33 = .ok (.if_icmp .ne 7, 3) := by decide +kernel
theorem dX9_daysTo_40 : decode cX9_daysTo 40 = .ok (.aload_n 0, 1) := by decide +kernel
theorem dX9_daysTo_41 : decode cX9_daysTo 41 = .ok (.iload 4, 2) := by decide +kernel
theorem dX9_daysTo_43 : decode cX9_daysTo 43 = .ok (.bipush 8, 2) := by decide +kernel
theorem dX9_daysTo_45 : decode cX9_daysTo 45 = .ok (.iadd, 1) := by decide +kernel
theorem dX9_daysTo_46 : decode cX9_daysTo 46 = .ok (.iload_n 2, 1) := by decide +kernel
theorem dX9_daysTo_47 : decode cX9_daysTo 47 = .ok (.invokevirtual 60, 3) := by decide +kernel
theorem dX9_daysTo_50 : decode cX9_daysTo 50 = .ok (.iastore, 1) := by decide +kernel
theorem dX9_daysTo_51 : decode cX9_daysTo 51 = .ok (.iinc 4 1, 3) := by decide +kernel
theorem dX9_daysTo_54 : decode cX9_daysTo 54 = .ok (.goto (-42), 3) := by decide +kernel
theorem dX9_daysTo_36 : decode cX9_daysTo 36 = .ok (.iconst 0, 1) := by decide +kernel
theorem dX9_daysTo_37 : decode cX9_daysTo 37 = .ok (.goto 13, 3) := by decide +kernel
theorem dX9_daysTo_57 : decode cX9_daysTo 57 = .ok (.iload_n 3, 1) := by decide +kernel
theorem dX9_daysTo_58 : decode cX9_daysTo 58 = .ok (.bipush 8, 2) := by decide +kernel
theorem dX9_daysTo_60 : decode cX9_daysTo 60 = .ok (.imul, 1) := by decide +kernel
theorem dX9_daysTo_61 : decode cX9_daysTo 61 = .ok (.iconst 1, 1) := by decide +kernel
theorem dX9_daysTo_62 : decode cX9_daysTo 62 = .ok (.iadd, 1) := by decide +kernel
theorem dX9_daysTo_63 : decode cX9_daysTo 63 = .ok (.istore 4, 2) := by decide +kernel
theorem dX9_daysTo_65 : decode cX9_daysTo 65 = .ok (.iload 4, 2) := by decide +kernel
theorem dX9_daysTo_67 : decode cX9_daysTo 67 = .ok (.iload_n 3, 1) := by decide +kernel
theorem dX9_daysTo_68 : decode cX9_daysTo 68 = .ok (.bipush 8, 2) := by decide +kernel
theorem dX9_daysTo_70 : decode cX9_daysTo 70 = .ok (.imul, 1) := by decide +kernel
theorem dX9_daysTo_71 : decode cX9_daysTo 71 = .ok (.bipush 8, 2) := by decide +kernel
theorem dX9_daysTo_73 : decode cX9_daysTo 73 = .ok (.iadd, 1) := by decide +kernel
theorem dX9_daysTo_74 : decode cX9_daysTo 74 = .ok (.if_icmp .ge 35, 3) := by decide +kernel
theorem dX9_daysTo_77 : decode cX9_daysTo 77 = .ok (.aload_n 0, 1) := by decide +kernel
theorem dX9_daysTo_78 : decode cX9_daysTo 78 = .ok (.getfield 19, 3) := by decide +kernel
theorem dX9_daysTo_81 : decode cX9_daysTo 81 = .ok (.iload 4, 2) := by decide +kernel
theorem dX9_daysTo_83 : decode cX9_daysTo 83 = .ok (.aload_n 0, 1) := by decide +kernel
theorem dX9_daysTo_84 : decode cX9_daysTo 84 = .ok (.getfield 19, 3) := by decide +kernel
theorem dX9_daysTo_87 : decode cX9_daysTo 87 = .ok (.iload 4, 2) := by decide +kernel
theorem dX9_daysTo_89 : decode cX9_daysTo 89 = .ok (.iaload, 1) := by decide +kernel
theorem dX9_daysTo_90 : decode cX9_daysTo 90 = .ok (.aload_n 0, 1) := by decide +kernel
theorem dX9_daysTo_91 : decode cX9_daysTo 91 = .ok (.iload 4, 2) := by decide +kernel
theorem dX9_daysTo_93 : decode cX9_daysTo 93 = .ok (.iconst 1, 1) := by decide +kernel
theorem dX9_daysTo_94 : decode cX9_daysTo 94 = .ok (.isub, 1) := by decide +kernel
theorem dX9_daysTo_95 : decode cX9_daysTo 95 = .ok (.iload_n 2, 1) := by decide +kernel
theorem dX9_daysTo_96 : decode cX9_daysTo 96 = .ok (.invokevirtual 60, 3) := by decide +kernel
theorem dX9_daysTo_99 : decode cX9_daysTo 99 = .ok (.invokestatic 63, 3) := by decide +kernel
theorem dX9_daysTo_102 : decode cX9_daysTo 102 = .ok (.iastore, 1) := by decide +kernel
theorem dX9_daysTo_103 : decode cX9_daysTo 103 = .ok (.iinc 4 1, 3) := by decide +kernel
theorem dX9_daysTo_106 : decode cX9_daysTo 106 = .ok (.goto (-41), 3) := by decide +kernel
theorem dX9_daysTo_109 : decode cX9_daysTo 109 = .ok (.iload_n 3, 1) := by decide +kernel
theorem dX9_daysTo_110 : decode cX9_daysTo 110 = .ok (.bipush 8, 2) := by decide +kernel
theorem dX9_daysTo_112 : decode cX9_daysTo 112 = .ok (.imul, 1) := by decide +kernel
theorem dX9_daysTo_113 : decode cX9_daysTo 113 = .ok (.bipush 8, 2) := by decide +kernel
theorem dX9_daysTo_115 : decode cX9_daysTo 115 = .ok (.iadd, 1) := by decide +kernel
theorem dX9_daysTo_116 : decode cX9_daysTo 116 = .ok (.iconst 2, 1) := by decide +kernel
theorem dX9_daysTo_117 : decode cX9_daysTo 117 = .ok (.isub, 1) := by decide +kernel
theorem dX9_daysTo_118 : decode cX9_daysTo 118 = .ok (.istore 4, 2) := by decide +kernel
theorem dX9_daysTo_120 : decode cX9_daysTo 120 = .ok (.iload 4, 2) := by decide +kernel
theorem dX9_daysTo_122 : decode cX9_daysTo 122 = .ok (.iload_n 3, 1) := by decide +kernel
theorem dX9_daysTo_123 : decode cX9_daysTo 123 = .ok (.bipush 8, 2) := by decide +kernel
theorem dX9_daysTo_125 : decode cX9_daysTo 125 = .ok (.imul, 1) := by decide +kernel
theorem dX9_daysTo_126 : decode cX9_daysTo 126 = .ok (.if_icmp .lt 35, 3) := by decide +kernel
theorem dX9_daysTo_129 : decode cX9_daysTo 129 = .ok (.aload_n 0, 1) := by decide +kernel
theorem dX9_daysTo_130 : decode cX9_daysTo 130 = .ok (.getfield 19, 3) := by decide +kernel
theorem dX9_daysTo_133 : decode cX9_daysTo 133 = .ok (.iload 4, 2) := by decide +kernel
theorem dX9_daysTo_135 : decode cX9_daysTo 135 = .ok (.aload_n 0, 1) := by decide +kernel
theorem dX9_daysTo_136 : decode cX9_daysTo 136 = .ok (.getfield 19, 3) := by decide +kernel
theorem dX9_daysTo_139 : decode cX9_daysTo 139 = .ok (.iload 4, 2) := by decide +kernel
theorem dX9_daysTo_141 : decode cX9_daysTo 141 = .ok (.iaload, 1) := by decide +kernel
theorem dX9_daysTo_142 : decode cX9_daysTo 142 = .ok (.aload_n 0, 1) := by decide +kernel
theorem dX9_daysTo_143 : decode cX9_daysTo 143 = .ok (.iload 4, 2) := by decide +kernel
theorem dX9_daysTo_145 : decode cX9_daysTo 145 = .ok (.iconst 1, 1) := by decide +kernel
theorem dX9_daysTo_146 : decode cX9_daysTo 146 = .ok (.iadd, 1) := by decide +kernel
theorem dX9_daysTo_147 : decode cX9_daysTo 147 = .ok (.iload_n 2, 1) := by decide +kernel
theorem dX9_daysTo_148 : decode cX9_daysTo 148 = .ok (.invokevirtual 60, 3) := by decide +kernel
theorem dX9_daysTo_151 : decode cX9_daysTo 151 = .ok (.invokestatic 63, 3) := by decide +kernel
theorem dX9_daysTo_154 : decode cX9_daysTo 154 = .ok (.iastore, 1) := by decide +kernel
theorem dX9_daysTo_155 : decode cX9_daysTo 155 = .ok (.iinc 4 (-1), 3) := by decide +kernel
theorem dX9_daysTo_158 : decode cX9_daysTo 158 = .ok (.goto (-38), 3) := by decide +kernel
theorem dX9_daysTo_161 : decode cX9_daysTo 161 = .ok (.iinc 3 (-1), 3) := by decide +kernel
theorem dX9_daysTo_164 : decode cX9_daysTo 164 = .ok (.goto (-162), 3) := by decide +kernel
theorem dX9_daysTo_167 : decode cX9_daysTo 167 = .ok (.aload_n 0, 1) := by decide +kernel
theorem dX9_daysTo_168 : decode cX9_daysTo 168 = .ok (.getfield 19, 3) := by decide +kernel
theorem dX9_daysTo_171 : decode cX9_daysTo 171 = .ok (.iload_n 1, 1) := by decide +kernel
theorem dX9_daysTo_172 : decode cX9_daysTo 172 = .ok (.iaload, 1) := by decide +kernel
theorem dX9_daysTo_173 : decode cX9_daysTo 173 = .ok (.ireturn, 1) := by decide +kernel
def yX9_priceAll : MethodName := ⟨RX9, "priceAll", "(LListenWells$World;LListenWells$Asker;I)V"⟩
abbrev cX9_priceAll : ByteArray := prog_11_method_7_code
theorem dX9_priceAll_0 : decode cX9_priceAll 0 = .ok (.iconst 0, 1) := by decide +kernel
theorem dX9_priceAll_1 : decode cX9_priceAll 1 = .ok (.istore 4, 2) := by decide +kernel
theorem dX9_priceAll_3 : decode cX9_priceAll 3 = .ok (.iload 4, 2) := by decide +kernel
theorem dX9_priceAll_5 : decode cX9_priceAll 5 = .ok (.aload_n 1, 1) := by decide +kernel
theorem dX9_priceAll_6 : decode cX9_priceAll 6 = .ok (.getfield 77, 3) := by decide +kernel
theorem fl_RX9_77 : Cond.fieldLink RX9 77 RX10 "crew" "LListenWells$Crew;" ∈ gW := gW_t 221 (by decide +kernel) rfl
theorem dX9_priceAll_9 : decode cX9_priceAll 9 = .ok (.getfield 83, 3) := by decide +kernel
theorem fl_RX9_83 : Cond.fieldLink RX9 83 RX1 "count" "I" ∈ gW := gW_t 131 (by decide +kernel) rfl
theorem dX9_priceAll_12 : decode cX9_priceAll 12 = .ok (.if_icmp .ge 96, 3) := by decide +kernel
theorem dX9_priceAll_15 : decode cX9_priceAll 15 = .ok (.aload_n 1, 1) := by decide +kernel
theorem dX9_priceAll_16 : decode cX9_priceAll 16 = .ok (.iload 4, 2) := by decide +kernel
theorem dX9_priceAll_18 : decode cX9_priceAll 18 = .ok (.invokevirtual 99, 3) := by decide +kernel
theorem lk_RX9_99 : Cond.methodLink RX9 99 yX10_mayBeDugOn ∈ gW := gW_t 1092 (by decide +kernel) rfl
theorem dX9_priceAll_21 : decode cX9_priceAll 21 = .ok (.istore 5, 2) := by decide +kernel
theorem dX9_priceAll_23 : decode cX9_priceAll 23 = .ok (.iload 5, 2) := by decide +kernel
theorem dX9_priceAll_25 : decode cX9_priceAll 25 = .ok (.ifCond .eq 18, 3) := by decide +kernel
theorem dX9_priceAll_43 : decode cX9_priceAll 43 = .ok (.iconst 0, 1) := by decide +kernel
theorem dX9_priceAll_44 : decode cX9_priceAll 44 = .ok (.istore 6, 2) := by decide +kernel
theorem dX9_priceAll_46 : decode cX9_priceAll 46 = .ok (.iload 6, 2) := by decide +kernel
theorem dX9_priceAll_48 : decode cX9_priceAll 48 = .ok (.iload_n 3, 1) := by decide +kernel
theorem dX9_priceAll_49 : decode cX9_priceAll 49 = .ok (.if_icmp .ge 53, 3) := by decide +kernel
theorem dX9_priceAll_52 : decode cX9_priceAll 52 = .ok (.aload_n 0, 1) := by decide +kernel
theorem dX9_priceAll_53 : decode cX9_priceAll 53 = .ok (.getfield 28, 3) := by decide +kernel
theorem dX9_priceAll_56 : decode cX9_priceAll 56 = .ok (.iload 4, 2) := by decide +kernel
theorem dX9_priceAll_58 : decode cX9_priceAll 58 = .ok (.bipush 6, 2) := by decide +kernel
theorem dX9_priceAll_60 : decode cX9_priceAll 60 = .ok (.imul, 1) := by decide +kernel
theorem dX9_priceAll_61 : decode cX9_priceAll 61 = .ok (.iload 6, 2) := by decide +kernel
theorem dX9_priceAll_63 : decode cX9_priceAll 63 = .ok (.iadd, 1) := by decide +kernel
theorem dX9_priceAll_64 : decode cX9_priceAll 64 = .ok (.iload 5, 2) := by decide +kernel
theorem dX9_priceAll_66 : decode cX9_priceAll 66 = .ok (.ifCond .eq 27, 3) := by decide +kernel
theorem dX9_priceAll_93 : decode cX9_priceAll 93 = .ok (.ldc 68, 2) := by decide +kernel
theorem dX9_priceAll_95 : decode cX9_priceAll 95 = .ok (.iastore, 1) := by decide +kernel
theorem dX9_priceAll_96 : decode cX9_priceAll 96 = .ok (.iinc 6 1, 3) := by decide +kernel
theorem dX9_priceAll_99 : decode cX9_priceAll 99 = .ok (.goto (-53), 3) := by decide +kernel
theorem dX9_priceAll_69 : decode cX9_priceAll 69 = .ok (.aload_n 0, 1) := by decide +kernel
theorem dX9_priceAll_70 : decode cX9_priceAll 70 = .ok (.aload_n 1, 1) := by decide +kernel
theorem dX9_priceAll_71 : decode cX9_priceAll 71 = .ok (.getfield 77, 3) := by decide +kernel
theorem dX9_priceAll_74 : decode cX9_priceAll 74 = .ok (.getfield 110, 3) := by decide +kernel
theorem fl_RX9_110 : Cond.fieldLink RX9 110 RX1 "cell" "[I" ∈ gW := gW_t 122 (by decide +kernel) rfl
theorem dX9_priceAll_77 : decode cX9_priceAll 77 = .ok (.iload 4, 2) := by decide +kernel
theorem dX9_priceAll_79 : decode cX9_priceAll 79 = .ok (.iaload, 1) := by decide +kernel
theorem dX9_priceAll_80 : decode cX9_priceAll 80 = .ok (.aload_n 0, 1) := by decide +kernel
theorem dX9_priceAll_81 : decode cX9_priceAll 81 = .ok (.getfield 25, 3) := by decide +kernel
theorem dX9_priceAll_84 : decode cX9_priceAll 84 = .ok (.iload 6, 2) := by decide +kernel
theorem dX9_priceAll_86 : decode cX9_priceAll 86 = .ok (.iaload, 1) := by decide +kernel
theorem dX9_priceAll_87 : decode cX9_priceAll 87 = .ok (.invokevirtual 113, 3) := by decide +kernel
theorem lk_RX9_113 : Cond.methodLink RX9 113 yX9_daysTo ∈ gW := gW_t 1094 (by decide +kernel) rfl
theorem mI_X9_daysTo : Cond.instanceMethod yX9_daysTo ∈ gW := gW_t 1060 (by decide +kernel) rfl
theorem mS_X9_daysTo : Cond.selects RX9 yX9_daysTo yX9_daysTo ∈ gW := gW_t 1061 (by decide +kernel) rfl
theorem mC_X9_daysTo : Cond.code yX9_daysTo cX9_daysTo 5 (some .int) ∈ gW := gW_t 1062 (by decide +kernel) rfl
theorem ok_X9_daysTo : okD yX9_daysTo 2 := ⟨by decide +kernel, by decide +kernel, by decide +kernel⟩
theorem dX9_priceAll_90 : decode cX9_priceAll 90 = .ok (.goto 5, 3) := by decide +kernel
theorem dX9_priceAll_102 : decode cX9_priceAll 102 = .ok (.iinc 4 1, 3) := by decide +kernel
theorem dX9_priceAll_105 : decode cX9_priceAll 105 = .ok (.goto (-102), 3) := by decide +kernel
theorem dX9_priceAll_28 : decode cX9_priceAll 28 = .ok (.iload_n 3, 1) := by decide +kernel
theorem dX9_priceAll_29 : decode cX9_priceAll 29 = .ok (.ifCond .le 14, 3) := by decide +kernel
theorem dX9_priceAll_32 : decode cX9_priceAll 32 = .ok (.aload_n 0, 1) := by decide +kernel
theorem dX9_priceAll_33 : decode cX9_priceAll 33 = .ok (.aload_n 1, 1) := by decide +kernel
theorem dX9_priceAll_34 : decode cX9_priceAll 34 = .ok (.getfield 102, 3) := by decide +kernel
theorem fl_RX9_102 : Cond.fieldLink RX9 102 RX10 "rock" "LListenWells$Rock;" ∈ gW := gW_t 217 (by decide +kernel) rfl
theorem dX9_priceAll_37 : decode cX9_priceAll 37 = .ok (.aload_n 2, 1) := by decide +kernel
theorem dX9_priceAll_38 : decode cX9_priceAll 38 = .ok (.iload 4, 2) := by decide +kernel
theorem dX9_priceAll_40 : decode cX9_priceAll 40 = .ok (.invokevirtual 106, 3) := by decide +kernel
theorem lk_RX9_106 : Cond.methodLink RX9 106 yX9_weigh ∈ gW := gW_t 1093 (by decide +kernel) rfl
theorem mI_X9_weigh : Cond.instanceMethod yX9_weigh ∈ gW := gW_t 1052 (by decide +kernel) rfl
theorem mS_X9_weigh : Cond.selects RX9 yX9_weigh yX9_weigh ∈ gW := gW_t 1053 (by decide +kernel) rfl
theorem mC_X9_weigh : Cond.code yX9_weigh cX9_weigh 6 none ∈ gW := gW_t 1054 (by decide +kernel) rfl
theorem ok_X9_weigh : okD yX9_weigh 3 := ⟨by decide +kernel, by decide +kernel, by decide +kernel⟩
theorem dX9_priceAll_108 : decode cX9_priceAll 108 = .ok (.return_, 1) := by decide +kernel
