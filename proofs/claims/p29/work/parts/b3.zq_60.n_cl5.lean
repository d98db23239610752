def yX9_weigh : MethodName := ⟨RX9, "weigh", "(LListenWells$Rock;LListenWells$Asker;I)V"⟩
abbrev cX9_weigh : ByteArray := prog_11_method_2_code
theorem dX9_weigh_0 : decode cX9_weigh 0 = .ok (.iconst 0, 1) := by decide +kernel
theorem dX9_weigh_1 : decode cX9_weigh 1 = .ok (.istore 4, 2) := by decide +kernel
theorem dX9_weigh_3 : decode cX9_weigh 3 = .ok (.iload 4, 2) := by decide +kernel
theorem dX9_weigh_5 : decode cX9_weigh 5 = .ok (.bipush 40, 2) := by decide +kernel
theorem dX9_weigh_7 : decode cX9_weigh 7 = .ok (.if_icmp .ge 71, 3) := by decide +kernel
theorem dX9_weigh_10 : decode cX9_weigh 10 = .ok (.aload_n 1, 1) := by decide +kernel
theorem dX9_weigh_11 : decode cX9_weigh 11 = .ok (.iload 4, 2) := by decide +kernel
theorem dX9_weigh_13 : decode cX9_weigh 13 = .ok (.invokevirtual 41, 3) := by decide +kernel
theorem lk_RX9_41 : Cond.methodLink RX9 41 yX6_isDug ∈ gW := gW_u tb_5 95 (by rfl) (by decide +kernel)
theorem dX9_weigh_16 : decode cX9_weigh 16 = .ok (.ifCond .ne 17, 3) := by decide +kernel
theorem dX9_weigh_33 : decode cX9_weigh 33 = .ok (.iconst 0, 1) := by decide +kernel
theorem dX9_weigh_19 : decode cX9_weigh 19 = .ok (.aload_n 2, 1) := by decide +kernel
theorem dX9_weigh_20 : decode cX9_weigh 20 = .ok (.iload_n 3, 1) := by decide +kernel
theorem dX9_weigh_21 : decode cX9_weigh 21 = .ok (.iload 4, 2) := by decide +kernel
theorem dX9_weigh_23 : decode cX9_weigh 23 = .ok (.invokevirtual 47, 3) := by decide +kernel
theorem lk_RX9_47 : Cond.methodLink RX9 47 yX0_passesOf ∈ gW := gW_u tb_5 96 (by rfl) (by decide +kernel)
theorem dX9_weigh_26 : decode cX9_weigh 26 = .ok (.ifCond .eq 7, 3) := by decide +kernel
theorem dX9_weigh_29 : decode cX9_weigh 29 = .ok (.iconst 1, 1) := by decide +kernel
theorem dX9_weigh_30 : decode cX9_weigh 30 = .ok (.goto 4, 3) := by decide +kernel
theorem dX9_weigh_34 : decode cX9_weigh 34 = .ok (.istore 5, 2) := by decide +kernel
theorem dX9_weigh_36 : decode cX9_weigh 36 = .ok (.aload_n 0, 1) := by decide +kernel
theorem dX9_weigh_37 : decode cX9_weigh 37 = .ok (.getfield 9, 3) := by decide +kernel
theorem dX9_weigh_40 : decode cX9_weigh 40 = .ok (.iload 4, 2) := by decide +kernel
theorem dX9_weigh_42 : decode cX9_weigh 42 = .ok (.iload 5, 2) := by decide +kernel
theorem dX9_weigh_44 : decode cX9_weigh 44 = .ok (.ifCond .eq 13, 3) := by decide +kernel
theorem dX9_weigh_57 : decode cX9_weigh 57 = .ok (.iconst 0, 1) := by decide +kernel
theorem dX9_weigh_47 : decode cX9_weigh 47 = .ok (.aload_n 2, 1) := by decide +kernel
theorem dX9_weigh_48 : decode cX9_weigh 48 = .ok (.iload_n 3, 1) := by decide +kernel
theorem dX9_weigh_49 : decode cX9_weigh 49 = .ok (.iload 4, 2) := by decide +kernel
theorem dX9_weigh_51 : decode cX9_weigh 51 = .ok (.invokevirtual 53, 3) := by decide +kernel
theorem lk_RX9_53 : Cond.methodLink RX9 53 yX0_digsOf ∈ gW := gW_u tb_5 97 (by rfl) (by decide +kernel)
theorem dX9_weigh_54 : decode cX9_weigh 54 = .ok (.goto 4, 3) := by decide +kernel
theorem dX9_weigh_58 : decode cX9_weigh 58 = .ok (.iastore, 1) := by decide +kernel
theorem dX9_weigh_59 : decode cX9_weigh 59 = .ok (.aload_n 0, 1) := by decide +kernel
theorem dX9_weigh_60 : decode cX9_weigh 60 = .ok (.getfield 15, 3) := by decide +kernel
theorem dX9_weigh_63 : decode cX9_weigh 63 = .ok (.iload 4, 2) := by decide +kernel
theorem dX9_weigh_65 : decode cX9_weigh 65 = .ok (.aload_n 1, 1) := by decide +kernel
theorem dX9_weigh_66 : decode cX9_weigh 66 = .ok (.iload 4, 2) := by decide +kernel
theorem dX9_weigh_68 : decode cX9_weigh 68 = .ok (.invokevirtual 57, 3) := by decide +kernel
theorem lk_RX9_57 : Cond.methodLink RX9 57 yX6_endsAWay ∈ gW := gW_u tb_5 98 (by rfl) (by decide +kernel)
theorem dX9_weigh_71 : decode cX9_weigh 71 = .ok (.bastore, 1) := by decide +kernel
theorem dX9_weigh_72 : decode cX9_weigh 72 = .ok (.iinc 4 1, 3) := by decide +kernel
theorem dX9_weigh_75 : decode cX9_weigh 75 = .ok (.goto (-72), 3) := by decide +kernel
theorem dX9_weigh_78 : decode cX9_weigh 78 = .ok (.return_, 1) := by decide +kernel
def yX9_daysTo : MethodName := ⟨RX9, "daysTo", "(II)I"⟩
abbrev cX9_daysTo : ByteArray := prog_11_method_3_code
theorem dX9_daysTo_0 : decode cX9_daysTo 0 = .ok (.iconst 4, 1) := by decide +kernel
theorem dX9_daysTo_1 : decode cX9_daysTo 1 = .ok (.istore_n 3, 1) := by decide +kernel
theorem dX9_daysTo_2 : decode cX9_daysTo 2 = .ok (.iload_n 3, 1) := by decide +kernel
theorem dX9_daysTo_3 : decode cX9_daysTo 3 = .ok (.ifCond .lt 164, 3) := by decide +kernel
theorem dX9_daysTo_6 : decode cX9_daysTo 6 = .ok (.iload_n 3, 1) := by decide +kernel
theorem dX9_daysTo_7 : decode cX9_daysTo 7 = .ok (.bipush 8, 2) := by decide +kernel
theorem dX9_daysTo_9 : decode cX9_daysTo 9 = .ok (.imul, 1) := by decide +kernel
theorem dX9_daysTo_10 : decode cX9_daysTo 10 = .ok (.istore 4, 2) := by decide +kernel
theorem dX9_daysTo_12 : decode cX9_daysTo 12 = .ok (.iload 4, 2) := by decide +kernel
theorem dX9_daysTo_14 : decode cX9_daysTo 14 = .ok (.iload_n 3, 1) := by decide +kernel
theorem dX9_daysTo_15 : decode cX9_daysTo 15 = .ok (.bipush 8, 2) := by decide +kernel
theorem dX9_daysTo_17 : decode cX9_daysTo 17 = .ok (.imul, 1) := by decide +kernel
theorem dX9_daysTo_18 : decode cX9_daysTo 18 = .ok (.bipush 8, 2) := by decide +kernel
theorem dX9_daysTo_20 : decode cX9_daysTo 20 = .ok (.iadd, 1) := by decide +kernel
theorem dX9_daysTo_21 : decode cX9_daysTo 21 = .ok (.if_icmp .ge 36, 3) := by decide +kernel
theorem dX9_daysTo_24 : decode cX9_daysTo 24 = .ok (.aload_n 0, 1) := by decide +kernel
theorem dX9_daysTo_25 : decode cX9_daysTo 25 = .ok (.getfield 19, 3) := by decide +kernel
theorem dX9_daysTo_28 : decode cX9_daysTo 28 = .ok (.iload 4, 2) := by decide +kernel
theorem dX9_daysTo_30 : decode cX9_daysTo 30 = .ok (.iload 4, 2) := by decide +kernel
theorem dX9_daysTo_32 : decode cX9_daysTo 32 = .ok (.iload_n 2, 1) := by decide +kernel
theorem dX9_daysTo_33 : decode cX9_daysTo 33 = .ok (.if_icmp .ne 7, 3) := by decide +kernel
theorem dX9_daysTo_40 : decode cX9_daysTo 40 = .ok (.aload_n 0, 1) := by decide +kernel
theorem dX9_daysTo_41 : decode cX9_daysTo 41 = .ok (.iload 4, 2) := by decide +kernel
theorem dX9_daysTo_43 : decode cX9_daysTo 43 = .ok (.bipush 8, 2) := by decide +kernel
theorem dX9_daysTo_45 : decode cX9_daysTo 45 = .ok (.iadd, 1) := by decide +kernel
theorem dX9_daysTo_46 : decode cX9_daysTo 46 = .ok (.iload_n 2, 1) := by decide +kernel
theorem dX9_daysTo_47 : decode cX9_daysTo 47 = .ok (.invokevirtual 60, 3) := by decide +kernel
theorem dX9_daysTo_50 : decode cX9_daysTo 50 = .ok (.iastore, 1) := by decide +kernel
theorem dX9_daysTo_51 : decode cX9_daysTo 51 = .ok (.iinc 4 1, 3) := by decide +kernel
theorem dX9_daysTo_54 : decode cX9_daysTo 54 = .ok (.goto (-42), 3) := by decide +kernel
theorem dX9_daysTo_36 : decode cX9_daysTo 36 = .ok (.iconst 0, 1) := by decide +kernel
theorem dX9_daysTo_37 : decode cX9_daysTo 37 = .ok (.goto 13, 3) := by decide +kernel
theorem dX9_daysTo_57 : decode cX9_daysTo 57 = .ok (.iload_n 3, 1) := by decide +kernel
theorem dX9_daysTo_58 : decode cX9_daysTo 58 = .ok (.bipush 8, 2) := by decide +kernel
theorem dX9_daysTo_60 : decode cX9_daysTo 60 = .ok (.imul, 1) := by decide +kernel
theorem dX9_daysTo_61 : decode cX9_daysTo 61 = .ok (.iconst 1, 1) := by decide +kernel
theorem dX9_daysTo_62 : decode cX9_daysTo 62 = .ok (.iadd, 1) := by decide +kernel
theorem dX9_daysTo_63 : decode cX9_daysTo 63 = .ok (.istore 4, 2) := by decide +kernel
theorem dX9_daysTo_65 : decode cX9_daysTo 65 = .ok (.iload 4, 2) := by decide +kernel
theorem dX9_daysTo_67 : decode cX9_daysTo 67 = .ok (.iload_n 3, 1) := by decide +kernel
theorem dX9_daysTo_68 : decode cX9_daysTo 68 = .ok (.bipush 8, 2) := by decide +kernel
theorem dX9_daysTo_70 : decode cX9_daysTo 70 = .ok (.imul, 1) := by decide +kernel
theorem dX9_daysTo_71 : decode cX9_daysTo 71 = .ok (.bipush 8, 2) := by decide +kernel
theorem dX9_daysTo_73 : decode cX9_daysTo 73 = .ok (.iadd, 1) := by decide +kernel
theorem dX9_daysTo_74 : decode cX9_daysTo 74 = .ok (.if_icmp .ge 35, 3) := by decide +kernel
theorem dX9_daysTo_77 : decode cX9_daysTo 77 = .ok (.aload_n 0, 1) := by decide +kernel
theorem dX9_daysTo_78 : decode cX9_daysTo 78 = .ok (.getfield 19, 3) := by decide +kernel
theorem dX9_daysTo_81 : decode cX9_daysTo 81 = .ok (.iload 4, 2) := by decide +kernel
theorem dX9_daysTo_83 : decode cX9_daysTo 83 = .ok (.aload_n 0, 1) := by decide +kernel
theorem dX9_daysTo_84 : decode cX9_daysTo 84 = .ok (.getfield 19, 3) := by decide +kernel
theorem dX9_daysTo_87 : decode cX9_daysTo 87 = .ok (.iload 4, 2) := by decide +kernel
theorem dX9_daysTo_89 : decode cX9_daysTo 89 = .ok (.iaload, 1) := by decide +kernel
theorem dX9_daysTo_90 : decode cX9_daysTo 90 = .ok (.aload_n 0, 1) := by decide +kernel
theorem dX9_daysTo_91 : decode cX9_daysTo 91 = .ok (.iload 4, 2) := by decide +kernel
theorem dX9_daysTo_93 : decode cX9_daysTo 93 = .ok (.iconst 1, 1) := by decide +kernel
theorem dX9_daysTo_94 : decode cX9_daysTo 94 = .ok (.isub, 1) := by decide +kernel
theorem dX9_daysTo_95 : decode cX9_daysTo 95 = .ok (.iload_n 2, 1) := by decide +kernel
theorem dX9_daysTo_96 : decode cX9_daysTo 96 = .ok (.invokevirtual 60, 3) := by decide +kernel
theorem dX9_daysTo_99 : decode cX9_daysTo 99 = .ok (.invokestatic 63, 3) := by decide +kernel
theorem dX9_daysTo_102 : decode cX9_daysTo 102 = .ok (.iastore, 1) := by decide +kernel
theorem dX9_daysTo_103 : decode cX9_daysTo 103 = .ok (.iinc 4 1, 3) := by decide +kernel
theorem dX9_daysTo_106 : decode cX9_daysTo 106 = .ok (.goto (-41), 3) := by decide +kernel
theorem dX9_daysTo_109 : decode cX9_daysTo 109 = .ok (.iload_n 3, 1) := by decide +kernel
theorem dX9_daysTo_110 : decode cX9_daysTo 110 = .ok (.bipush 8, 2) := by decide +kernel
theorem dX9_daysTo_112 : decode cX9_daysTo 112 = .ok (.imul, 1) := by decide +kernel
theorem dX9_daysTo_113 : decode cX9_daysTo 113 = .ok (.bipush 8, 2) := by decide +kernel
theorem dX9_daysTo_115 : decode cX9_daysTo 115 = .ok (.iadd, 1) := by decide +kernel
theorem dX9_daysTo_116 : decode cX9_daysTo 116 = .ok (.iconst 2, 1) := by decide +kernel
theorem dX9_daysTo_117 : decode cX9_daysTo 117 = .ok (.isub, 1) := by decide +kernel
theorem dX9_daysTo_118 : decode cX9_daysTo 118 = .ok (.istore 4, 2) := by decide +kernel
theorem dX9_daysTo_120 : decode cX9_daysTo 120 = .ok (.iload 4, 2) := by decide +kernel
theorem dX9_daysTo_122 : decode cX9_daysTo 122 = .ok (.iload_n 3, 1) := by decide +kernel
theorem dX9_daysTo_123 : decode cX9_daysTo 123 = .ok (.bipush 8, 2) := by decide +kernel
theorem dX9_daysTo_125 : decode cX9_daysTo 125 = .ok (.imul, 1) := by decide +kernel
theorem dX9_daysTo_126 : decode cX9_daysTo 126 = .ok (.if_icmp .lt 35, 3) := by decide +kernel
theorem dX9_daysTo_129 : decode cX9_daysTo 129 = .ok (.aload_n 0, 1) := by decide +kernel
theorem dX9_daysTo_130 : decode cX9_daysTo 130 = .ok (.getfield 19, 3) := by decide +kernel
theorem dX9_daysTo_133 : decode cX9_daysTo 133 = .ok (.iload 4, 2) := by decide +kernel
theorem dX9_daysTo_135 : decode cX9_daysTo 135 = .ok (.aload_n 0, 1) := by decide +kernel
theorem dX9_daysTo_136 : decode cX9_daysTo 136 = .ok (.getfield 19, 3) := by decide +kernel
theorem dX9_daysTo_139 : decode cX9_daysTo 139 = .ok (.iload 4, 2) := by decide +kernel
theorem dX9_daysTo_141 : decode cX9_daysTo 141 = .ok (.iaload, 1) := by decide +kernel
theorem dX9_daysTo_142 : decode cX9_daysTo 142 = .ok (.aload_n 0, 1) := by decide +kernel
theorem dX9_daysTo_143 : decode cX9_daysTo 143 = .ok (.iload 4, 2) := by decide +kernel
theorem dX9_daysTo_145 : decode cX9_daysTo 145 = .ok (.iconst 1, 1) := by decide +kernel
theorem dX9_daysTo_146 : decode cX9_daysTo 146 = .ok (.iadd, 1) := by decide +kernel
theorem dX9_daysTo_147 : decode cX9_daysTo 147 = .ok (.iload_n 2, 1) := by decide +kernel
theorem dX9_daysTo_148 : decode cX9_daysTo 148 = .ok (.invokevirtual 60, 3) := by decide +kernel
theorem dX9_daysTo_151 : decode cX9_daysTo 151 = .ok (.invokestatic 63, 3) := by decide +kernel
theorem dX9_daysTo_154 : decode cX9_daysTo 154 = .ok (.iastore, 1) := by decide +kernel
theorem dX9_daysTo_155 : decode cX9_daysTo 155 = .ok (.iinc 4 (-1), 3) := by decide +kernel
theorem dX9_daysTo_158 : decode cX9_daysTo 158 = .ok (.goto (-38), 3) := by decide +kernel
theorem dX9_daysTo_161 : decode cX9_daysTo 161 = .ok (.iinc 3 (-1), 3) := by decide +kernel
theorem dX9_daysTo_164 : decode cX9_daysTo 164 = .ok (.goto (-162), 3) := by decide +kernel
theorem dX9_daysTo_167 : decode cX9_daysTo 167 = .ok (.aload_n 0, 1) := by decide +kernel
theorem dX9_daysTo_168 : decode cX9_daysTo 168 = .ok (.getfield 19, 3) := by decide +kernel
theorem dX9_daysTo_171 : decode cX9_daysTo 171 = .ok (.iload_n 1, 1) := by decide +kernel
theorem dX9_daysTo_172 : decode cX9_daysTo 172 = .ok (.iaload, 1) := by decide +kernel
theorem dX9_daysTo_173 : decode cX9_daysTo 173 = .ok (.ireturn, 1) := by decide +kernel
def yX9_priceAll : MethodName := ⟨RX9, "priceAll", "(LListenWells$World;LListenWells$Asker;I)V"⟩
abbrev cX9_priceAll : ByteArray := prog_11_method_7_code
theorem dX9_priceAll_0 : decode cX9_priceAll 0 = .ok (.iconst 0, 1) := by decide +kernel
theorem dX9_priceAll_1 : decode cX9_priceAll 1 = .ok (.istore 4, 2) := by decide +kernel
theorem dX9_priceAll_3 : decode cX9_priceAll 3 = .ok (.iload 4, 2) := by decide +kernel
theorem dX9_priceAll_5 : decode cX9_priceAll 5 = .ok (.aload_n 1, 1) := by decide +kernel
theorem dX9_priceAll_6 : decode cX9_priceAll 6 = .ok (.getfield 77, 3) := by decide +kernel
theorem fl_RX9_77 : Cond.fieldLink RX9 77 RX10 "crew" "LListenWells$Crew;" ∈ gW := gW_u tb_1 221 (by rfl) (by decide +kernel)
theorem dX9_priceAll_9 : decode cX9_priceAll 9 = .ok (.getfield 83, 3) := by decide +kernel
theorem fl_RX9_83 : Cond.fieldLink RX9 83 RX1 "count" "I" ∈ gW := gW_u tb_1 131 (by rfl) (by decide +kernel)
theorem dX9_priceAll_12 : decode cX9_priceAll 12 = .ok (.if_icmp .ge 96, 3) := by decide +kernel
theorem dX9_priceAll_15 : decode cX9_priceAll 15 = .ok (.aload_n 1, 1) := by decide +kernel
theorem dX9_priceAll_16 : decode cX9_priceAll 16 = .ok (.iload 4, 2) := by decide +kernel
theorem dX9_priceAll_18 : decode cX9_priceAll 18 = .ok (.invokevirtual 99, 3) := by decide +kernel
theorem lk_RX9_99 : Cond.methodLink RX9 99 yX10_mayBeDugOn ∈ gW := gW_u tb_5 132 (by rfl) (by decide +kernel)
theorem dX9_priceAll_21 : decode cX9_priceAll 21 = .ok (.istore 5, 2) := by decide +kernel
theorem dX9_priceAll_23 : decode cX9_priceAll 23 = .ok (.iload 5, 2) := by decide +kernel
theorem dX9_priceAll_25 : decode cX9_priceAll 25 = .ok (.ifCond .eq 18, 3) := by decide +kernel
theorem dX9_priceAll_43 : decode cX9_priceAll 43 = .ok (.iconst 0, 1) := by decide +kernel
theorem dX9_priceAll_44 : decode cX9_priceAll 44 = .ok (.istore 6, 2) := by decide +kernel
theorem dX9_priceAll_46 : decode cX9_priceAll 46 = .ok (.iload 6, 2) := by decide +kernel
theorem dX9_priceAll_48 : decode cX9_priceAll 48 = .ok (.iload_n 3, 1) := by decide +kernel
theorem dX9_priceAll_49 : decode cX9_priceAll 49 = .ok (.if_icmp .ge 53, 3) := by decide +kernel
theorem dX9_priceAll_52 : decode cX9_priceAll 52 = .ok (.aload_n 0, 1) := by decide +kernel
theorem dX9_priceAll_53 : decode cX9_priceAll 53 = .ok (.getfield 28, 3) := by decide +kernel
theorem dX9_priceAll_56 : decode cX9_priceAll 56 = .ok (.iload 4, 2) := by decide +kernel
theorem dX9_priceAll_58 : decode cX9_priceAll 58 = .ok (.bipush 6, 2) := by decide +kernel
theorem dX9_priceAll_60 : decode cX9_priceAll 60 = .ok (.imul, 1) := by decide +kernel
theorem dX9_priceAll_61 : decode cX9_priceAll 61 = .ok (.iload 6, 2) := by decide +kernel
theorem dX9_priceAll_63 : decode cX9_priceAll 63 = .ok (.iadd, 1) := by decide +kernel
theorem dX9_priceAll_64 : decode cX9_priceAll 64 = .ok (.iload 5, 2) := by decide +kernel
theorem dX9_priceAll_66 : decode cX9_priceAll 66 = .ok (.ifCond .eq 27, 3) := by decide +kernel
theorem dX9_priceAll_93 : decode cX9_priceAll 93 = .ok (.ldc 68, 2) := by decide +kernel
theorem dX9_priceAll_95 : decode cX9_priceAll 95 = .ok (.iastore, 1) := by decide +kernel
theorem dX9_priceAll_96 : decode cX9_priceAll 96 = .ok (.iinc 6 1, 3) := by decide +kernel
theorem dX9_priceAll_99 : decode cX9_priceAll 99 = .ok (.goto (-53), 3) := by decide +kernel
theorem dX9_priceAll_69 : decode cX9_priceAll 69 = .ok (.aload_n 0, 1) := by decide +kernel
theorem dX9_priceAll_70 : decode cX9_priceAll 70 = .ok (.aload_n 1, 1) := by decide +kernel
theorem dX9_priceAll_71 : decode cX9_priceAll 71 = .ok (.getfield 77, 3) := by decide +kernel
theorem dX9_priceAll_74 : decode cX9_priceAll 74 = .ok (.getfield 110, 3) := by decide +kernel
theorem fl_RX9_110 : Cond.fieldLink RX9 110 RX1 "cell" "[I" ∈ gW := gW_u tb_1 122 (by rfl) (by decide +kernel)
theorem dX9_priceAll_77 : decode cX9_priceAll 77 = .ok (.iload 4, 2) := by decide +kernel
theorem dX9_priceAll_79 : decode cX9_priceAll 79 = .ok (.iaload, 1) := by decide +kernel
theorem dX9_priceAll_80 : decode cX9_priceAll 80 = .ok (.aload_n 0, 1) := by decide +kernel
theorem dX9_priceAll_81 : decode cX9_priceAll 81 = .ok (.getfield 25, 3) := by decide +kernel
theorem dX9_priceAll_84 : decode cX9_priceAll 84 = .ok (.iload 6, 2) := by decide +kernel
theorem dX9_priceAll_86 : decode cX9_priceAll 86 = .ok (.iaload, 1) := by decide +kernel
theorem dX9_priceAll_87 : decode cX9_priceAll 87 = .ok (.invokevirtual 113, 3) := by decide +kernel
theorem lk_RX9_113 : Cond.methodLink RX9 113 yX9_daysTo ∈ gW := gW_u tb_5 134 (by rfl) (by decide +kernel)
theorem mI_X9_daysTo : Cond.instanceMethod yX9_daysTo ∈ gW := gW_u tb_5 100 (by rfl) (by decide +kernel)
theorem mS_X9_daysTo : Cond.selects RX9 yX9_daysTo yX9_daysTo ∈ gW := gW_u tb_5 101 (by rfl) (by decide +kernel)
theorem mC_X9_daysTo : Cond.code yX9_daysTo cX9_daysTo 5 (some .int) ∈ gW := gW_u tb_5 102 (by rfl) (by decide +kernel)
theorem ok_X9_daysTo : okD yX9_daysTo 2 := ⟨by decide +kernel, by decide +kernel, by decide +kernel⟩
theorem dX9_priceAll_90 : decode cX9_priceAll 90 = .ok (.goto 5, 3) := by decide +kernel
theorem dX9_priceAll_102 : decode cX9_priceAll 102 = .ok (.iinc 4 1, 3) := by decide +kernel
theorem dX9_priceAll_105 : decode cX9_priceAll 105 = .ok (.goto (-102), 3) := by decide +kernel
theorem dX9_priceAll_28 : decode cX9_priceAll 28 = .ok (.iload_n 3, 1) := by decide +kernel
theorem dX9_priceAll_29 : decode cX9_priceAll 29 = .ok (.ifCond .le 14, 3) := by decide +kernel
theorem dX9_priceAll_32 : decode cX9_priceAll 32 = .ok (.aload_n 0, 1) := by decide +kernel
theorem dX9_priceAll_33 : decode cX9_priceAll 33 = .ok (.aload_n 1, 1) := by decide +kernel
theorem dX9_priceAll_34 : decode cX9_priceAll 34 = .ok (.getfield 102, 3) := by decide +kernel
theorem fl_RX9_102 : Cond.fieldLink RX9 102 RX10 "rock" "LListenWells$Rock;" ∈ gW := gW_u tb_1 217 (by rfl) (by decide +kernel)
theorem dX9_priceAll_37 : decode cX9_priceAll 37 = .ok (.aload_n 2, 1) := by decide +kernel
theorem dX9_priceAll_38 : decode cX9_priceAll 38 = .ok (.iload 4, 2) := by decide +kernel
theorem dX9_priceAll_40 : decode cX9_priceAll 40 = .ok (.invokevirtual 106, 3) := by decide +kernel
theorem lk_RX9_106 : Cond.methodLink RX9 106 yX9_weigh ∈ gW := gW_u tb_5 133 (by rfl) (by decide +kernel)
theorem mI_X9_weigh : Cond.instanceMethod yX9_weigh ∈ gW := gW_u tb_5 92 (by rfl) (by decide +kernel)
theorem mS_X9_weigh : Cond.selects RX9 yX9_weigh yX9_weigh ∈ gW := gW_u tb_5 93 (by rfl) (by decide +kernel)
theorem mC_X9_weigh : Cond.code yX9_weigh cX9_weigh 6 none ∈ gW := gW_u tb_5 94 (by rfl) (by decide +kernel)
theorem ok_X9_weigh : okD yX9_weigh 3 := ⟨by decide +kernel, by decide +kernel, by decide +kernel⟩
theorem dX9_priceAll_108 : decode cX9_priceAll 108 = .ok (.return_, 1) := by decide +kernel
def yX9_fewestFrom : MethodName := ⟨RX9, "fewestFrom", "(III)I"⟩
abbrev cX9_fewestFrom : ByteArray := prog_11_method_8_code
theorem dX9_fewestFrom_0 : decode cX9_fewestFrom 0 = .ok (.aload_n 0, 1) := by decide +kernel
theorem dX9_fewestFrom_1 : decode cX9_fewestFrom 1 = .ok (.getfield 31, 3) := by decide +kernel
theorem dX9_fewestFrom_4 : decode cX9_fewestFrom 4 = .ok (.iload_n 1, 1) := by decide +kernel
theorem dX9_fewestFrom_5 : decode cX9_fewestFrom 5 = .ok (.iconst 1, 1) := by decide +kernel
theorem dX9_fewestFrom_6 : decode cX9_fewestFrom 6 = .ok (.iadd, 1) := by decide +kernel
theorem dX9_fewestFrom_7 : decode cX9_fewestFrom 7 = .ok (.bipush 64, 2) := by decide +kernel
theorem dX9_fewestFrom_9 : decode cX9_fewestFrom 9 = .ok (.imul, 1) := by decide +kernel
theorem dX9_fewestFrom_10 : decode cX9_fewestFrom 10 = .ok (.iload_n 2, 1) := by decide +kernel
theorem dX9_fewestFrom_11 : decode cX9_fewestFrom 11 = .ok (.iadd, 1) := by decide +kernel
theorem dX9_fewestFrom_12 : decode cX9_fewestFrom 12 = .ok (.iaload, 1) := by decide +kernel
theorem dX9_fewestFrom_13 : decode cX9_fewestFrom 13 = .ok (.istore 4, 2) := by decide +kernel
theorem dX9_fewestFrom_15 : decode cX9_fewestFrom 15 = .ok (.iconst 0, 1) := by decide +kernel
theorem dX9_fewestFrom_16 : decode cX9_fewestFrom 16 = .ok (.istore 5, 2) := by decide +kernel
theorem dX9_fewestFrom_18 : decode cX9_fewestFrom 18 = .ok (.iload 5, 2) := by decide +kernel
theorem dX9_fewestFrom_20 : decode cX9_fewestFrom 20 = .ok (.iload_n 3, 1) := by decide +kernel
theorem dX9_fewestFrom_21 : decode cX9_fewestFrom 21 = .ok (.if_icmp .ge 33, 3) := by decide +kernel
theorem dX9_fewestFrom_24 : decode cX9_fewestFrom 24 = .ok (.iload_n 2, 1) := by decide +kernel
theorem dX9_fewestFrom_25 : decode cX9_fewestFrom 25 = .ok (.iload 5, 2) := by decide +kernel
theorem dX9_fewestFrom_27 : decode cX9_fewestFrom 27 = .ok (.ishr, 1) := by decide +kernel
theorem dX9_fewestFrom_28 : decode cX9_fewestFrom 28 = .ok (.iconst 1, 1) := by decide +kernel
theorem dX9_fewestFrom_29 : decode cX9_fewestFrom 29 = .ok (.iand, 1) := by decide +kernel
theorem dX9_fewestFrom_30 : decode cX9_fewestFrom 30 = .ok (.ifCond .eq 18, 3) := by decide +kernel
theorem dX9_fewestFrom_48 : decode cX9_fewestFrom 48 = .ok (.iinc 5 1, 3) := by decide +kernel
theorem dX9_fewestFrom_51 : decode cX9_fewestFrom 51 = .ok (.goto (-33), 3) := by decide +kernel
theorem dX9_fewestFrom_33 : decode cX9_fewestFrom 33 = .ok (.iload 4, 2) := by decide +kernel
theorem dX9_fewestFrom_35 : decode cX9_fewestFrom 35 = .ok (.aload_n 0, 1) := by decide +kernel
theorem dX9_fewestFrom_36 : decode cX9_fewestFrom 36 = .ok (.iload_n 1, 1) := by decide +kernel
theorem dX9_fewestFrom_37 : decode cX9_fewestFrom 37 = .ok (.iload_n 2, 1) := by decide +kernel
theorem dX9_fewestFrom_38 : decode cX9_fewestFrom 38 = .ok (.iload 5, 2) := by decide +kernel
theorem dX9_fewestFrom_40 : decode cX9_fewestFrom 40 = .ok (.invokevirtual 116, 3) := by decide +kernel
theorem dX9_fewestFrom_43 : decode cX9_fewestFrom 43 = .ok (.invokestatic 63, 3) := by decide +kernel
theorem dX9_fewestFrom_46 : decode cX9_fewestFrom 46 = .ok (.istore 4, 2) := by decide +kernel
theorem dX9_fewestFrom_54 : decode cX9_fewestFrom 54 = .ok (.iload 4, 2) := by decide +kernel
theorem dX9_fewestFrom_56 : decode cX9_fewestFrom 56 = .ok (.ireturn, 1) := by decide +kernel
def yX9_chanceIn : MethodName := ⟨RX9, "chanceIn", "(II)J"⟩
abbrev cX9_chanceIn : ByteArray := prog_11_method_11_code
theorem dX9_chanceIn_0 : decode cX9_chanceIn 0 = .ok (.aload_n 0, 1) := by decide +kernel
theorem dX9_chanceIn_1 : decode cX9_chanceIn 1 = .ok (.getfield 92, 3) := by decide +kernel
theorem fl_RX9_92 : Cond.fieldLink RX9 92 RX9 "days" "I" ∈ gW := gW_u tb_2 154 (by rfl) (by decide +kernel)
theorem dX9_chanceIn_4 : decode cX9_chanceIn 4 = .ok (.iload_n 1, 1) := by decide +kernel
theorem dX9_chanceIn_5 : decode cX9_chanceIn 5 = .ok (.if_icmp .gt 12, 3) := by decide +kernel
theorem dX9_chanceIn_17 : decode cX9_chanceIn 17 = .ok (.lconst 0, 1) := by decide +kernel
theorem dX9_chanceIn_18 : decode cX9_chanceIn 18 = .ok (.lreturn, 1) := by decide +kernel
theorem dX9_chanceIn_8 : decode cX9_chanceIn 8 = .ok (.iload_n 1, 1) := by decide +kernel
theorem dX9_chanceIn_9 : decode cX9_chanceIn 9 = .ok (.aload_n 0, 1) := by decide +kernel
theorem dX9_chanceIn_10 : decode cX9_chanceIn 10 = .ok (.getfield 37, 3) := by decide +kernel
theorem fl_RX9_37 : Cond.fieldLink RX9 37 RX9 "chance" "[J" ∈ gW := gW_u tb_2 161 (by rfl) (by decide +kernel)
theorem dX9_chanceIn_13 : decode cX9_chanceIn 13 = .ok (.arraylength, 1) := by decide +kernel
theorem dX9_chanceIn_14 : decode cX9_chanceIn 14 = .ok (.if_icmp .lt 5, 3) := by decide +kernel
theorem dX9_chanceIn_19 : decode cX9_chanceIn 19 = .ok (.aload_n 0, 1) := by decide +kernel
theorem dX9_chanceIn_20 : decode cX9_chanceIn 20 = .ok (.getfield 37, 3) := by decide +kernel
theorem dX9_chanceIn_23 : decode cX9_chanceIn 23 = .ok (.lconst 0, 1) := by decide +kernel
theorem dX9_chanceIn_24 : decode cX9_chanceIn 24 = .ok (.invokestatic 119, 3) := by decide +kernel
theorem lk_RX9_119 : Cond.methodLink RX9 119 yJ7_fill_d0a16 ∈ gW := gW_u tb_5 239 (by rfl) (by decide +kernel)
theorem mT_J7_fill_d0a16 : Cond.static yJ7_fill_d0a16 ∈ gW := gW_u tb_6 0 (by rfl) (by decide +kernel)
theorem mC_J7_fill_d0a16 : Cond.code yJ7_fill_d0a16 cJ7_fill_d0a16 5 none ∈ gW := gW_u tb_6 1 (by rfl) (by decide +kernel)
theorem ok_J7_fill_d0a16 : okD yJ7_fill_d0a16 2 := ⟨by decide +kernel, by decide +kernel, by decide +kernel⟩
theorem dX9_chanceIn_27 : decode cX9_chanceIn 27 = .ok (.aload_n 0, 1) := by decide +kernel
theorem dX9_chanceIn_28 : decode cX9_chanceIn 28 = .ok (.getfield 37, 3) := by decide +kernel
theorem dX9_chanceIn_31 : decode cX9_chanceIn 31 = .ok (.iconst 0, 1) := by decide +kernel
theorem dX9_chanceIn_32 : decode cX9_chanceIn 32 = .ok (.ldc2_w 125, 3) := by decide +kernel
theorem ct_RX9_125 : Cond.constantLong RX9 125 1000000000000 ∈ gW := gW_u tb_6 2 (by rfl) (by decide +kernel)
theorem dX9_chanceIn_35 : decode cX9_chanceIn 35 = .ok (.lastore, 1) := by decide +kernel
theorem dX9_chanceIn_36 : decode cX9_chanceIn 36 = .ok (.iconst 0, 1) := by decide +kernel
theorem dX9_chanceIn_37 : decode cX9_chanceIn 37 = .ok (.istore_n 3, 1) := by decide +kernel
theorem dX9_chanceIn_38 : decode cX9_chanceIn 38 = .ok (.iload_n 3, 1) := by decide +kernel
theorem dX9_chanceIn_39 : decode cX9_chanceIn 39 = .ok (.iload_n 1, 1) := by decide +kernel
theorem dX9_chanceIn_40 : decode cX9_chanceIn 40 = .ok (.if_icmp .ge 82, 3) := by decide +kernel
theorem dX9_chanceIn_43 : decode cX9_chanceIn 43 = .ok (.aload_n 0, 1) := by decide +kernel
theorem dX9_chanceIn_44 : decode cX9_chanceIn 44 = .ok (.getfield 92, 3) := by decide +kernel
theorem dX9_chanceIn_47 : decode cX9_chanceIn 47 = .ok (.iconst 1, 1) := by decide +kernel
theorem dX9_chanceIn_48 : decode cX9_chanceIn 48 = .ok (.isub, 1) := by decide +kernel
theorem dX9_chanceIn_49 : decode cX9_chanceIn 49 = .ok (.iload_n 3, 1) := by decide +kernel
theorem dX9_chanceIn_50 : decode cX9_chanceIn 50 = .ok (.invokestatic 63, 3) := by decide +kernel
theorem dX9_chanceIn_53 : decode cX9_chanceIn 53 = .ok (.istore 4, 2) := by decide +kernel
theorem dX9_chanceIn_55 : decode cX9_chanceIn 55 = .ok (.iload 4, 2) := by decide +kernel
theorem dX9_chanceIn_57 : decode cX9_chanceIn 57 = .ok (.ifCond .lt 59, 3) := by decide +kernel
theorem dX9_chanceIn_60 : decode cX9_chanceIn 60 = .ok (.aload_n 0, 1) := by decide +kernel
theorem dX9_chanceIn_61 : decode cX9_chanceIn 61 = .ok (.getfield 37, 3) := by decide +kernel
theorem dX9_chanceIn_64 : decode cX9_chanceIn 64 = .ok (.iload 4, 2) := by decide +kernel
theorem dX9_chanceIn_66 : decode cX9_chanceIn 66 = .ok (.iconst 1, 1) := by decide +kernel
theorem dX9_chanceIn_67 : decode cX9_chanceIn 67 = .ok (.iadd, 1) := by decide +kernel
theorem dX9_chanceIn_68 : decode cX9_chanceIn 68 = .ok (.dup2, 1) := by decide +kernel
theorem dX9_chanceIn_69 : decode cX9_chanceIn 69 = .ok (.laload, 1) := by decide +kernel
theorem dX9_chanceIn_70 : decode cX9_chanceIn 70 = .ok (.aload_n 0, 1) := by decide +kernel
theorem dX9_chanceIn_71 : decode cX9_chanceIn 71 = .ok (.getfield 37, 3) := by decide +kernel
theorem dX9_chanceIn_74 : decode cX9_chanceIn 74 = .ok (.iload 4, 2) := by decide +kernel
theorem dX9_chanceIn_76 : decode cX9_chanceIn 76 = .ok (.laload, 1) := by decide +kernel
theorem dX9_chanceIn_77 : decode cX9_chanceIn 77 = .ok (.bipush 10, 2) := by decide +kernel
theorem dX9_chanceIn_79 : decode cX9_chanceIn 79 = .ok (.iload_n 2, 1) := by decide +kernel
theorem dX9_chanceIn_80 : decode cX9_chanceIn 80 = .ok (.isub, 1) := by decide +kernel
theorem dX9_chanceIn_81 : decode cX9_chanceIn 81 = .ok (.i2l, 1) := by decide +kernel
theorem dX9_chanceIn_82 : decode cX9_chanceIn 82 = .ok (.lmul, 1) := by decide +kernel
theorem dX9_chanceIn_83 : decode cX9_chanceIn 83 = .ok (.ldc2_w 127, 3) := by decide +kernel
theorem ct_RX9_127 : Cond.constantLong RX9 127 10 ∈ gW := gW_u tb_6 3 (by rfl) (by decide +kernel)
theorem dX9_chanceIn_86 : decode cX9_chanceIn 86 = .ok (.ldiv, 1) := by decide +kernel
theorem dX9_chanceIn_87 : decode cX9_chanceIn 87 = .ok (.ladd, 1) := by decide +kernel
theorem dX9_chanceIn_88 : decode cX9_chanceIn 88 = .ok (.lastore, 1) := by decide +kernel
theorem dX9_chanceIn_89 : decode cX9_chanceIn 89 = .ok (.aload_n 0, 1) := by decide +kernel
theorem dX9_chanceIn_90 : decode cX9_chanceIn 90 = .ok (.getfield 37, 3) := by decide +kernel
theorem dX9_chanceIn_93 : decode cX9_chanceIn 93 = .ok (.iload 4, 2) := by decide +kernel
theorem dX9_chanceIn_95 : decode cX9_chanceIn 95 = .ok (.aload_n 0, 1) := by decide +kernel
theorem dX9_chanceIn_96 : decode cX9_chanceIn 96 = .ok (.getfield 37, 3) := by decide +kernel
theorem dX9_chanceIn_99 : decode cX9_chanceIn 99 = .ok (.iload 4, 2) := by decide +kernel
theorem dX9_chanceIn_101 : decode cX9_chanceIn 101 = .ok (.laload, 1) := by decide +kernel
theorem dX9_chanceIn_102 : decode cX9_chanceIn 102 = .ok (.iload_n 2, 1) := by decide +kernel
theorem dX9_chanceIn_103 : decode cX9_chanceIn 103 = .ok (.i2l, 1) := by decide +kernel
theorem dX9_chanceIn_104 : decode cX9_chanceIn 104 = .ok (.lmul, 1) := by decide +kernel
theorem dX9_chanceIn_105 : decode cX9_chanceIn 105 = .ok (.ldc2_w 127, 3) := by decide +kernel
theorem dX9_chanceIn_108 : decode cX9_chanceIn 108 = .ok (.ldiv, 1) := by decide +kernel
theorem dX9_chanceIn_109 : decode cX9_chanceIn 109 = .ok (.lastore, 1) := by decide +kernel
theorem dX9_chanceIn_110 : decode cX9_chanceIn 110 = .ok (.iinc 4 (-1), 3) := by decide +kernel
theorem dX9_chanceIn_113 : decode cX9_chanceIn 113 = .ok (.goto (-58), 3) := by decide +kernel
theorem dX9_chanceIn_116 : decode cX9_chanceIn 116 = .ok (.iinc 3 1, 3) := by decide +kernel
theorem dX9_chanceIn_119 : decode cX9_chanceIn 119 = .ok (.goto (-81), 3) := by decide +kernel
theorem dX9_chanceIn_122 : decode cX9_chanceIn 122 = .ok (.aload_n 0, 1) := by decide +kernel
theorem dX9_chanceIn_123 : decode cX9_chanceIn 123 = .ok (.getfield 37, 3) := by decide +kernel
theorem dX9_chanceIn_126 : decode cX9_chanceIn 126 = .ok (.aload_n 0, 1) := by decide +kernel
theorem dX9_chanceIn_127 : decode cX9_chanceIn 127 = .ok (.getfield 92, 3) := by decide +kernel
theorem dX9_chanceIn_130 : decode cX9_chanceIn 130 = .ok (.laload, 1) := by decide +kernel
theorem dX9_chanceIn_131 : decode cX9_chanceIn 131 = .ok (.lreturn, 1) := by decide +kernel
def yX11_at : MethodName := ⟨RX11, "at", "(II)I"⟩
abbrev cX11_at : ByteArray := prog_1_method_3_code
theorem dX11_at_0 : decode cX11_at 0 = .ok (.iload_n 1, 1) := by decide +kernel
theorem dX11_at_1 : decode cX11_at 1 = .ok (.bipush 40, 2) := by decide +kernel
theorem dX11_at_3 : decode cX11_at 3 = .ok (.invokestatic 82, 3) := by decide +kernel
theorem dX11_at_6 : decode cX11_at 6 = .ok (.ifCond .ne 5, 3) := by decide +kernel
theorem dX11_at_11 : decode cX11_at 11 = .ok (.aload_n 0, 1) := by decide +kernel
theorem dX11_at_12 : decode cX11_at 12 = .ok (.getfield 21, 3) := by decide +kernel
theorem dX11_at_15 : decode cX11_at 15 = .ok (.getfield 78, 3) := by decide +kernel
theorem dX11_at_18 : decode cX11_at 18 = .ok (.astore_n 3, 1) := by decide +kernel
theorem dX11_at_19 : decode cX11_at 19 = .ok (.aload_n 0, 1) := by decide +kernel
theorem dX11_at_20 : decode cX11_at 20 = .ok (.getfield 10, 3) := by decide +kernel
theorem fl_RX11_10 : Cond.fieldLink RX11 10 RX11 "asker" "LListenWells$Asker;" ∈ gW := gW_u tb_2 206 (by rfl) (by decide +kernel)
theorem dX11_at_23 : decode cX11_at 23 = .ok (.aload_n 3, 1) := by decide +kernel
theorem dX11_at_24 : decode cX11_at 24 = .ok (.aload_n 3, 1) := by decide +kernel
theorem dX11_at_25 : decode cX11_at 25 = .ok (.invokevirtual 116, 3) := by decide +kernel
theorem lk_RX11_116 : Cond.methodLink RX11 116 yX10_lawInForce ∈ gW := gW_u tb_3 39 (by rfl) (by decide +kernel)
theorem dX11_at_28 : decode cX11_at 28 = .ok (.invokevirtual 120, 3) := by decide +kernel
theorem lk_RX11_120 : Cond.methodLink RX11 120 yX0_turnTo ∈ gW := gW_u tb_3 47 (by rfl) (by decide +kernel)
theorem dX11_at_31 : decode cX11_at 31 = .ok (.iload_n 2, 1) := by decide +kernel
theorem dX11_at_32 : decode cX11_at 32 = .ok (.tableswitch 104 0 5 #[40, 40, 40, 51, 68, 86], 40) := by decide +kernel
theorem dX11_at_72 : decode cX11_at 72 = .ok (.aload_n 3, 1) := by decide +kernel
theorem dX11_at_73 : decode cX11_at 73 = .ok (.getfield 95, 3) := by decide +kernel
theorem dX11_at_76 : decode cX11_at 76 = .ok (.iload_n 2, 1) := by decide +kernel
theorem dX11_at_77 : decode cX11_at 77 = .ok (.invokevirtual 103, 3) := by decide +kernel
theorem dX11_at_80 : decode cX11_at 80 = .ok (.iload_n 1, 1) := by decide +kernel
theorem dX11_at_81 : decode cX11_at 81 = .ok (.iaload, 1) := by decide +kernel
theorem dX11_at_82 : decode cX11_at 82 = .ok (.ireturn, 1) := by decide +kernel
theorem dX11_at_83 : decode cX11_at 83 = .ok (.aload_n 3, 1) := by decide +kernel
theorem dX11_at_84 : decode cX11_at 84 = .ok (.getfield 95, 3) := by decide +kernel
theorem dX11_at_87 : decode cX11_at 87 = .ok (.iload_n 1, 1) := by decide +kernel
theorem dX11_at_88 : decode cX11_at 88 = .ok (.invokevirtual 99, 3) := by decide +kernel
theorem dX11_at_91 : decode cX11_at 91 = .ok (.ifCond .eq 7, 3) := by decide +kernel
theorem dX11_at_98 : decode cX11_at 98 = .ok (.iconst 0, 1) := by decide +kernel
theorem dX11_at_99 : decode cX11_at 99 = .ok (.ireturn, 1) := by decide +kernel
theorem dX11_at_94 : decode cX11_at 94 = .ok (.iconst 1, 1) := by decide +kernel
theorem dX11_at_95 : decode cX11_at 95 = .ok (.goto 4, 3) := by decide +kernel
theorem dX11_at_100 : decode cX11_at 100 = .ok (.aload_n 0, 1) := by decide +kernel
theorem dX11_at_101 : decode cX11_at 101 = .ok (.getfield 10, 3) := by decide +kernel
theorem dX11_at_104 : decode cX11_at 104 = .ok (.iload_n 1, 1) := by decide +kernel
theorem dX11_at_105 : decode cX11_at 105 = .ok (.aload_n 3, 1) := by decide +kernel
theorem dX11_at_106 : decode cX11_at 106 = .ok (.getfield 95, 3) := by decide +kernel
theorem dX11_at_109 : decode cX11_at 109 = .ok (.getfield 124, 3) := by decide +kernel
theorem dX11_at_112 : decode cX11_at 112 = .ok (.iload_n 1, 1) := by decide +kernel
theorem dX11_at_113 : decode cX11_at 113 = .ok (.iaload, 1) := by decide +kernel
theorem dX11_at_114 : decode cX11_at 114 = .ok (.invokevirtual 127, 3) := by decide +kernel
theorem lk_RX11_127 : Cond.methodLink RX11 127 yX0_saysOf ∈ gW := gW_u tb_3 51 (by rfl) (by decide +kernel)
theorem dX11_at_117 : decode cX11_at 117 = .ok (.ireturn, 1) := by decide +kernel
theorem dX11_at_118 : decode cX11_at 118 = .ok (.aload_n 0, 1) := by decide +kernel
theorem dX11_at_119 : decode cX11_at 119 = .ok (.getfield 10, 3) := by decide +kernel
theorem dX11_at_122 : decode cX11_at 122 = .ok (.iload_n 1, 1) := by decide +kernel
theorem dX11_at_123 : decode cX11_at 123 = .ok (.aload_n 3, 1) := by decide +kernel
theorem dX11_at_124 : decode cX11_at 124 = .ok (.getfield 95, 3) := by decide +kernel
theorem dX11_at_127 : decode cX11_at 127 = .ok (.getfield 124, 3) := by decide +kernel
theorem dX11_at_130 : decode cX11_at 130 = .ok (.iload_n 1, 1) := by decide +kernel
theorem dX11_at_131 : decode cX11_at 131 = .ok (.iaload, 1) := by decide +kernel
theorem dX11_at_132 : decode cX11_at 132 = .ok (.invokevirtual 131, 3) := by decide +kernel
theorem lk_RX11_131 : Cond.methodLink RX11 131 yX0_losesOf ∈ gW := gW_u tb_3 88 (by rfl) (by decide +kernel)
theorem dX11_at_135 : decode cX11_at 135 = .ok (.ireturn, 1) := by decide +kernel
theorem dX11_at_136 : decode cX11_at 136 = .ok (.iconst (-1), 1) := by decide +kernel
theorem dX11_at_137 : decode cX11_at 137 = .ok (.ireturn, 1) := by decide +kernel
theorem dX11_at_9 : decode cX11_at 9 = .ok (.iconst (-1), 1) := by decide +kernel
theorem dX11_at_10 : decode cX11_at 10 = .ok (.ireturn, 1) := by decide +kernel
def yX11_asks : MethodName := ⟨RX11, "asks", "(III)I"⟩
abbrev cX11_asks : ByteArray := prog_1_method_19_code
theorem dX11_asks_0 : decode cX11_asks 0 = .ok (.aload_n 0, 1) := by decide +kernel
theorem dX11_asks_1 : decode cX11_asks 1 = .ok (.getfield 21, 3) := by decide +kernel
theorem dX11_asks_4 : decode cX11_asks 4 = .ok (.getfield 78, 3) := by decide +kernel
theorem dX11_asks_7 : decode cX11_asks 7 = .ok (.astore 4, 2) := by decide +kernel
theorem dX11_asks_9 : decode cX11_asks 9 = .ok (.iload_n 1, 1) := by decide +kernel
theorem dX11_asks_10 : decode cX11_asks 10 = .ok (.aload 4, 2) := by decide +kernel
theorem dX11_asks_12 : decode cX11_asks 12 = .ok (.getfield 134, 3) := by decide +kernel
theorem dX11_asks_15 : decode cX11_asks 15 = .ok (.getfield 137, 3) := by decide +kernel
theorem dX11_asks_18 : decode cX11_asks 18 = .ok (.invokestatic 82, 3) := by decide +kernel
theorem dX11_asks_21 : decode cX11_asks 21 = .ok (.ifCond .eq 12, 3) := by decide +kernel
theorem dX11_asks_33 : decode cX11_asks 33 = .ok (.iconst (-1), 1) := by decide +kernel
theorem dX11_asks_34 : decode cX11_asks 34 = .ok (.ireturn, 1) := by decide +kernel
theorem dX11_asks_24 : decode cX11_asks 24 = .ok (.iload_n 2, 1) := by decide +kernel
theorem dX11_asks_25 : decode cX11_asks 25 = .ok (.bipush 40, 2) := by decide +kernel
theorem dX11_asks_27 : decode cX11_asks 27 = .ok (.invokestatic 82, 3) := by decide +kernel
theorem dX11_asks_30 : decode cX11_asks 30 = .ok (.ifCond .ne 5, 3) := by decide +kernel
theorem dX11_asks_35 : decode cX11_asks 35 = .ok (.aload_n 0, 1) := by decide +kernel
theorem dX11_asks_36 : decode cX11_asks 36 = .ok (.getfield 10, 3) := by decide +kernel
theorem dX11_asks_39 : decode cX11_asks 39 = .ok (.aload 4, 2) := by decide +kernel
theorem dX11_asks_41 : decode cX11_asks 41 = .ok (.aload 4, 2) := by decide +kernel
theorem dX11_asks_43 : decode cX11_asks 43 = .ok (.invokevirtual 116, 3) := by decide +kernel
theorem dX11_asks_46 : decode cX11_asks 46 = .ok (.invokevirtual 120, 3) := by decide +kernel
theorem dX11_asks_49 : decode cX11_asks 49 = .ok (.iload_n 3, 1) := by decide +kernel
theorem dX11_asks_50 : decode cX11_asks 50 = .ok (.tableswitch 64 0 2 #[26, 36, 54], 26) := by decide +kernel
theorem dX11_asks_76 : decode cX11_asks 76 = .ok (.aload_n 0, 1) := by decide +kernel
theorem dX11_asks_77 : decode cX11_asks 77 = .ok (.getfield 10, 3) := by decide +kernel
theorem dX11_asks_80 : decode cX11_asks 80 = .ok (.iload_n 1, 1) := by decide +kernel
theorem dX11_asks_81 : decode cX11_asks 81 = .ok (.iload_n 2, 1) := by decide +kernel
theorem dX11_asks_82 : decode cX11_asks 82 = .ok (.invokevirtual 252, 3) := by decide +kernel
theorem lk_RX11_252 : Cond.methodLink RX11 252 yX0_digsOf ∈ gW := gW_u tb_5 1 (by rfl) (by decide +kernel)
theorem dX11_asks_85 : decode cX11_asks 85 = .ok (.ireturn, 1) := by decide +kernel
theorem dX11_asks_86 : decode cX11_asks 86 = .ok (.aload_n 0, 1) := by decide +kernel
theorem dX11_asks_87 : decode cX11_asks 87 = .ok (.getfield 10, 3) := by decide +kernel
theorem dX11_asks_90 : decode cX11_asks 90 = .ok (.iload_n 1, 1) := by decide +kernel
theorem dX11_asks_91 : decode cX11_asks 91 = .ok (.iload_n 2, 1) := by decide +kernel
theorem dX11_asks_92 : decode cX11_asks 92 = .ok (.invokevirtual 255, 3) := by decide +kernel
theorem lk_RX11_255 : Cond.methodLink RX11 255 yX0_passesOf ∈ gW := gW_u tb_5 2 (by rfl) (by decide +kernel)
theorem dX11_asks_95 : decode cX11_asks 95 = .ok (.ifCond .eq 7, 3) := by decide +kernel
theorem dX11_asks_102 : decode cX11_asks 102 = .ok (.iconst 0, 1) := by decide +kernel
theorem dX11_asks_103 : decode cX11_asks 103 = .ok (.ireturn, 1) := by decide +kernel
theorem dX11_asks_98 : decode cX11_asks 98 = .ok (.iconst 1, 1) := by decide +kernel
theorem dX11_asks_99 : decode cX11_asks 99 = .ok (.goto 4, 3) := by decide +kernel
theorem dX11_asks_104 : decode cX11_asks 104 = .ok (.aload_n 0, 1) := by decide +kernel
theorem dX11_asks_105 : decode cX11_asks 105 = .ok (.getfield 10, 3) := by decide +kernel
theorem dX11_asks_108 : decode cX11_asks 108 = .ok (.iload_n 1, 1) := by decide +kernel
theorem dX11_asks_109 : decode cX11_asks 109 = .ok (.iload_n 2, 1) := by decide +kernel
theorem dX11_asks_110 : decode cX11_asks 110 = .ok (.invokevirtual 258, 3) := by decide +kernel
theorem lk_RX11_258 : Cond.methodLink RX11 258 yX0_givesOf ∈ gW := gW_u tb_5 3 (by rfl) (by decide +kernel)
theorem dX11_asks_113 : decode cX11_asks 113 = .ok (.ireturn, 1) := by decide +kernel
theorem dX11_asks_114 : decode cX11_asks 114 = .ok (.iconst (-1), 1) := by decide +kernel
theorem dX11_asks_115 : decode cX11_asks 115 = .ok (.ireturn, 1) := by decide +kernel
