def yX12_tells : MethodName := ⟨RX12, "tells", "(IIIIJ)J"⟩
abbrev cX12_tells : ByteArray := prog_14_method_72_code
theorem dX12_tells_0 : decode cX12_tells 0 = .ok (.aload_n 0, 1) := by decide +kernel
theorem dX12_tells_1 : decode cX12_tells 1 = .ok (.getfield 13, 3) := by decide +kernel
theorem dX12_tells_4 : decode cX12_tells 4 = .ok (.bipush 6, 2) := by decide +kernel
theorem dX12_tells_6 : decode cX12_tells 6 = .ok (.iaload, 1) := by decide +kernel
theorem dX12_tells_7 : decode cX12_tells 7 = .ok (.iconst (-1), 1) := by decide +kernel
theorem dX12_tells_8 : decode cX12_tells 8 = .ok (.if_icmp .ne 6, 3) := by decide +kernel
theorem dX12_tells_14 : decode cX12_tells 14 = .ok (.aload_n 0, 1) := by decide +kernel
theorem dX12_tells_15 : decode cX12_tells 15 = .ok (.sipush 250, 3) := by decide +kernel
theorem dX12_tells_18 : decode cX12_tells 18 = .ok (.sipush 900, 3) := by decide +kernel
theorem dX12_tells_21 : decode cX12_tells 21 = .ok (.aload_n 0, 1) := by decide +kernel
theorem dX12_tells_22 : decode cX12_tells 22 = .ok (.getfield 13, 3) := by decide +kernel
theorem dX12_tells_25 : decode cX12_tells 25 = .ok (.bipush 6, 2) := by decide +kernel
theorem dX12_tells_27 : decode cX12_tells 27 = .ok (.iaload, 1) := by decide +kernel
theorem dX12_tells_28 : decode cX12_tells 28 = .ok (.imul, 1) := by decide +kernel
theorem dX12_tells_29 : decode cX12_tells 29 = .ok (.iadd, 1) := by decide +kernel
theorem dX12_tells_30 : decode cX12_tells 30 = .ok (.putfield 411, 3) := by decide +kernel
theorem dX12_tells_33 : decode cX12_tells 33 = .ok (.aload_n 0, 1) := by decide +kernel
theorem dX12_tells_34 : decode cX12_tells 34 = .ok (.getfield 103, 3) := by decide +kernel
theorem dX12_tells_37 : decode cX12_tells 37 = .ok (.iconst 1, 1) := by decide +kernel
theorem dX12_tells_38 : decode cX12_tells 38 = .ok (.iload_n 2, 1) := by decide +kernel
theorem dX12_tells_39 : decode cX12_tells 39 = .ok (.i2l, 1) := by decide +kernel
theorem dX12_tells_40 : decode cX12_tells 40 = .ok (.lastore, 1) := by decide +kernel
theorem dX12_tells_41 : decode cX12_tells 41 = .ok (.aload_n 0, 1) := by decide +kernel
theorem dX12_tells_42 : decode cX12_tells 42 = .ok (.getfield 103, 3) := by decide +kernel
theorem dX12_tells_45 : decode cX12_tells 45 = .ok (.iconst 2, 1) := by decide +kernel
theorem dX12_tells_46 : decode cX12_tells 46 = .ok (.iload_n 2, 1) := by decide +kernel
theorem dX12_tells_47 : decode cX12_tells 47 = .ok (.bipush 8, 2) := by decide +kernel
theorem dX12_tells_49 : decode cX12_tells 49 = .ok (.irem, 1) := by decide +kernel
theorem dX12_tells_50 : decode cX12_tells 50 = .ok (.i2l, 1) := by decide +kernel
theorem dX12_tells_51 : decode cX12_tells 51 = .ok (.lastore, 1) := by decide +kernel
theorem dX12_tells_52 : decode cX12_tells 52 = .ok (.aload_n 0, 1) := by decide +kernel
theorem dX12_tells_53 : decode cX12_tells 53 = .ok (.getfield 103, 3) := by decide +kernel
theorem dX12_tells_56 : decode cX12_tells 56 = .ok (.iconst 3, 1) := by decide +kernel
theorem dX12_tells_57 : decode cX12_tells 57 = .ok (.iload_n 2, 1) := by decide +kernel
theorem dX12_tells_58 : decode cX12_tells 58 = .ok (.bipush 8, 2) := by decide +kernel
theorem dX12_tells_60 : decode cX12_tells 60 = .ok (.idiv, 1) := by decide +kernel
theorem dX12_tells_61 : decode cX12_tells 61 = .ok (.i2l, 1) := by decide +kernel
theorem dX12_tells_62 : decode cX12_tells 62 = .ok (.lastore, 1) := by decide +kernel
theorem dX12_tells_63 : decode cX12_tells 63 = .ok (.aload_n 0, 1) := by decide +kernel
theorem dX12_tells_64 : decode cX12_tells 64 = .ok (.getfield 103, 3) := by decide +kernel
theorem dX12_tells_67 : decode cX12_tells 67 = .ok (.iconst 4, 1) := by decide +kernel
theorem dX12_tells_68 : decode cX12_tells 68 = .ok (.iload_n 3, 1) := by decide +kernel
theorem dX12_tells_69 : decode cX12_tells 69 = .ok (.i2l, 1) := by decide +kernel
theorem dX12_tells_70 : decode cX12_tells 70 = .ok (.lastore, 1) := by decide +kernel
theorem dX12_tells_71 : decode cX12_tells 71 = .ok (.aload_n 0, 1) := by decide +kernel
theorem dX12_tells_72 : decode cX12_tells 72 = .ok (.getfield 103, 3) := by decide +kernel
theorem dX12_tells_75 : decode cX12_tells 75 = .ok (.iconst 5, 1) := by decide +kernel
theorem dX12_tells_76 : decode cX12_tells 76 = .ok (.aload_n 0, 1) := by decide +kernel
theorem dX12_tells_77 : decode cX12_tells 77 = .ok (.getfield 13, 3) := by decide +kernel
theorem dX12_tells_80 : decode cX12_tells 80 = .ok (.sipush 153, 3) := by decide +kernel
theorem dX12_tells_83 : decode cX12_tells 83 = .ok (.iload_n 2, 1) := by decide +kernel
theorem dX12_tells_84 : decode cX12_tells 84 = .ok (.iadd, 1) := by decide +kernel
theorem dX12_tells_85 : decode cX12_tells 85 = .ok (.iaload, 1) := by decide +kernel
theorem dX12_tells_86 : decode cX12_tells 86 = .ok (.i2l, 1) := by decide +kernel
theorem dX12_tells_87 : decode cX12_tells 87 = .ok (.lastore, 1) := by decide +kernel
theorem dX12_tells_88 : decode cX12_tells 88 = .ok (.aload_n 0, 1) := by decide +kernel
theorem dX12_tells_89 : decode cX12_tells 89 = .ok (.getfield 103, 3) := by decide +kernel
theorem dX12_tells_92 : decode cX12_tells 92 = .ok (.bipush 6, 2) := by decide +kernel
theorem dX12_tells_94 : decode cX12_tells 94 = .ok (.aload_n 0, 1) := by decide +kernel
theorem dX12_tells_95 : decode cX12_tells 95 = .ok (.getfield 13, 3) := by decide +kernel
theorem dX12_tells_98 : decode cX12_tells 98 = .ok (.bipush 73, 2) := by decide +kernel
theorem dX12_tells_100 : decode cX12_tells 100 = .ok (.iload_n 2, 1) := by decide +kernel
theorem dX12_tells_101 : decode cX12_tells 101 = .ok (.iadd, 1) := by decide +kernel
theorem dX12_tells_102 : decode cX12_tells 102 = .ok (.iaload, 1) := by decide +kernel
theorem dX12_tells_103 : decode cX12_tells 103 = .ok (.i2l, 1) := by decide +kernel
theorem dX12_tells_104 : decode cX12_tells 104 = .ok (.lastore, 1) := by decide +kernel
theorem dX12_tells_105 : decode cX12_tells 105 = .ok (.aload_n 0, 1) := by decide +kernel
theorem dX12_tells_106 : decode cX12_tells 106 = .ok (.getfield 103, 3) := by decide +kernel
theorem dX12_tells_109 : decode cX12_tells 109 = .ok (.bipush 7, 2) := by decide +kernel
theorem dX12_tells_111 : decode cX12_tells 111 = .ok (.iload 4, 2) := by decide +kernel
theorem dX12_tells_113 : decode cX12_tells 113 = .ok (.i2l, 1) := by decide +kernel
theorem dX12_tells_114 : decode cX12_tells 114 = .ok (.lastore, 1) := by decide +kernel
theorem dX12_tells_115 : decode cX12_tells 115 = .ok (.aload_n 0, 1) := by decide +kernel
theorem dX12_tells_116 : decode cX12_tells 116 = .ok (.getfield 103, 3) := by decide +kernel
theorem dX12_tells_119 : decode cX12_tells 119 = .ok (.bipush 8, 2) := by decide +kernel
theorem dX12_tells_121 : decode cX12_tells 121 = .ok (.aload_n 0, 1) := by decide +kernel
theorem dX12_tells_122 : decode cX12_tells 122 = .ok (.getfield 13, 3) := by decide +kernel
theorem dX12_tells_125 : decode cX12_tells 125 = .ok (.bipush 7, 2) := by decide +kernel
theorem dX12_tells_127 : decode cX12_tells 127 = .ok (.iaload, 1) := by decide +kernel
theorem dX12_tells_128 : decode cX12_tells 128 = .ok (.i2l, 1) := by decide +kernel
theorem dX12_tells_129 : decode cX12_tells 129 = .ok (.lastore, 1) := by decide +kernel
theorem dX12_tells_130 : decode cX12_tells 130 = .ok (.aload_n 0, 1) := by decide +kernel
theorem dX12_tells_131 : decode cX12_tells 131 = .ok (.getfield 103, 3) := by decide +kernel
theorem dX12_tells_134 : decode cX12_tells 134 = .ok (.bipush 9, 2) := by decide +kernel
theorem dX12_tells_136 : decode cX12_tells 136 = .ok (.aload_n 0, 1) := by decide +kernel
theorem dX12_tells_137 : decode cX12_tells 137 = .ok (.getfield 13, 3) := by decide +kernel
theorem dX12_tells_140 : decode cX12_tells 140 = .ok (.bipush 9, 2) := by decide +kernel
theorem dX12_tells_142 : decode cX12_tells 142 = .ok (.iaload, 1) := by decide +kernel
theorem dX12_tells_143 : decode cX12_tells 143 = .ok (.i2l, 1) := by decide +kernel
theorem dX12_tells_144 : decode cX12_tells 144 = .ok (.lastore, 1) := by decide +kernel
theorem dX12_tells_145 : decode cX12_tells 145 = .ok (.lload 5, 2) := by decide +kernel
theorem dX12_tells_147 : decode cX12_tells 147 = .ok (.lstore 7, 2) := by decide +kernel
theorem dX12_tells_149 : decode cX12_tells 149 = .ok (.iconst 0, 1) := by decide +kernel
theorem dX12_tells_150 : decode cX12_tells 150 = .ok (.istore 9, 2) := by decide +kernel
theorem dX12_tells_152 : decode cX12_tells 152 = .ok (.iload 9, 2) := by decide +kernel
theorem dX12_tells_154 : decode cX12_tells 154 = .ok (.aload_n 0, 1) := by decide +kernel
theorem dX12_tells_155 : decode cX12_tells 155 = .ok (.getfield 13, 3) := by decide +kernel
theorem dX12_tells_158 : decode cX12_tells 158 = .ok (.aload_n 0, 1) := by decide +kernel
theorem dX12_tells_159 : decode cX12_tells 159 = .ok (.getfield 411, 3) := by decide +kernel
theorem dX12_tells_162 : decode cX12_tells 162 = .ok (.iconst 1, 1) := by decide +kernel
theorem dX12_tells_163 : decode cX12_tells 163 = .ok (.iadd, 1) := by decide +kernel
theorem dX12_tells_164 : decode cX12_tells 164 = .ok (.iaload, 1) := by decide +kernel
theorem dX12_tells_165 : decode cX12_tells 165 = .ok (.if_icmp .ge 58, 3) := by decide +kernel
theorem dX12_tells_168 : decode cX12_tells 168 = .ok (.aload_n 0, 1) := by decide +kernel
theorem dX12_tells_169 : decode cX12_tells 169 = .ok (.getfield 411, 3) := by decide +kernel
theorem dX12_tells_172 : decode cX12_tells 172 = .ok (.iconst 2, 1) := by decide +kernel
theorem dX12_tells_173 : decode cX12_tells 173 = .ok (.iadd, 1) := by decide +kernel
theorem dX12_tells_174 : decode cX12_tells 174 = .ok (.bipush 8, 2) := by decide +kernel
theorem dX12_tells_176 : decode cX12_tells 176 = .ok (.iload 9, 2) := by decide +kernel
theorem dX12_tells_178 : decode cX12_tells 178 = .ok (.imul, 1) := by decide +kernel
theorem dX12_tells_179 : decode cX12_tells 179 = .ok (.iadd, 1) := by decide +kernel
theorem dX12_tells_180 : decode cX12_tells 180 = .ok (.istore 10, 2) := by decide +kernel
theorem dX12_tells_182 : decode cX12_tells 182 = .ok (.aload_n 0, 1) := by decide +kernel
theorem dX12_tells_183 : decode cX12_tells 183 = .ok (.getfield 13, 3) := by decide +kernel
theorem dX12_tells_186 : decode cX12_tells 186 = .ok (.iload 10, 2) := by decide +kernel
theorem dX12_tells_188 : decode cX12_tells 188 = .ok (.iaload, 1) := by decide +kernel
theorem dX12_tells_189 : decode cX12_tells 189 = .ok (.iload_n 1, 1) := by decide +kernel
theorem dX12_tells_190 : decode cX12_tells 190 = .ok (.if_icmp .ne 27, 3) := by decide +kernel
theorem dX12_tells_217 : decode cX12_tells 217 = .ok (.iinc 9 1, 3) := by decide +kernel
theorem dX12_tells_220 : decode cX12_tells 220 = .ok (.goto (-68), 3) := by decide +kernel
theorem dX12_tells_193 : decode cX12_tells 193 = .ok (.aload_n 0, 1) := by decide +kernel
theorem dX12_tells_194 : decode cX12_tells 194 = .ok (.iload 10, 2) := by decide +kernel
theorem dX12_tells_196 : decode cX12_tells 196 = .ok (.invokevirtual 431, 3) := by decide +kernel
theorem lk_RX12_431 : Cond.methodLink RX12 431 yX12_isSo ∈ gW := gW_u tb_7 72 (by rfl) (by decide +kernel)
theorem mI_X12_isSo : Cond.instanceMethod yX12_isSo ∈ gW := gW_u tb_7 74 (by rfl) (by decide +kernel)
theorem mS_X12_isSo : Cond.selects RX12 yX12_isSo yX12_isSo ∈ gW := gW_p (q := (yX12_isSo, 59)) 46 (by decide +kernel)
theorem mC_X12_isSo : Cond.code yX12_isSo cX12_isSo 2 (some .boolean) ∈ gW := gW_u tb_7 75 (by rfl) (by decide +kernel)
theorem ok_X12_isSo : okD yX12_isSo 1 := ⟨by decide +kernel, by decide +kernel, by decide +kernel⟩
theorem dX12_tells_199 : decode cX12_tells 199 = .ok (.ifCond .eq 18, 3) := by decide +kernel
theorem dX12_tells_202 : decode cX12_tells 202 = .ok (.iload_n 1, 1) := by decide +kernel
theorem dX12_tells_203 : decode cX12_tells 203 = .ok (.iconst 4, 1) := by decide +kernel
theorem dX12_tells_204 : decode cX12_tells 204 = .ok (.if_icmp .ne 7, 3) := by decide +kernel
theorem dX12_tells_211 : decode cX12_tells 211 = .ok (.aload_n 0, 1) := by decide +kernel
theorem dX12_tells_212 : decode cX12_tells 212 = .ok (.getfield 428, 3) := by decide +kernel
theorem dX12_tells_215 : decode cX12_tells 215 = .ok (.lstore 7, 2) := by decide +kernel
theorem dX12_tells_207 : decode cX12_tells 207 = .ok (.lconst 1, 1) := by decide +kernel
theorem dX12_tells_208 : decode cX12_tells 208 = .ok (.goto 7, 3) := by decide +kernel
theorem dX12_tells_223 : decode cX12_tells 223 = .ok (.lload 7, 2) := by decide +kernel
theorem dX12_tells_225 : decode cX12_tells 225 = .ok (.lreturn, 1) := by decide +kernel
theorem dX12_tells_11 : decode cX12_tells 11 = .ok (.lload 5, 2) := by decide +kernel
theorem dX12_tells_13 : decode cX12_tells 13 = .ok (.lreturn, 1) := by decide +kernel
def yX12_saysOf : MethodName := ⟨RX12, "saysOf", "(II)I"⟩
abbrev cX12_saysOf : ByteArray := prog_14_method_73_code
theorem dX12_saysOf_0 : decode cX12_saysOf 0 = .ok (.aload_n 0, 1) := by decide +kernel
theorem dX12_saysOf_1 : decode cX12_saysOf 1 = .ok (.iconst 0, 1) := by decide +kernel
theorem dX12_saysOf_2 : decode cX12_saysOf 2 = .ok (.iload_n 1, 1) := by decide +kernel
theorem dX12_saysOf_3 : decode cX12_saysOf 3 = .ok (.iload_n 2, 1) := by decide +kernel
theorem dX12_saysOf_4 : decode cX12_saysOf 4 = .ok (.iconst (-1), 1) := by decide +kernel
theorem dX12_saysOf_5 : decode cX12_saysOf 5 = .ok (.ldc2_w 233, 3) := by decide +kernel
theorem dX12_saysOf_8 : decode cX12_saysOf 8 = .ok (.invokevirtual 434, 3) := by decide +kernel
theorem lk_RX12_434 : Cond.methodLink RX12 434 yX12_tells ∈ gW := gW_u tb_7 68 (by rfl) (by decide +kernel)
theorem mI_X12_tells : Cond.instanceMethod yX12_tells ∈ gW := gW_u tb_7 70 (by rfl) (by decide +kernel)
theorem mS_X12_tells : Cond.selects RX12 yX12_tells yX12_tells ∈ gW := gW_p (q := (yX12_tells, 59)) 45 (by decide +kernel)
theorem mC_X12_tells : Cond.code yX12_tells cX12_tells 11 (some .long) ∈ gW := gW_u tb_7 71 (by rfl) (by decide +kernel)
theorem ok_X12_tells : okD yX12_tells 5 := ⟨by decide +kernel, by decide +kernel, by decide +kernel⟩
theorem dX12_saysOf_11 : decode cX12_saysOf 11 = .ok (.iconst 0, 1) := by decide +kernel
theorem dX12_saysOf_12 : decode cX12_saysOf 12 = .ok (.bipush 99, 2) := by decide +kernel
theorem dX12_saysOf_14 : decode cX12_saysOf 14 = .ok (.invokestatic 438, 3) := by decide +kernel
theorem lk_RX12_438 : Cond.methodLink RX12 438 yX12_within ∈ gW := gW_u tb_7 95 (by rfl) (by decide +kernel)
theorem mT_X12_within : Cond.static yX12_within ∈ gW := gW_u tb_7 96 (by rfl) (by decide +kernel)
theorem mC_X12_within : Cond.code yX12_within cX12_within 4 (some .int) ∈ gW := gW_u tb_7 97 (by rfl) (by decide +kernel)
theorem ok_X12_within : okD yX12_within 3 := ⟨by decide +kernel, by decide +kernel, by decide +kernel⟩
theorem dX12_saysOf_17 : decode cX12_saysOf 17 = .ok (.ireturn, 1) := by decide +kernel
def yX12_losesOf : MethodName := ⟨RX12, "losesOf", "(II)I"⟩
abbrev cX12_losesOf : ByteArray := prog_14_method_74_code
theorem dX12_losesOf_0 : decode cX12_losesOf 0 = .ok (.aload_n 0, 1) := by decide +kernel
theorem dX12_losesOf_1 : decode cX12_losesOf 1 = .ok (.iconst 1, 1) := by decide +kernel
theorem dX12_losesOf_2 : decode cX12_losesOf 2 = .ok (.iload_n 1, 1) := by decide +kernel
theorem dX12_losesOf_3 : decode cX12_losesOf 3 = .ok (.iload_n 2, 1) := by decide +kernel
theorem dX12_losesOf_4 : decode cX12_losesOf 4 = .ok (.iconst (-1), 1) := by decide +kernel
theorem dX12_losesOf_5 : decode cX12_losesOf 5 = .ok (.ldc2_w 442, 3) := by decide +kernel
theorem ct_RX12_442 : Cond.constantLong RX12 442 2 ∈ gW := gW_u tb_7 102 (by rfl) (by decide +kernel)
theorem dX12_losesOf_8 : decode cX12_losesOf 8 = .ok (.invokevirtual 434, 3) := by decide +kernel
theorem dX12_losesOf_11 : decode cX12_losesOf 11 = .ok (.iconst 0, 1) := by decide +kernel
theorem dX12_losesOf_12 : decode cX12_losesOf 12 = .ok (.bipush 9, 2) := by decide +kernel
theorem dX12_losesOf_14 : decode cX12_losesOf 14 = .ok (.invokestatic 438, 3) := by decide +kernel
theorem dX12_losesOf_17 : decode cX12_losesOf 17 = .ok (.ireturn, 1) := by decide +kernel
def yX12_at : MethodName := ⟨RX12, "at", "(II)I"⟩
abbrev cX12_at : ByteArray := prog_14_method_25_code
theorem dX12_at_0 : decode cX12_at 0 = .ok (.aload_n 0, 1) := by decide +kernel
theorem dX12_at_1 : decode cX12_at 1 = .ok (.iconst 0, 1) := by decide +kernel
theorem dX12_at_2 : decode cX12_at 2 = .ok (.putfield 156, 3) := by decide +kernel
theorem dX12_at_5 : decode cX12_at 5 = .ok (.iload_n 1, 1) := by decide +kernel
theorem dX12_at_6 : decode cX12_at 6 = .ok (.invokestatic 197, 3) := by decide +kernel
theorem dX12_at_9 : decode cX12_at 9 = .ok (.ifCond .ne 5, 3) := by decide +kernel
theorem dX12_at_14 : decode cX12_at 14 = .ok (.iload_n 2, 1) := by decide +kernel
theorem dX12_at_15 : decode cX12_at 15 = .ok (.tableswitch 89 0 5 #[37, 37, 37, 49, 59, 74], 37) := by decide +kernel
theorem dX12_at_52 : decode cX12_at 52 = .ok (.aload_n 0, 1) := by decide +kernel
theorem dX12_at_53 : decode cX12_at 53 = .ok (.getfield 13, 3) := by decide +kernel
theorem dX12_at_56 : decode cX12_at 56 = .ok (.iload_n 2, 1) := by decide +kernel
theorem dX12_at_57 : decode cX12_at 57 = .ok (.invokestatic 205, 3) := by decide +kernel
theorem dX12_at_60 : decode cX12_at 60 = .ok (.iload_n 1, 1) := by decide +kernel
theorem dX12_at_61 : decode cX12_at 61 = .ok (.iadd, 1) := by decide +kernel
theorem dX12_at_62 : decode cX12_at 62 = .ok (.iaload, 1) := by decide +kernel
theorem dX12_at_63 : decode cX12_at 63 = .ok (.ireturn, 1) := by decide +kernel
theorem dX12_at_64 : decode cX12_at 64 = .ok (.aload_n 0, 1) := by decide +kernel
theorem dX12_at_65 : decode cX12_at 65 = .ok (.getfield 13, 3) := by decide +kernel
theorem dX12_at_68 : decode cX12_at 68 = .ok (.bipush 33, 2) := by decide +kernel
theorem dX12_at_70 : decode cX12_at 70 = .ok (.iload_n 1, 1) := by decide +kernel
theorem dX12_at_71 : decode cX12_at 71 = .ok (.iadd, 1) := by decide +kernel
theorem dX12_at_72 : decode cX12_at 72 = .ok (.iaload, 1) := by decide +kernel
theorem dX12_at_73 : decode cX12_at 73 = .ok (.ireturn, 1) := by decide +kernel
theorem dX12_at_74 : decode cX12_at 74 = .ok (.aload_n 0, 1) := by decide +kernel
theorem dX12_at_75 : decode cX12_at 75 = .ok (.iload_n 1, 1) := by decide +kernel
theorem dX12_at_76 : decode cX12_at 76 = .ok (.aload_n 0, 1) := by decide +kernel
theorem dX12_at_77 : decode cX12_at 77 = .ok (.getfield 13, 3) := by decide +kernel
theorem dX12_at_80 : decode cX12_at 80 = .ok (.bipush 113, 2) := by decide +kernel
theorem dX12_at_82 : decode cX12_at 82 = .ok (.iload_n 1, 1) := by decide +kernel
theorem dX12_at_83 : decode cX12_at 83 = .ok (.iadd, 1) := by decide +kernel
theorem dX12_at_84 : decode cX12_at 84 = .ok (.iaload, 1) := by decide +kernel
theorem dX12_at_85 : decode cX12_at 85 = .ok (.invokevirtual 212, 3) := by decide +kernel
theorem lk_RX12_212 : Cond.methodLink RX12 212 yX12_saysOf ∈ gW := gW_u tb_7 63 (by rfl) (by decide +kernel)
theorem mI_X12_saysOf : Cond.instanceMethod yX12_saysOf ∈ gW := gW_u tb_7 65 (by rfl) (by decide +kernel)
theorem mS_X12_saysOf : Cond.selects RX12 yX12_saysOf yX12_saysOf ∈ gW := gW_p (q := (yX12_saysOf, 59)) 44 (by decide +kernel)
theorem mC_X12_saysOf : Cond.code yX12_saysOf cX12_saysOf 3 (some .int) ∈ gW := gW_u tb_7 66 (by rfl) (by decide +kernel)
theorem ok_X12_saysOf : okD yX12_saysOf 2 := ⟨by decide +kernel, by decide +kernel, by decide +kernel⟩
theorem dX12_at_88 : decode cX12_at 88 = .ok (.ireturn, 1) := by decide +kernel
theorem dX12_at_89 : decode cX12_at 89 = .ok (.aload_n 0, 1) := by decide +kernel
theorem dX12_at_90 : decode cX12_at 90 = .ok (.iload_n 1, 1) := by decide +kernel
theorem dX12_at_91 : decode cX12_at 91 = .ok (.aload_n 0, 1) := by decide +kernel
theorem dX12_at_92 : decode cX12_at 92 = .ok (.getfield 13, 3) := by decide +kernel
theorem dX12_at_95 : decode cX12_at 95 = .ok (.bipush 113, 2) := by decide +kernel
theorem dX12_at_97 : decode cX12_at 97 = .ok (.iload_n 1, 1) := by decide +kernel
theorem dX12_at_98 : decode cX12_at 98 = .ok (.iadd, 1) := by decide +kernel
theorem dX12_at_99 : decode cX12_at 99 = .ok (.iaload, 1) := by decide +kernel
theorem dX12_at_100 : decode cX12_at 100 = .ok (.invokevirtual 215, 3) := by decide +kernel
theorem lk_RX12_215 : Cond.methodLink RX12 215 yX12_losesOf ∈ gW := gW_u tb_7 98 (by rfl) (by decide +kernel)
theorem mI_X12_losesOf : Cond.instanceMethod yX12_losesOf ∈ gW := gW_u tb_7 100 (by rfl) (by decide +kernel)
theorem mS_X12_losesOf : Cond.selects RX12 yX12_losesOf yX12_losesOf ∈ gW := gW_p (q := (yX12_losesOf, 59)) 51 (by decide +kernel)
theorem mC_X12_losesOf : Cond.code yX12_losesOf cX12_losesOf 3 (some .int) ∈ gW := gW_u tb_7 101 (by rfl) (by decide +kernel)
theorem ok_X12_losesOf : okD yX12_losesOf 2 := ⟨by decide +kernel, by decide +kernel, by decide +kernel⟩
theorem dX12_at_103 : decode cX12_at 103 = .ok (.ireturn, 1) := by decide +kernel
theorem dX12_at_104 : decode cX12_at 104 = .ok (.iconst (-1), 1) := by decide +kernel
theorem dX12_at_105 : decode cX12_at 105 = .ok (.ireturn, 1) := by decide +kernel
theorem dX12_at_12 : decode cX12_at 12 = .ok (.iconst (-1), 1) := by decide +kernel
theorem dX12_at_13 : decode cX12_at 13 = .ok (.ireturn, 1) := by decide +kernel
def yX12_digsOf : MethodName := ⟨RX12, "digsOf", "(II)I"⟩
abbrev cX12_digsOf : ByteArray := prog_14_method_75_code
theorem dX12_digsOf_0 : decode cX12_digsOf 0 = .ok (.aload_n 0, 1) := by decide +kernel
theorem dX12_digsOf_1 : decode cX12_digsOf 1 = .ok (.iconst 2, 1) := by decide +kernel
theorem dX12_digsOf_2 : decode cX12_digsOf 2 = .ok (.iload_n 2, 1) := by decide +kernel
theorem dX12_digsOf_3 : decode cX12_digsOf 3 = .ok (.aload_n 0, 1) := by decide +kernel
theorem dX12_digsOf_4 : decode cX12_digsOf 4 = .ok (.getfield 13, 3) := by decide +kernel
theorem dX12_digsOf_7 : decode cX12_digsOf 7 = .ok (.bipush 113, 2) := by decide +kernel
theorem dX12_digsOf_9 : decode cX12_digsOf 9 = .ok (.iload_n 2, 1) := by decide +kernel
theorem dX12_digsOf_10 : decode cX12_digsOf 10 = .ok (.iadd, 1) := by decide +kernel
theorem dX12_digsOf_11 : decode cX12_digsOf 11 = .ok (.iaload, 1) := by decide +kernel
theorem dX12_digsOf_12 : decode cX12_digsOf 12 = .ok (.iload_n 1, 1) := by decide +kernel
theorem dX12_digsOf_13 : decode cX12_digsOf 13 = .ok (.aload_n 0, 1) := by decide +kernel
theorem dX12_digsOf_14 : decode cX12_digsOf 14 = .ok (.getfield 13, 3) := by decide +kernel
theorem dX12_digsOf_17 : decode cX12_digsOf 17 = .ok (.sipush 153, 3) := by decide +kernel
theorem dX12_digsOf_20 : decode cX12_digsOf 20 = .ok (.iload_n 2, 1) := by decide +kernel
theorem dX12_digsOf_21 : decode cX12_digsOf 21 = .ok (.iadd, 1) := by decide +kernel
theorem dX12_digsOf_22 : decode cX12_digsOf 22 = .ok (.iaload, 1) := by decide +kernel
theorem dX12_digsOf_23 : decode cX12_digsOf 23 = .ok (.i2l, 1) := by decide +kernel
theorem dX12_digsOf_24 : decode cX12_digsOf 24 = .ok (.invokevirtual 434, 3) := by decide +kernel
theorem dX12_digsOf_27 : decode cX12_digsOf 27 = .ok (.iconst 1, 1) := by decide +kernel
theorem dX12_digsOf_28 : decode cX12_digsOf 28 = .ok (.bipush 99, 2) := by decide +kernel
theorem dX12_digsOf_30 : decode cX12_digsOf 30 = .ok (.invokestatic 438, 3) := by decide +kernel
theorem dX12_digsOf_33 : decode cX12_digsOf 33 = .ok (.ireturn, 1) := by decide +kernel
def yX12_givesOf : MethodName := ⟨RX12, "givesOf", "(II)I"⟩
abbrev cX12_givesOf : ByteArray := prog_14_method_76_code
theorem dX12_givesOf_0 : decode cX12_givesOf 0 = .ok (.aload_n 0, 1) := by decide +kernel
theorem dX12_givesOf_1 : decode cX12_givesOf 1 = .ok (.iconst 3, 1) := by decide +kernel
theorem dX12_givesOf_2 : decode cX12_givesOf 2 = .ok (.iload_n 2, 1) := by decide +kernel
theorem dX12_givesOf_3 : decode cX12_givesOf 3 = .ok (.aload_n 0, 1) := by decide +kernel
theorem dX12_givesOf_4 : decode cX12_givesOf 4 = .ok (.getfield 13, 3) := by decide +kernel
theorem dX12_givesOf_7 : decode cX12_givesOf 7 = .ok (.bipush 113, 2) := by decide +kernel
theorem dX12_givesOf_9 : decode cX12_givesOf 9 = .ok (.iload_n 2, 1) := by decide +kernel
theorem dX12_givesOf_10 : decode cX12_givesOf 10 = .ok (.iadd, 1) := by decide +kernel
theorem dX12_givesOf_11 : decode cX12_givesOf 11 = .ok (.iaload, 1) := by decide +kernel
theorem dX12_givesOf_12 : decode cX12_givesOf 12 = .ok (.iload_n 1, 1) := by decide +kernel
theorem dX12_givesOf_13 : decode cX12_givesOf 13 = .ok (.ldc2_w 350, 3) := by decide +kernel
theorem dX12_givesOf_16 : decode cX12_givesOf 16 = .ok (.invokevirtual 434, 3) := by decide +kernel
theorem dX12_givesOf_19 : decode cX12_givesOf 19 = .ok (.iconst 0, 1) := by decide +kernel
theorem dX12_givesOf_20 : decode cX12_givesOf 20 = .ok (.bipush 99, 2) := by decide +kernel
theorem dX12_givesOf_22 : decode cX12_givesOf 22 = .ok (.invokestatic 438, 3) := by decide +kernel
theorem dX12_givesOf_25 : decode cX12_givesOf 25 = .ok (.istore_n 3, 1) := by decide +kernel
theorem dX12_givesOf_26 : decode cX12_givesOf 26 = .ok (.iload_n 3, 1) := by decide +kernel
theorem dX12_givesOf_27 : decode cX12_givesOf 27 = .ok (.aload_n 0, 1) := by decide +kernel
theorem dX12_givesOf_28 : decode cX12_givesOf 28 = .ok (.getfield 13, 3) := by decide +kernel
theorem dX12_givesOf_31 : decode cX12_givesOf 31 = .ok (.bipush 73, 2) := by decide +kernel
theorem dX12_givesOf_33 : decode cX12_givesOf 33 = .ok (.iload_n 2, 1) := by decide +kernel
theorem dX12_givesOf_34 : decode cX12_givesOf 34 = .ok (.iadd, 1) := by decide +kernel
theorem dX12_givesOf_35 : decode cX12_givesOf 35 = .ok (.iaload, 1) := by decide +kernel
theorem dX12_givesOf_36 : decode cX12_givesOf 36 = .ok (.if_icmp .ge 7, 3) := by decide +kernel
theorem dX12_givesOf_43 : decode cX12_givesOf 43 = .ok (.aload_n 0, 1) := by decide +kernel
theorem dX12_givesOf_44 : decode cX12_givesOf 44 = .ok (.getfield 13, 3) := by decide +kernel
theorem dX12_givesOf_47 : decode cX12_givesOf 47 = .ok (.bipush 73, 2) := by decide +kernel
theorem dX12_givesOf_49 : decode cX12_givesOf 49 = .ok (.iload_n 2, 1) := by decide +kernel
theorem dX12_givesOf_50 : decode cX12_givesOf 50 = .ok (.iadd, 1) := by decide +kernel
theorem dX12_givesOf_51 : decode cX12_givesOf 51 = .ok (.iaload, 1) := by decide +kernel
theorem dX12_givesOf_52 : decode cX12_givesOf 52 = .ok (.ireturn, 1) := by decide +kernel
theorem dX12_givesOf_39 : decode cX12_givesOf 39 = .ok (.iload_n 3, 1) := by decide +kernel
theorem dX12_givesOf_40 : decode cX12_givesOf 40 = .ok (.goto 12, 3) := by decide +kernel
def yX12_isPassed : MethodName := ⟨RX12, "isPassed", "(II)Z"⟩
abbrev cX12_isPassed : ByteArray := prog_14_method_77_code
theorem dX12_isPassed_0 : decode cX12_isPassed 0 = .ok (.aload_n 0, 1) := by decide +kernel
theorem dX12_isPassed_1 : decode cX12_isPassed 1 = .ok (.getfield 13, 3) := by decide +kernel
theorem dX12_isPassed_4 : decode cX12_isPassed 4 = .ok (.bipush 113, 2) := by decide +kernel
theorem dX12_isPassed_6 : decode cX12_isPassed 6 = .ok (.iload_n 2, 1) := by decide +kernel
theorem dX12_isPassed_7 : decode cX12_isPassed 7 = .ok (.iadd, 1) := by decide +kernel
theorem dX12_isPassed_8 : decode cX12_isPassed 8 = .ok (.iaload, 1) := by decide +kernel
theorem dX12_isPassed_9 : decode cX12_isPassed 9 = .ok (.iconst 1, 1) := by decide +kernel
theorem dX12_isPassed_10 : decode cX12_isPassed 10 = .ok (.if_icmp .ne 17, 3) := by decide +kernel
theorem dX12_isPassed_27 : decode cX12_isPassed 27 = .ok (.iconst 1, 1) := by decide +kernel
theorem dX12_isPassed_28 : decode cX12_isPassed 28 = .ok (.goto 4, 3) := by decide +kernel
theorem dX12_isPassed_32 : decode cX12_isPassed 32 = .ok (.ireturn, 1) := by decide +kernel
theorem dX12_isPassed_13 : decode cX12_isPassed 13 = .ok (.aload_n 0, 1) := by decide +kernel
theorem dX12_isPassed_14 : decode cX12_isPassed 14 = .ok (.iconst 4, 1) := by decide +kernel
theorem dX12_isPassed_15 : decode cX12_isPassed 15 = .ok (.iload_n 2, 1) := by decide +kernel
theorem dX12_isPassed_16 : decode cX12_isPassed 16 = .ok (.iconst 1, 1) := by decide +kernel
theorem dX12_isPassed_17 : decode cX12_isPassed 17 = .ok (.iload_n 1, 1) := by decide +kernel
theorem dX12_isPassed_18 : decode cX12_isPassed 18 = .ok (.lconst 0, 1) := by decide +kernel
theorem dX12_isPassed_19 : decode cX12_isPassed 19 = .ok (.invokevirtual 434, 3) := by decide +kernel
theorem dX12_isPassed_22 : decode cX12_isPassed 22 = .ok (.lconst 1, 1) := by decide +kernel
theorem dX12_isPassed_23 : decode cX12_isPassed 23 = .ok (.lcmp, 1) := by decide +kernel
theorem dX12_isPassed_24 : decode cX12_isPassed 24 = .ok (.ifCond .ne 7, 3) := by decide +kernel
theorem dX12_isPassed_31 : decode cX12_isPassed 31 = .ok (.iconst 0, 1) := by decide +kernel
def yX12_asks : MethodName := ⟨RX12, "asks", "(III)I"⟩
abbrev cX12_asks : ByteArray := prog_14_method_78_code
theorem dX12_asks_0 : decode cX12_asks 0 = .ok (.aload_n 0, 1) := by decide +kernel
theorem dX12_asks_1 : decode cX12_asks 1 = .ok (.iconst 0, 1) := by decide +kernel
theorem dX12_asks_2 : decode cX12_asks 2 = .ok (.putfield 156, 3) := by decide +kernel
theorem dX12_asks_5 : decode cX12_asks 5 = .ok (.aload_n 0, 1) := by decide +kernel
theorem dX12_asks_6 : decode cX12_asks 6 = .ok (.iload_n 1, 1) := by decide +kernel
theorem dX12_asks_7 : decode cX12_asks 7 = .ok (.invokevirtual 221, 3) := by decide +kernel
theorem dX12_asks_10 : decode cX12_asks 10 = .ok (.ifCond .eq 22, 3) := by decide +kernel
theorem dX12_asks_32 : decode cX12_asks 32 = .ok (.iconst (-1), 1) := by decide +kernel
theorem dX12_asks_33 : decode cX12_asks 33 = .ok (.ireturn, 1) := by decide +kernel
theorem dX12_asks_13 : decode cX12_asks 13 = .ok (.iload_n 2, 1) := by decide +kernel
theorem dX12_asks_14 : decode cX12_asks 14 = .ok (.invokestatic 197, 3) := by decide +kernel
theorem dX12_asks_17 : decode cX12_asks 17 = .ok (.ifCond .eq 15, 3) := by decide +kernel
theorem dX12_asks_20 : decode cX12_asks 20 = .ok (.iload_n 3, 1) := by decide +kernel
theorem dX12_asks_21 : decode cX12_asks 21 = .ok (.i2l, 1) := by decide +kernel
theorem dX12_asks_22 : decode cX12_asks 22 = .ok (.lconst 0, 1) := by decide +kernel
theorem dX12_asks_23 : decode cX12_asks 23 = .ok (.ldc2_w 442, 3) := by decide +kernel
theorem dX12_asks_26 : decode cX12_asks 26 = .ok (.invokestatic 180, 3) := by decide +kernel
theorem dX12_asks_29 : decode cX12_asks 29 = .ok (.ifCond .ne 5, 3) := by decide +kernel
theorem dX12_asks_34 : decode cX12_asks 34 = .ok (.iload_n 3, 1) := by decide +kernel
theorem dX12_asks_35 : decode cX12_asks 35 = .ok (.ifCond .ne 12, 3) := by decide +kernel
theorem dX12_asks_47 : decode cX12_asks 47 = .ok (.iload_n 3, 1) := by decide +kernel
theorem dX12_asks_48 : decode cX12_asks 48 = .ok (.iconst 1, 1) := by decide +kernel
theorem dX12_asks_49 : decode cX12_asks 49 = .ok (.if_icmp .ne 20, 3) := by decide +kernel
theorem dX12_asks_69 : decode cX12_asks 69 = .ok (.aload_n 0, 1) := by decide +kernel
theorem dX12_asks_70 : decode cX12_asks 70 = .ok (.iload_n 1, 1) := by decide +kernel
theorem dX12_asks_71 : decode cX12_asks 71 = .ok (.iload_n 2, 1) := by decide +kernel
theorem dX12_asks_72 : decode cX12_asks 72 = .ok (.invokevirtual 450, 3) := by decide +kernel
theorem lk_RX12_450 : Cond.methodLink RX12 450 yX12_givesOf ∈ gW := gW_u tb_8 93 (by rfl) (by decide +kernel)
theorem mI_X12_givesOf : Cond.instanceMethod yX12_givesOf ∈ gW := gW_u tb_8 95 (by rfl) (by decide +kernel)
theorem mS_X12_givesOf : Cond.selects RX12 yX12_givesOf yX12_givesOf ∈ gW := gW_p (q := (yX12_givesOf, 59)) 86 (by decide +kernel)
theorem mC_X12_givesOf : Cond.code yX12_givesOf cX12_givesOf 4 (some .int) ∈ gW := gW_u tb_8 96 (by rfl) (by decide +kernel)
theorem ok_X12_givesOf : okD yX12_givesOf 2 := ⟨by decide +kernel, by decide +kernel, by decide +kernel⟩
theorem dX12_asks_75 : decode cX12_asks 75 = .ok (.ireturn, 1) := by decide +kernel
theorem dX12_asks_52 : decode cX12_asks 52 = .ok (.aload_n 0, 1) := by decide +kernel
theorem dX12_asks_53 : decode cX12_asks 53 = .ok (.iload_n 1, 1) := by decide +kernel
theorem dX12_asks_54 : decode cX12_asks 54 = .ok (.iload_n 2, 1) := by decide +kernel
theorem dX12_asks_55 : decode cX12_asks 55 = .ok (.invokevirtual 447, 3) := by decide +kernel
theorem lk_RX12_447 : Cond.methodLink RX12 447 yX12_isPassed ∈ gW := gW_u tb_8 89 (by rfl) (by decide +kernel)
theorem mI_X12_isPassed : Cond.instanceMethod yX12_isPassed ∈ gW := gW_u tb_8 91 (by rfl) (by decide +kernel)
theorem mS_X12_isPassed : Cond.selects RX12 yX12_isPassed yX12_isPassed ∈ gW := gW_p (q := (yX12_isPassed, 59)) 85 (by decide +kernel)
theorem mC_X12_isPassed : Cond.code yX12_isPassed cX12_isPassed 3 (some .boolean) ∈ gW := gW_u tb_8 92 (by rfl) (by decide +kernel)
theorem ok_X12_isPassed : okD yX12_isPassed 2 := ⟨by decide +kernel, by decide +kernel, by decide +kernel⟩
theorem dX12_asks_58 : decode cX12_asks 58 = .ok (.ifCond .eq 7, 3) := by decide +kernel
theorem dX12_asks_65 : decode cX12_asks 65 = .ok (.iconst 0, 1) := by decide +kernel
theorem dX12_asks_66 : decode cX12_asks 66 = .ok (.goto 9, 3) := by decide +kernel
theorem dX12_asks_61 : decode cX12_asks 61 = .ok (.iconst 1, 1) := by decide +kernel
theorem dX12_asks_62 : decode cX12_asks 62 = .ok (.goto 13, 3) := by decide +kernel
theorem dX12_asks_38 : decode cX12_asks 38 = .ok (.aload_n 0, 1) := by decide +kernel
theorem dX12_asks_39 : decode cX12_asks 39 = .ok (.iload_n 1, 1) := by decide +kernel
theorem dX12_asks_40 : decode cX12_asks 40 = .ok (.iload_n 2, 1) := by decide +kernel
theorem dX12_asks_41 : decode cX12_asks 41 = .ok (.invokevirtual 444, 3) := by decide +kernel
theorem lk_RX12_444 : Cond.methodLink RX12 444 yX12_digsOf ∈ gW := gW_u tb_8 85 (by rfl) (by decide +kernel)
theorem mI_X12_digsOf : Cond.instanceMethod yX12_digsOf ∈ gW := gW_u tb_8 87 (by rfl) (by decide +kernel)
theorem mS_X12_digsOf : Cond.selects RX12 yX12_digsOf yX12_digsOf ∈ gW := gW_p (q := (yX12_digsOf, 59)) 84 (by decide +kernel)
theorem mC_X12_digsOf : Cond.code yX12_digsOf cX12_digsOf 3 (some .int) ∈ gW := gW_u tb_8 88 (by rfl) (by decide +kernel)
theorem ok_X12_digsOf : okD yX12_digsOf 2 := ⟨by decide +kernel, by decide +kernel, by decide +kernel⟩
theorem dX12_asks_44 : decode cX12_asks 44 = .ok (.goto 31, 3) := by decide +kernel
def yX12_loudAs : MethodName := ⟨RX12, "loudAs", "(III)I"⟩
abbrev cX12_loudAs : ByteArray := prog_14_method_79_code
theorem dX12_loudAs_0 : decode cX12_loudAs 0 = .ok (.iload_n 1, 1) := by decide +kernel
theorem dX12_loudAs_1 : decode cX12_loudAs 1 = .ok (.bipush 8, 2) := by decide +kernel
theorem dX12_loudAs_3 : decode cX12_loudAs 3 = .ok (.irem, 1) := by decide +kernel
theorem dX12_loudAs_4 : decode cX12_loudAs 4 = .ok (.iload_n 3, 1) := by decide +kernel
theorem dX12_loudAs_5 : decode cX12_loudAs 5 = .ok (.invokestatic 453, 3) := by decide +kernel
theorem lk_RX12_453 : Cond.methodLink RX12 453 yX12_apart ∈ gW := gW_u tb_7 137 (by rfl) (by decide +kernel)
theorem mT_X12_apart : Cond.static yX12_apart ∈ gW := gW_u tb_7 138 (by rfl) (by decide +kernel)
theorem mC_X12_apart : Cond.code yX12_apart cX12_apart 2 (some .int) ∈ gW := gW_u tb_7 139 (by rfl) (by decide +kernel)
theorem ok_X12_apart : okD yX12_apart 2 := ⟨by decide +kernel, by decide +kernel, by decide +kernel⟩
theorem dX12_loudAs_8 : decode cX12_loudAs 8 = .ok (.iload_n 1, 1) := by decide +kernel
theorem dX12_loudAs_9 : decode cX12_loudAs 9 = .ok (.bipush 8, 2) := by decide +kernel
theorem dX12_loudAs_11 : decode cX12_loudAs 11 = .ok (.idiv, 1) := by decide +kernel
theorem dX12_loudAs_12 : decode cX12_loudAs 12 = .ok (.iadd, 1) := by decide +kernel
theorem dX12_loudAs_13 : decode cX12_loudAs 13 = .ok (.iconst 1, 1) := by decide +kernel
theorem dX12_loudAs_14 : decode cX12_loudAs 14 = .ok (.iadd, 1) := by decide +kernel
theorem dX12_loudAs_15 : decode cX12_loudAs 15 = .ok (.istore 4, 2) := by decide +kernel
theorem dX12_loudAs_17 : decode cX12_loudAs 17 = .ok (.aload_n 0, 1) := by decide +kernel
theorem dX12_loudAs_18 : decode cX12_loudAs 18 = .ok (.iload_n 1, 1) := by decide +kernel
theorem dX12_loudAs_19 : decode cX12_loudAs 19 = .ok (.iload_n 2, 1) := by decide +kernel
theorem dX12_loudAs_20 : decode cX12_loudAs 20 = .ok (.invokevirtual 212, 3) := by decide +kernel
theorem dX12_loudAs_23 : decode cX12_loudAs 23 = .ok (.iload 4, 2) := by decide +kernel
theorem dX12_loudAs_25 : decode cX12_loudAs 25 = .ok (.aload_n 0, 1) := by decide +kernel
theorem dX12_loudAs_26 : decode cX12_loudAs 26 = .ok (.iload_n 1, 1) := by decide +kernel
theorem dX12_loudAs_27 : decode cX12_loudAs 27 = .ok (.iload_n 2, 1) := by decide +kernel
theorem dX12_loudAs_28 : decode cX12_loudAs 28 = .ok (.invokevirtual 215, 3) := by decide +kernel
theorem dX12_loudAs_31 : decode cX12_loudAs 31 = .ok (.imul, 1) := by decide +kernel
theorem dX12_loudAs_32 : decode cX12_loudAs 32 = .ok (.isub, 1) := by decide +kernel
theorem dX12_loudAs_33 : decode cX12_loudAs 33 = .ok (.ireturn, 1) := by decide +kernel
