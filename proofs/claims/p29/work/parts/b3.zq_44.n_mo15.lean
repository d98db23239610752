def yX12_seasons : MethodName := ⟨RX12, "seasons", "(II)I"⟩
abbrev cX12_seasons : ByteArray := prog_14_method_134_code
theorem dX12_seasons_0 : decode cX12_seasons 0 = .ok (.aload_n 0, 1) := by decide +kernel
theorem dX12_seasons_1 : decode cX12_seasons 1 = .ok (.iconst 0, 1) := by decide +kernel
theorem dX12_seasons_2 : decode cX12_seasons 2 = .ok (.putfield 156, 3) := by decide +kernel
theorem dX12_seasons_5 : decode cX12_seasons 5 = .ok (.iload_n 1, 1) := by decide +kernel
theorem dX12_seasons_6 : decode cX12_seasons 6 = .ok (.i2l, 1) := by decide +kernel
theorem dX12_seasons_7 : decode cX12_seasons 7 = .ok (.lconst 0, 1) := by decide +kernel
theorem dX12_seasons_8 : decode cX12_seasons 8 = .ok (.ldc2_w 288, 3) := by decide +kernel
theorem dX12_seasons_11 : decode cX12_seasons 11 = .ok (.invokestatic 180, 3) := by decide +kernel
theorem dX12_seasons_14 : decode cX12_seasons 14 = .ok (.ifCond .eq 15, 3) := by decide +kernel
theorem dX12_seasons_29 : decode cX12_seasons 29 = .ok (.aload_n 0, 1) := by decide +kernel
theorem dX12_seasons_30 : decode cX12_seasons 30 = .ok (.iconst (-1), 1) := by decide +kernel
theorem dX12_seasons_31 : decode cX12_seasons 31 = .ok (.invokevirtual 169, 3) := by decide +kernel
theorem dX12_seasons_34 : decode cX12_seasons 34 = .ok (.ireturn, 1) := by decide +kernel
theorem dX12_seasons_17 : decode cX12_seasons 17 = .ok (.iload_n 2, 1) := by decide +kernel
theorem dX12_seasons_18 : decode cX12_seasons 18 = .ok (.i2l, 1) := by decide +kernel
theorem dX12_seasons_19 : decode cX12_seasons 19 = .ok (.lconst 1, 1) := by decide +kernel
theorem dX12_seasons_20 : decode cX12_seasons 20 = .ok (.ldc2_w 600, 3) := by decide +kernel
theorem ct_RX12_600 : Cond.constantLong RX12 600 60 ∈ gW := gW_u tb_9 76 (by rfl) (by decide +kernel)
theorem dX12_seasons_23 : decode cX12_seasons 23 = .ok (.invokestatic 180, 3) := by decide +kernel
theorem dX12_seasons_26 : decode cX12_seasons 26 = .ok (.ifCond .ne 9, 3) := by decide +kernel
theorem dX12_seasons_35 : decode cX12_seasons 35 = .ok (.aload_n 0, 1) := by decide +kernel
theorem dX12_seasons_36 : decode cX12_seasons 36 = .ok (.getfield 13, 3) := by decide +kernel
theorem dX12_seasons_39 : decode cX12_seasons 39 = .ok (.iconst 0, 1) := by decide +kernel
theorem dX12_seasons_40 : decode cX12_seasons 40 = .ok (.iaload, 1) := by decide +kernel
theorem dX12_seasons_41 : decode cX12_seasons 41 = .ok (.ifCond .ne 10, 3) := by decide +kernel
theorem dX12_seasons_51 : decode cX12_seasons 51 = .ok (.aload_n 0, 1) := by decide +kernel
theorem dX12_seasons_52 : decode cX12_seasons 52 = .ok (.bipush 16, 2) := by decide +kernel
theorem dX12_seasons_54 : decode cX12_seasons 54 = .ok (.invokevirtual 173, 3) := by decide +kernel
theorem dX12_seasons_57 : decode cX12_seasons 57 = .ok (.aload_n 0, 1) := by decide +kernel
theorem dX12_seasons_58 : decode cX12_seasons 58 = .ok (.iload_n 1, 1) := by decide +kernel
theorem dX12_seasons_59 : decode cX12_seasons 59 = .ok (.i2l, 1) := by decide +kernel
theorem dX12_seasons_60 : decode cX12_seasons 60 = .ok (.putfield 591, 3) := by decide +kernel
theorem dX12_seasons_63 : decode cX12_seasons 63 = .ok (.iconst 0, 1) := by decide +kernel
theorem dX12_seasons_64 : decode cX12_seasons 64 = .ok (.istore_n 3, 1) := by decide +kernel
theorem dX12_seasons_65 : decode cX12_seasons 65 = .ok (.iconst 0, 1) := by decide +kernel
theorem dX12_seasons_66 : decode cX12_seasons 66 = .ok (.istore 4, 2) := by decide +kernel
theorem dX12_seasons_68 : decode cX12_seasons 68 = .ok (.iload 4, 2) := by decide +kernel
theorem dX12_seasons_70 : decode cX12_seasons 70 = .ok (.iload_n 2, 1) := by decide +kernel
theorem dX12_seasons_71 : decode cX12_seasons 71 = .ok (.if_icmp .ge 96, 3) := by decide +kernel
theorem dX12_seasons_74 : decode cX12_seasons 74 = .ok (.aload_n 0, 1) := by decide +kernel
theorem dX12_seasons_75 : decode cX12_seasons 75 = .ok (.aload_n 0, 1) := by decide +kernel
theorem dX12_seasons_76 : decode cX12_seasons 76 = .ok (.getfield 13, 3) := by decide +kernel
theorem dX12_seasons_79 : decode cX12_seasons 79 = .ok (.iconst 0, 1) := by decide +kernel
theorem dX12_seasons_80 : decode cX12_seasons 80 = .ok (.iaload, 1) := by decide +kernel
theorem dX12_seasons_81 : decode cX12_seasons 81 = .ok (.invokevirtual 602, 3) := by decide +kernel
theorem lk_RX12_602 : Cond.methodLink RX12 602 yX12_draw ∈ gW := gW_u tb_9 77 (by rfl) (by decide +kernel)
theorem mI_X12_draw : Cond.instanceMethod yX12_draw ∈ gW := gW_u tb_9 79 (by rfl) (by decide +kernel)
theorem mS_X12_draw : Cond.selects RX12 yX12_draw yX12_draw ∈ gW := gW_p (q := (yX12_draw, 59)) 116 (by decide +kernel)
theorem mC_X12_draw : Cond.code yX12_draw cX12_draw 2 (some .int) ∈ gW := gW_u tb_9 80 (by rfl) (by decide +kernel)
theorem ok_X12_draw : okD yX12_draw 1 := ⟨by decide +kernel, by decide +kernel, by decide +kernel⟩
theorem dX12_seasons_84 : decode cX12_seasons 84 = .ok (.istore 5, 2) := by decide +kernel
theorem dX12_seasons_86 : decode cX12_seasons 86 = .ok (.aload_n 0, 1) := by decide +kernel
theorem dX12_seasons_87 : decode cX12_seasons 87 = .ok (.iconst 3, 1) := by decide +kernel
theorem dX12_seasons_88 : decode cX12_seasons 88 = .ok (.invokevirtual 602, 3) := by decide +kernel
theorem dX12_seasons_91 : decode cX12_seasons 91 = .ok (.istore 6, 2) := by decide +kernel
theorem dX12_seasons_93 : decode cX12_seasons 93 = .ok (.aload_n 0, 1) := by decide +kernel
theorem dX12_seasons_94 : decode cX12_seasons 94 = .ok (.iload 5, 2) := by decide +kernel
theorem dX12_seasons_96 : decode cX12_seasons 96 = .ok (.invokevirtual 490, 3) := by decide +kernel
theorem dX12_seasons_99 : decode cX12_seasons 99 = .ok (.ifCond .eq 15, 3) := by decide +kernel
theorem dX12_seasons_114 : decode cX12_seasons 114 = .ok (.aload_n 0, 1) := by decide +kernel
theorem dX12_seasons_115 : decode cX12_seasons 115 = .ok (.iload 5, 2) := by decide +kernel
theorem dX12_seasons_117 : decode cX12_seasons 117 = .ok (.iload 6, 2) := by decide +kernel
theorem dX12_seasons_119 : decode cX12_seasons 119 = .ok (.invokevirtual 478, 3) := by decide +kernel
theorem dX12_seasons_122 : decode cX12_seasons 122 = .ok (.ifCond .eq 15, 3) := by decide +kernel
theorem dX12_seasons_137 : decode cX12_seasons 137 = .ok (.aload_n 0, 1) := by decide +kernel
theorem dX12_seasons_138 : decode cX12_seasons 138 = .ok (.getfield 13, 3) := by decide +kernel
theorem dX12_seasons_141 : decode cX12_seasons 141 = .ok (.bipush 7, 2) := by decide +kernel
theorem dX12_seasons_143 : decode cX12_seasons 143 = .ok (.iaload, 1) := by decide +kernel
theorem dX12_seasons_144 : decode cX12_seasons 144 = .ok (.sipush 9999, 3) := by decide +kernel
theorem dX12_seasons_147 : decode cX12_seasons 147 = .ok (.if_icmp .ge 14, 3) := by decide +kernel
theorem dX12_seasons_161 : decode cX12_seasons 161 = .ok (.iinc 4 1, 3) := by decide +kernel
theorem dX12_seasons_164 : decode cX12_seasons 164 = .ok (.goto (-96), 3) := by decide +kernel
theorem dX12_seasons_150 : decode cX12_seasons 150 = .ok (.aload_n 0, 1) := by decide +kernel
theorem dX12_seasons_151 : decode cX12_seasons 151 = .ok (.getfield 13, 3) := by decide +kernel
theorem dX12_seasons_154 : decode cX12_seasons 154 = .ok (.bipush 7, 2) := by decide +kernel
theorem dX12_seasons_156 : decode cX12_seasons 156 = .ok (.dup2, 1) := by decide +kernel
theorem dX12_seasons_157 : decode cX12_seasons 157 = .ok (.iaload, 1) := by decide +kernel
theorem dX12_seasons_158 : decode cX12_seasons 158 = .ok (.iconst 1, 1) := by decide +kernel
theorem dX12_seasons_159 : decode cX12_seasons 159 = .ok (.iadd, 1) := by decide +kernel
theorem dX12_seasons_160 : decode cX12_seasons 160 = .ok (.iastore, 1) := by decide +kernel
theorem dX12_seasons_125 : decode cX12_seasons 125 = .ok (.aload_n 0, 1) := by decide +kernel
theorem dX12_seasons_126 : decode cX12_seasons 126 = .ok (.iload 5, 2) := by decide +kernel
theorem dX12_seasons_128 : decode cX12_seasons 128 = .ok (.iload 6, 2) := by decide +kernel
theorem dX12_seasons_130 : decode cX12_seasons 130 = .ok (.invokevirtual 484, 3) := by decide +kernel
theorem dX12_seasons_133 : decode cX12_seasons 133 = .ok (.pop, 1) := by decide +kernel
theorem dX12_seasons_134 : decode cX12_seasons 134 = .ok (.goto 27, 3) := by decide +kernel
theorem dX12_seasons_102 : decode cX12_seasons 102 = .ok (.iload_n 3, 1) := by decide +kernel
theorem dX12_seasons_103 : decode cX12_seasons 103 = .ok (.aload_n 0, 1) := by decide +kernel
theorem dX12_seasons_104 : decode cX12_seasons 104 = .ok (.iload 5, 2) := by decide +kernel
theorem dX12_seasons_106 : decode cX12_seasons 106 = .ok (.invokevirtual 493, 3) := by decide +kernel
theorem dX12_seasons_109 : decode cX12_seasons 109 = .ok (.iadd, 1) := by decide +kernel
theorem dX12_seasons_110 : decode cX12_seasons 110 = .ok (.istore_n 3, 1) := by decide +kernel
theorem dX12_seasons_111 : decode cX12_seasons 111 = .ok (.goto 50, 3) := by decide +kernel
theorem dX12_seasons_167 : decode cX12_seasons 167 = .ok (.aload_n 0, 1) := by decide +kernel
theorem dX12_seasons_168 : decode cX12_seasons 168 = .ok (.aload_n 0, 1) := by decide +kernel
theorem dX12_seasons_169 : decode cX12_seasons 169 = .ok (.getfield 13, 3) := by decide +kernel
theorem dX12_seasons_172 : decode cX12_seasons 172 = .ok (.iconst 0, 1) := by decide +kernel
theorem dX12_seasons_173 : decode cX12_seasons 173 = .ok (.iaload, 1) := by decide +kernel
theorem dX12_seasons_174 : decode cX12_seasons 174 = .ok (.putfield 153, 3) := by decide +kernel
theorem dX12_seasons_177 : decode cX12_seasons 177 = .ok (.iconst 0, 1) := by decide +kernel
theorem dX12_seasons_178 : decode cX12_seasons 178 = .ok (.istore 4, 2) := by decide +kernel
theorem dX12_seasons_180 : decode cX12_seasons 180 = .ok (.iload 4, 2) := by decide +kernel
theorem dX12_seasons_182 : decode cX12_seasons 182 = .ok (.aload_n 0, 1) := by decide +kernel
theorem dX12_seasons_183 : decode cX12_seasons 183 = .ok (.getfield 153, 3) := by decide +kernel
theorem dX12_seasons_186 : decode cX12_seasons 186 = .ok (.if_icmp .ge 49, 3) := by decide +kernel
theorem dX12_seasons_189 : decode cX12_seasons 189 = .ok (.aload_n 0, 1) := by decide +kernel
theorem dX12_seasons_190 : decode cX12_seasons 190 = .ok (.getfield 150, 3) := by decide +kernel
theorem dX12_seasons_193 : decode cX12_seasons 193 = .ok (.iconst 2, 1) := by decide +kernel
theorem dX12_seasons_194 : decode cX12_seasons 194 = .ok (.iload 4, 2) := by decide +kernel
theorem dX12_seasons_196 : decode cX12_seasons 196 = .ok (.imul, 1) := by decide +kernel
theorem dX12_seasons_197 : decode cX12_seasons 197 = .ok (.aload_n 0, 1) := by decide +kernel
theorem dX12_seasons_198 : decode cX12_seasons 198 = .ok (.getfield 13, 3) := by decide +kernel
theorem dX12_seasons_201 : decode cX12_seasons 201 = .ok (.bipush 10, 2) := by decide +kernel
theorem dX12_seasons_203 : decode cX12_seasons 203 = .ok (.iload 4, 2) := by decide +kernel
theorem dX12_seasons_205 : decode cX12_seasons 205 = .ok (.iadd, 1) := by decide +kernel
theorem dX12_seasons_206 : decode cX12_seasons 206 = .ok (.iaload, 1) := by decide +kernel
theorem dX12_seasons_207 : decode cX12_seasons 207 = .ok (.iastore, 1) := by decide +kernel
theorem dX12_seasons_208 : decode cX12_seasons 208 = .ok (.aload_n 0, 1) := by decide +kernel
theorem dX12_seasons_209 : decode cX12_seasons 209 = .ok (.getfield 150, 3) := by decide +kernel
theorem dX12_seasons_212 : decode cX12_seasons 212 = .ok (.iconst 2, 1) := by decide +kernel
theorem dX12_seasons_213 : decode cX12_seasons 213 = .ok (.iload 4, 2) := by decide +kernel
theorem dX12_seasons_215 : decode cX12_seasons 215 = .ok (.imul, 1) := by decide +kernel
theorem dX12_seasons_216 : decode cX12_seasons 216 = .ok (.iconst 1, 1) := by decide +kernel
theorem dX12_seasons_217 : decode cX12_seasons 217 = .ok (.iadd, 1) := by decide +kernel
theorem dX12_seasons_218 : decode cX12_seasons 218 = .ok (.aload_n 0, 1) := by decide +kernel
theorem dX12_seasons_219 : decode cX12_seasons 219 = .ok (.getfield 13, 3) := by decide +kernel
theorem dX12_seasons_222 : decode cX12_seasons 222 = .ok (.bipush 16, 2) := by decide +kernel
theorem dX12_seasons_224 : decode cX12_seasons 224 = .ok (.iload 4, 2) := by decide +kernel
theorem dX12_seasons_226 : decode cX12_seasons 226 = .ok (.iadd, 1) := by decide +kernel
theorem dX12_seasons_227 : decode cX12_seasons 227 = .ok (.iaload, 1) := by decide +kernel
theorem dX12_seasons_228 : decode cX12_seasons 228 = .ok (.iastore, 1) := by decide +kernel
theorem dX12_seasons_229 : decode cX12_seasons 229 = .ok (.iinc 4 1, 3) := by decide +kernel
theorem dX12_seasons_232 : decode cX12_seasons 232 = .ok (.goto (-52), 3) := by decide +kernel
theorem dX12_seasons_235 : decode cX12_seasons 235 = .ok (.aload_n 0, 1) := by decide +kernel
theorem dX12_seasons_236 : decode cX12_seasons 236 = .ok (.aload_n 0, 1) := by decide +kernel
theorem dX12_seasons_237 : decode cX12_seasons 237 = .ok (.getfield 13, 3) := by decide +kernel
theorem dX12_seasons_240 : decode cX12_seasons 240 = .ok (.bipush 7, 2) := by decide +kernel
theorem dX12_seasons_242 : decode cX12_seasons 242 = .ok (.iaload, 1) := by decide +kernel
theorem dX12_seasons_243 : decode cX12_seasons 243 = .ok (.putfield 605, 3) := by decide +kernel
theorem dX12_seasons_246 : decode cX12_seasons 246 = .ok (.aload_n 0, 1) := by decide +kernel
theorem dX12_seasons_247 : decode cX12_seasons 247 = .ok (.bipush 16, 2) := by decide +kernel
theorem dX12_seasons_249 : decode cX12_seasons 249 = .ok (.invokevirtual 177, 3) := by decide +kernel
theorem dX12_seasons_252 : decode cX12_seasons 252 = .ok (.aload_n 0, 1) := by decide +kernel
theorem dX12_seasons_253 : decode cX12_seasons 253 = .ok (.iload_n 3, 1) := by decide +kernel
theorem dX12_seasons_254 : decode cX12_seasons 254 = .ok (.invokevirtual 169, 3) := by decide +kernel
theorem dX12_seasons_257 : decode cX12_seasons 257 = .ok (.ireturn, 1) := by decide +kernel
theorem dX12_seasons_44 : decode cX12_seasons 44 = .ok (.aload_n 0, 1) := by decide +kernel
theorem dX12_seasons_45 : decode cX12_seasons 45 = .ok (.bipush (-3), 2) := by decide +kernel
theorem dX12_seasons_47 : decode cX12_seasons 47 = .ok (.invokevirtual 169, 3) := by decide +kernel
theorem dX12_seasons_50 : decode cX12_seasons 50 = .ok (.ireturn, 1) := by decide +kernel
def yX12_down : MethodName := ⟨RX12, "down", "(III)I"⟩
abbrev cX12_down : ByteArray := prog_14_method_103_code
theorem dX12_down_0 : decode cX12_down 0 = .ok (.aload_n 0, 1) := by decide +kernel
theorem dX12_down_1 : decode cX12_down 1 = .ok (.iconst 0, 1) := by decide +kernel
theorem dX12_down_2 : decode cX12_down 2 = .ok (.putfield 156, 3) := by decide +kernel
theorem dX12_down_5 : decode cX12_down 5 = .ok (.aload_n 0, 1) := by decide +kernel
theorem dX12_down_6 : decode cX12_down 6 = .ok (.iload_n 1, 1) := by decide +kernel
theorem dX12_down_7 : decode cX12_down 7 = .ok (.invokevirtual 221, 3) := by decide +kernel
theorem dX12_down_10 : decode cX12_down 10 = .ok (.ifCond .eq 14, 3) := by decide +kernel
theorem dX12_down_24 : decode cX12_down 24 = .ok (.iconst (-1), 1) := by decide +kernel
theorem dX12_down_25 : decode cX12_down 25 = .ok (.ireturn, 1) := by decide +kernel
theorem dX12_down_13 : decode cX12_down 13 = .ok (.iload_n 2, 1) := by decide +kernel
theorem dX12_down_14 : decode cX12_down 14 = .ok (.invokestatic 197, 3) := by decide +kernel
theorem dX12_down_17 : decode cX12_down 17 = .ok (.ifCond .eq 7, 3) := by decide +kernel
theorem dX12_down_20 : decode cX12_down 20 = .ok (.iload_n 3, 1) := by decide +kernel
theorem dX12_down_21 : decode cX12_down 21 = .ok (.ifCond .ge 5, 3) := by decide +kernel
theorem dX12_down_26 : decode cX12_down 26 = .ok (.aload_n 0, 1) := by decide +kernel
theorem dX12_down_27 : decode cX12_down 27 = .ok (.iload_n 1, 1) := by decide +kernel
theorem dX12_down_28 : decode cX12_down 28 = .ok (.iload_n 2, 1) := by decide +kernel
theorem dX12_down_29 : decode cX12_down 29 = .ok (.invokevirtual 510, 3) := by decide +kernel
theorem dX12_down_32 : decode cX12_down 32 = .ok (.istore 4, 2) := by decide +kernel
theorem dX12_down_34 : decode cX12_down 34 = .ok (.iload 4, 2) := by decide +kernel
theorem dX12_down_36 : decode cX12_down 36 = .ok (.ldc_w 505, 3) := by decide +kernel
theorem dX12_down_39 : decode cX12_down 39 = .ok (.if_icmp .eq 7, 3) := by decide +kernel
theorem dX12_down_46 : decode cX12_down 46 = .ok (.iload 4, 2) := by decide +kernel
theorem dX12_down_48 : decode cX12_down 48 = .ok (.ldc_w 505, 3) := by decide +kernel
theorem dX12_down_51 : decode cX12_down 51 = .ok (.if_icmp .ne 7, 3) := by decide +kernel
theorem dX12_down_54 : decode cX12_down 54 = .ok (.iconst (-1), 1) := by decide +kernel
theorem dX12_down_55 : decode cX12_down 55 = .ok (.goto 5, 3) := by decide +kernel
theorem dX12_down_60 : decode cX12_down 60 = .ok (.ireturn, 1) := by decide +kernel
theorem dX12_down_42 : decode cX12_down 42 = .ok (.iload_n 3, 1) := by decide +kernel
theorem dX12_down_43 : decode cX12_down 43 = .ok (.ifCond .ne 18, 3) := by decide +kernel
theorem dX12_down_61 : decode cX12_down 61 = .ok (.aload_n 0, 1) := by decide +kernel
theorem dX12_down_62 : decode cX12_down 62 = .ok (.getfield 13, 3) := by decide +kernel
theorem dX12_down_65 : decode cX12_down 65 = .ok (.bipush 10, 2) := by decide +kernel
theorem dX12_down_67 : decode cX12_down 67 = .ok (.iload_n 1, 1) := by decide +kernel
theorem dX12_down_68 : decode cX12_down 68 = .ok (.iadd, 1) := by decide +kernel
theorem dX12_down_69 : decode cX12_down 69 = .ok (.iaload, 1) := by decide +kernel
theorem dX12_down_70 : decode cX12_down 70 = .ok (.istore 5, 2) := by decide +kernel
theorem dX12_down_72 : decode cX12_down 72 = .ok (.iconst 0, 1) := by decide +kernel
theorem dX12_down_73 : decode cX12_down 73 = .ok (.istore 6, 2) := by decide +kernel
theorem dX12_down_75 : decode cX12_down 75 = .ok (.iload 5, 2) := by decide +kernel
theorem dX12_down_77 : decode cX12_down 77 = .ok (.iload_n 2, 1) := by decide +kernel
theorem dX12_down_78 : decode cX12_down 78 = .ok (.if_icmp .eq 30, 3) := by decide +kernel
theorem dX12_down_81 : decode cX12_down 81 = .ok (.aload_n 0, 1) := by decide +kernel
theorem dX12_down_82 : decode cX12_down 82 = .ok (.iload_n 1, 1) := by decide +kernel
theorem dX12_down_83 : decode cX12_down 83 = .ok (.iload 5, 2) := by decide +kernel
theorem dX12_down_85 : decode cX12_down 85 = .ok (.iload_n 2, 1) := by decide +kernel
theorem dX12_down_86 : decode cX12_down 86 = .ok (.invokevirtual 513, 3) := by decide +kernel
theorem lk_RX12_513 : Cond.methodLink RX12 513 yX12_nextDown ∈ gW := gW_u tb_8 202 (by rfl) (by decide +kernel)
theorem mI_X12_nextDown : Cond.instanceMethod yX12_nextDown ∈ gW := gW_u tb_8 204 (by rfl) (by decide +kernel)
theorem mS_X12_nextDown : Cond.selects RX12 yX12_nextDown yX12_nextDown ∈ gW := gW_p (q := (yX12_nextDown, 59)) 104 (by decide +kernel)
theorem mC_X12_nextDown : Cond.code yX12_nextDown cX12_nextDown 7 (some .int) ∈ gW := gW_u tb_8 205 (by rfl) (by decide +kernel)
theorem ok_X12_nextDown : okD yX12_nextDown 3 := ⟨by decide +kernel, by decide +kernel, by decide +kernel⟩
theorem dX12_down_89 : decode cX12_down 89 = .ok (.istore 5, 2) := by decide +kernel
theorem dX12_down_91 : decode cX12_down 91 = .ok (.iload 6, 2) := by decide +kernel
theorem dX12_down_93 : decode cX12_down 93 = .ok (.iload_n 3, 1) := by decide +kernel
theorem dX12_down_94 : decode cX12_down 94 = .ok (.iconst 2, 1) := by decide +kernel
theorem dX12_down_95 : decode cX12_down 95 = .ok (.isub, 1) := by decide +kernel
theorem dX12_down_96 : decode cX12_down 96 = .ok (.if_icmp .ne 6, 3) := by decide +kernel
theorem dX12_down_102 : decode cX12_down 102 = .ok (.iinc 6 1, 3) := by decide +kernel
theorem dX12_down_105 : decode cX12_down 105 = .ok (.goto (-30), 3) := by decide +kernel
theorem dX12_down_99 : decode cX12_down 99 = .ok (.iload 5, 2) := by decide +kernel
theorem dX12_down_101 : decode cX12_down 101 = .ok (.ireturn, 1) := by decide +kernel
theorem dX12_down_108 : decode cX12_down 108 = .ok (.iload_n 3, 1) := by decide +kernel
theorem dX12_down_109 : decode cX12_down 109 = .ok (.iconst 1, 1) := by decide +kernel
theorem dX12_down_110 : decode cX12_down 110 = .ok (.if_icmp .ne 8, 3) := by decide +kernel
theorem dX12_down_118 : decode cX12_down 118 = .ok (.iconst (-1), 1) := by decide +kernel
theorem dX12_down_119 : decode cX12_down 119 = .ok (.ireturn, 1) := by decide +kernel
theorem dX12_down_113 : decode cX12_down 113 = .ok (.iload 6, 2) := by decide +kernel
theorem dX12_down_115 : decode cX12_down 115 = .ok (.goto 4, 3) := by decide +kernel
theorem dX12_down_58 : decode cX12_down 58 = .ok (.iload 4, 2) := by decide +kernel
