def yX12_readPlain : MethodName := ⟨RX12, "readPlain", "()I"⟩
abbrev cX12_readPlain : ByteArray := prog_14_method_59_code
theorem dX12_readPlain_0 : decode cX12_readPlain 0 = .ok (.aload_n 0, 1) := by decide +kernel
theorem dX12_readPlain_1 : decode cX12_readPlain 1 = .ok (.ldc2_w 356, 3) := by decide +kernel
theorem ct_RX12_356 : Cond.constantLong RX12 356 14836 ∈ gW := gW_t 1681 (by decide +kernel) rfl
theorem dX12_readPlain_4 : decode cX12_readPlain 4 = .ok (.invokevirtual 315, 3) := by decide +kernel
theorem dX12_readPlain_7 : decode cX12_readPlain 7 = .ok (.ifCond .eq 16, 3) := by decide +kernel
theorem dX12_readPlain_23 : decode cX12_readPlain 23 = .ok (.aload_n 0, 1) := by decide +kernel
theorem dX12_readPlain_24 : decode cX12_readPlain 24 = .ok (.bipush 40, 2) := by decide +kernel
theorem dX12_readPlain_26 : decode cX12_readPlain 26 = .ok (.invokevirtual 328, 3) := by decide +kernel
theorem dX12_readPlain_29 : decode cX12_readPlain 29 = .ok (.ifCond .eq 11, 3) := by decide +kernel
theorem dX12_readPlain_40 : decode cX12_readPlain 40 = .ok (.aload_n 0, 1) := by decide +kernel
theorem dX12_readPlain_41 : decode cX12_readPlain 41 = .ok (.invokevirtual 358, 3) := by decide +kernel
theorem lk_RX12_358 : Cond.methodLink RX12 358 yX12_readPart ∈ gW := gW_t 1694 (by decide +kernel) rfl
theorem mI_X12_readPart : Cond.instanceMethod yX12_readPart ∈ gW := gW_t 1696 (by decide +kernel) rfl
theorem mS_X12_readPart : Cond.selects RX12 yX12_readPart yX12_readPart ∈ gW := gW_p (q := (yX12_readPart, 59)) 71 (by decide +kernel)
theorem mC_X12_readPart : Cond.code yX12_readPart cX12_readPart 4 (some .int) ∈ gW := gW_t 1697 (by decide +kernel) rfl
theorem ok_X12_readPart : okD yX12_readPart 0 := ⟨by decide +kernel, by decide +kernel, by decide +kernel⟩
theorem dX12_readPlain_44 : decode cX12_readPlain 44 = .ok (.ireturn, 1) := by decide +kernel
theorem dX12_readPlain_32 : decode cX12_readPlain 32 = .ok (.aload_n 0, 1) := by decide +kernel
theorem dX12_readPlain_33 : decode cX12_readPlain 33 = .ok (.bipush 31, 2) := by decide +kernel
theorem dX12_readPlain_35 : decode cX12_readPlain 35 = .ok (.invokevirtual 331, 3) := by decide +kernel
theorem dX12_readPlain_38 : decode cX12_readPlain 38 = .ok (.iconst 0, 1) := by decide +kernel
theorem dX12_readPlain_39 : decode cX12_readPlain 39 = .ok (.ireturn, 1) := by decide +kernel
theorem dX12_readPlain_10 : decode cX12_readPlain 10 = .ok (.aload_n 0, 1) := by decide +kernel
theorem dX12_readPlain_11 : decode cX12_readPlain 11 = .ok (.bipush 28, 2) := by decide +kernel
theorem dX12_readPlain_13 : decode cX12_readPlain 13 = .ok (.iconst 0, 1) := by decide +kernel
theorem dX12_readPlain_14 : decode cX12_readPlain 14 = .ok (.invokevirtual 322, 3) := by decide +kernel
theorem dX12_readPlain_17 : decode cX12_readPlain 17 = .ok (.aload_n 0, 1) := by decide +kernel
theorem dX12_readPlain_18 : decode cX12_readPlain 18 = .ok (.invokevirtual 263, 3) := by decide +kernel
theorem dX12_readPlain_21 : decode cX12_readPlain 21 = .ok (.iconst 0, 1) := by decide +kernel
theorem dX12_readPlain_22 : decode cX12_readPlain 22 = .ok (.ireturn, 1) := by decide +kernel
def yX12_behindSum : MethodName := ⟨RX12, "behindSum", "(Z)I"⟩
abbrev cX12_behindSum : ByteArray := prog_14_method_60_code
theorem dX12_behindSum_0 : decode cX12_behindSum 0 = .ok (.aload_n 0, 1) := by decide +kernel
theorem dX12_behindSum_1 : decode cX12_behindSum 1 = .ok (.bipush 43, 2) := by decide +kernel
theorem dX12_behindSum_3 : decode cX12_behindSum 3 = .ok (.invokevirtual 328, 3) := by decide +kernel
theorem dX12_behindSum_6 : decode cX12_behindSum 6 = .ok (.ifCond .eq 8, 3) := by decide +kernel
theorem dX12_behindSum_14 : decode cX12_behindSum 14 = .ok (.aload_n 0, 1) := by decide +kernel
theorem dX12_behindSum_15 : decode cX12_behindSum 15 = .ok (.bipush 45, 2) := by decide +kernel
theorem dX12_behindSum_17 : decode cX12_behindSum 17 = .ok (.invokevirtual 328, 3) := by decide +kernel
theorem dX12_behindSum_20 : decode cX12_behindSum 20 = .ok (.ifCond .eq 8, 3) := by decide +kernel
theorem dX12_behindSum_28 : decode cX12_behindSum 28 = .ok (.aload_n 0, 1) := by decide +kernel
theorem dX12_behindSum_29 : decode cX12_behindSum 29 = .ok (.bipush 42, 2) := by decide +kernel
theorem dX12_behindSum_31 : decode cX12_behindSum 31 = .ok (.invokevirtual 328, 3) := by decide +kernel
theorem dX12_behindSum_34 : decode cX12_behindSum 34 = .ok (.ifCond .eq 8, 3) := by decide +kernel
theorem dX12_behindSum_42 : decode cX12_behindSum 42 = .ok (.aload_n 0, 1) := by decide +kernel
theorem dX12_behindSum_43 : decode cX12_behindSum 43 = .ok (.bipush 47, 2) := by decide +kernel
theorem dX12_behindSum_45 : decode cX12_behindSum 45 = .ok (.invokevirtual 328, 3) := by decide +kernel
theorem dX12_behindSum_48 : decode cX12_behindSum 48 = .ok (.ifCond .eq 8, 3) := by decide +kernel
theorem dX12_behindSum_56 : decode cX12_behindSum 56 = .ok (.aload_n 0, 1) := by decide +kernel
theorem dX12_behindSum_57 : decode cX12_behindSum 57 = .ok (.bipush 37, 2) := by decide +kernel
theorem dX12_behindSum_59 : decode cX12_behindSum 59 = .ok (.invokevirtual 328, 3) := by decide +kernel
theorem dX12_behindSum_62 : decode cX12_behindSum 62 = .ok (.ifCond .eq 8, 3) := by decide +kernel
theorem dX12_behindSum_70 : decode cX12_behindSum 70 = .ok (.iconst (-1), 1) := by decide +kernel
theorem dX12_behindSum_71 : decode cX12_behindSum 71 = .ok (.istore_n 2, 1) := by decide +kernel
theorem dX12_behindSum_72 : decode cX12_behindSum 72 = .ok (.iload_n 2, 1) := by decide +kernel
theorem dX12_behindSum_73 : decode cX12_behindSum 73 = .ok (.iconst (-1), 1) := by decide +kernel
theorem dX12_behindSum_74 : decode cX12_behindSum 74 = .ok (.if_icmp .eq 23, 3) := by decide +kernel
theorem dX12_behindSum_97 : decode cX12_behindSum 97 = .ok (.aload_n 0, 1) := by decide +kernel
theorem dX12_behindSum_98 : decode cX12_behindSum 98 = .ok (.invokevirtual 364, 3) := by decide +kernel
theorem lk_RX12_364 : Cond.methodLink RX12 364 yX12_inner ∈ gW := gW_t 1731 (by decide +kernel) rfl
theorem mI_X12_inner : Cond.instanceMethod yX12_inner ∈ gW := gW_t 1733 (by decide +kernel) rfl
theorem mS_X12_inner : Cond.selects RX12 yX12_inner yX12_inner ∈ gW := gW_p (q := (yX12_inner, 59)) 79 (by decide +kernel)
theorem mC_X12_inner : Cond.code yX12_inner cX12_inner 3 (some .int) ∈ gW := gW_t 1734 (by decide +kernel) rfl
theorem ok_X12_inner : okD yX12_inner 0 := ⟨by decide +kernel, by decide +kernel, by decide +kernel⟩
theorem dX12_behindSum_101 : decode cX12_behindSum 101 = .ok (.istore_n 3, 1) := by decide +kernel
theorem dX12_behindSum_102 : decode cX12_behindSum 102 = .ok (.iload_n 3, 1) := by decide +kernel
theorem dX12_behindSum_103 : decode cX12_behindSum 103 = .ok (.bipush 32, 2) := by decide +kernel
theorem dX12_behindSum_105 : decode cX12_behindSum 105 = .ok (.if_icmp .ne 47, 3) := by decide +kernel
theorem dX12_behindSum_152 : decode cX12_behindSum 152 = .ok (.iload_n 3, 1) := by decide +kernel
theorem dX12_behindSum_153 : decode cX12_behindSum 153 = .ok (.iconst (-1), 1) := by decide +kernel
theorem dX12_behindSum_154 : decode cX12_behindSum 154 = .ok (.if_icmp .ne 9, 3) := by decide +kernel
theorem dX12_behindSum_163 : decode cX12_behindSum 163 = .ok (.aload_n 0, 1) := by decide +kernel
theorem dX12_behindSum_164 : decode cX12_behindSum 164 = .ok (.invokevirtual 367, 3) := by decide +kernel
theorem lk_RX12_367 : Cond.methodLink RX12 367 yX12_isCompared ∈ gW := gW_t 1735 (by decide +kernel) rfl
theorem mI_X12_isCompared : Cond.instanceMethod yX12_isCompared ∈ gW := gW_t 1737 (by decide +kernel) rfl
theorem mS_X12_isCompared : Cond.selects RX12 yX12_isCompared yX12_isCompared ∈ gW := gW_p (q := (yX12_isCompared, 59)) 80 (by decide +kernel)
theorem mC_X12_isCompared : Cond.code yX12_isCompared cX12_isCompared 2 (some .boolean) ∈ gW := gW_t 1738 (by decide +kernel) rfl
theorem ok_X12_isCompared : okD yX12_isCompared 0 := ⟨by decide +kernel, by decide +kernel, by decide +kernel⟩
theorem dX12_behindSum_167 : decode cX12_behindSum 167 = .ok (.ifCond .eq 5, 3) := by decide +kernel
theorem dX12_behindSum_172 : decode cX12_behindSum 172 = .ok (.aload_n 0, 1) := by decide +kernel
theorem dX12_behindSum_173 : decode cX12_behindSum 173 = .ok (.bipush 60, 2) := by decide +kernel
theorem dX12_behindSum_175 : decode cX12_behindSum 175 = .ok (.invokevirtual 328, 3) := by decide +kernel
theorem dX12_behindSum_178 : decode cX12_behindSum 178 = .ok (.ifCond .eq 8, 3) := by decide +kernel
theorem dX12_behindSum_186 : decode cX12_behindSum 186 = .ok (.aload_n 0, 1) := by decide +kernel
theorem dX12_behindSum_187 : decode cX12_behindSum 187 = .ok (.bipush 62, 2) := by decide +kernel
theorem dX12_behindSum_189 : decode cX12_behindSum 189 = .ok (.invokevirtual 328, 3) := by decide +kernel
theorem dX12_behindSum_192 : decode cX12_behindSum 192 = .ok (.ifCond .eq 8, 3) := by decide +kernel
theorem dX12_behindSum_200 : decode cX12_behindSum 200 = .ok (.bipush 27, 2) := by decide +kernel
theorem dX12_behindSum_202 : decode cX12_behindSum 202 = .ok (.istore_n 2, 1) := by decide +kernel
theorem dX12_behindSum_203 : decode cX12_behindSum 203 = .ok (.aload_n 0, 1) := by decide +kernel
theorem dX12_behindSum_204 : decode cX12_behindSum 204 = .ok (.iload_n 2, 1) := by decide +kernel
theorem dX12_behindSum_205 : decode cX12_behindSum 205 = .ok (.bipush 27, 2) := by decide +kernel
theorem dX12_behindSum_207 : decode cX12_behindSum 207 = .ok (.if_icmp .ne 12, 3) := by decide +kernel
theorem dX12_behindSum_210 : decode cX12_behindSum 210 = .ok (.aload_n 0, 1) := by decide +kernel
theorem dX12_behindSum_211 : decode cX12_behindSum 211 = .ok (.bipush 61, 2) := by decide +kernel
theorem dX12_behindSum_213 : decode cX12_behindSum 213 = .ok (.invokevirtual 328, 3) := by decide +kernel
theorem dX12_behindSum_216 : decode cX12_behindSum 216 = .ok (.ifCond .eq 7, 3) := by decide +kernel
theorem dX12_behindSum_223 : decode cX12_behindSum 223 = .ok (.iconst 0, 1) := by decide +kernel
theorem dX12_behindSum_224 : decode cX12_behindSum 224 = .ok (.invokevirtual 292, 3) := by decide +kernel
theorem dX12_behindSum_227 : decode cX12_behindSum 227 = .ok (.aload_n 0, 1) := by decide +kernel
theorem dX12_behindSum_228 : decode cX12_behindSum 228 = .ok (.getfield 259, 3) := by decide +kernel
theorem dX12_behindSum_231 : decode cX12_behindSum 231 = .ok (.ifCond .ne 14, 3) := by decide +kernel
theorem dX12_behindSum_245 : decode cX12_behindSum 245 = .ok (.iconst 1, 1) := by decide +kernel
theorem dX12_behindSum_246 : decode cX12_behindSum 246 = .ok (.ireturn, 1) := by decide +kernel
theorem dX12_behindSum_234 : decode cX12_behindSum 234 = .ok (.aload_n 0, 1) := by decide +kernel
theorem dX12_behindSum_235 : decode cX12_behindSum 235 = .ok (.iconst 5, 1) := by decide +kernel
theorem dX12_behindSum_236 : decode cX12_behindSum 236 = .ok (.invokevirtual 361, 3) := by decide +kernel
theorem lk_RX12_361 : Cond.methodLink RX12 361 yX12_settle ∈ gW := gW_t 1727 (by decide +kernel) rfl
theorem mI_X12_settle : Cond.instanceMethod yX12_settle ∈ gW := gW_t 1729 (by decide +kernel) rfl
theorem mS_X12_settle : Cond.selects RX12 yX12_settle yX12_settle ∈ gW := gW_p (q := (yX12_settle, 59)) 78 (by decide +kernel)
theorem mC_X12_settle : Cond.code yX12_settle cX12_settle 2 none ∈ gW := gW_t 1730 (by decide +kernel) rfl
theorem ok_X12_settle : okD yX12_settle 1 := ⟨by decide +kernel, by decide +kernel, by decide +kernel⟩
theorem dX12_behindSum_239 : decode cX12_behindSum 239 = .ok (.aload_n 0, 1) := by decide +kernel
theorem dX12_behindSum_240 : decode cX12_behindSum 240 = .ok (.iload_n 2, 1) := by decide +kernel
theorem dX12_behindSum_241 : decode cX12_behindSum 241 = .ok (.iconst 0, 1) := by decide +kernel
theorem dX12_behindSum_242 : decode cX12_behindSum 242 = .ok (.invokevirtual 322, 3) := by decide +kernel
theorem dX12_behindSum_219 : decode cX12_behindSum 219 = .ok (.iconst 1, 1) := by decide +kernel
theorem dX12_behindSum_220 : decode cX12_behindSum 220 = .ok (.goto 4, 3) := by decide +kernel
theorem dX12_behindSum_195 : decode cX12_behindSum 195 = .ok (.bipush 26, 2) := by decide +kernel
theorem dX12_behindSum_197 : decode cX12_behindSum 197 = .ok (.goto 5, 3) := by decide +kernel
theorem dX12_behindSum_181 : decode cX12_behindSum 181 = .ok (.bipush 25, 2) := by decide +kernel
theorem dX12_behindSum_183 : decode cX12_behindSum 183 = .ok (.goto 19, 3) := by decide +kernel
theorem dX12_behindSum_170 : decode cX12_behindSum 170 = .ok (.iconst 2, 1) := by decide +kernel
theorem dX12_behindSum_171 : decode cX12_behindSum 171 = .ok (.ireturn, 1) := by decide +kernel
theorem dX12_behindSum_157 : decode cX12_behindSum 157 = .ok (.iload_n 1, 1) := by decide +kernel
theorem dX12_behindSum_158 : decode cX12_behindSum 158 = .ok (.ifCond .ne 5, 3) := by decide +kernel
theorem dX12_behindSum_161 : decode cX12_behindSum 161 = .ok (.iconst 4, 1) := by decide +kernel
theorem dX12_behindSum_162 : decode cX12_behindSum 162 = .ok (.ireturn, 1) := by decide +kernel
theorem dX12_behindSum_108 : decode cX12_behindSum 108 = .ok (.aload_n 0, 1) := by decide +kernel
theorem dX12_behindSum_109 : decode cX12_behindSum 109 = .ok (.aload_n 0, 1) := by decide +kernel
theorem dX12_behindSum_110 : decode cX12_behindSum 110 = .ok (.bipush 93, 2) := by decide +kernel
theorem dX12_behindSum_112 : decode cX12_behindSum 112 = .ok (.invokevirtual 328, 3) := by decide +kernel
theorem dX12_behindSum_115 : decode cX12_behindSum 115 = .ok (.invokevirtual 292, 3) := by decide +kernel
theorem dX12_behindSum_118 : decode cX12_behindSum 118 = .ok (.aload_n 0, 1) := by decide +kernel
theorem dX12_behindSum_119 : decode cX12_behindSum 119 = .ok (.getfield 259, 3) := by decide +kernel
theorem dX12_behindSum_122 : decode cX12_behindSum 122 = .ok (.ifCond .ne 28, 3) := by decide +kernel
theorem dX12_behindSum_150 : decode cX12_behindSum 150 = .ok (.iconst 3, 1) := by decide +kernel
theorem dX12_behindSum_151 : decode cX12_behindSum 151 = .ok (.ireturn, 1) := by decide +kernel
theorem dX12_behindSum_125 : decode cX12_behindSum 125 = .ok (.aload_n 0, 1) := by decide +kernel
theorem dX12_behindSum_126 : decode cX12_behindSum 126 = .ok (.iconst 5, 1) := by decide +kernel
theorem dX12_behindSum_127 : decode cX12_behindSum 127 = .ok (.invokevirtual 361, 3) := by decide +kernel
theorem dX12_behindSum_130 : decode cX12_behindSum 130 = .ok (.aload_n 0, 1) := by decide +kernel
theorem dX12_behindSum_131 : decode cX12_behindSum 131 = .ok (.dup, 1) := by decide +kernel
theorem dX12_behindSum_132 : decode cX12_behindSum 132 = .ok (.getfield 299, 3) := by decide +kernel
theorem dX12_behindSum_135 : decode cX12_behindSum 135 = .ok (.iconst 1, 1) := by decide +kernel
theorem dX12_behindSum_136 : decode cX12_behindSum 136 = .ok (.isub, 1) := by decide +kernel
theorem dX12_behindSum_137 : decode cX12_behindSum 137 = .ok (.putfield 299, 3) := by decide +kernel
theorem dX12_behindSum_140 : decode cX12_behindSum 140 = .ok (.aload_n 0, 1) := by decide +kernel
theorem dX12_behindSum_141 : decode cX12_behindSum 141 = .ok (.dup, 1) := by decide +kernel
theorem dX12_behindSum_142 : decode cX12_behindSum 142 = .ok (.getfield 319, 3) := by decide +kernel
theorem dX12_behindSum_145 : decode cX12_behindSum 145 = .ok (.iconst 1, 1) := by decide +kernel
theorem dX12_behindSum_146 : decode cX12_behindSum 146 = .ok (.isub, 1) := by decide +kernel
theorem dX12_behindSum_147 : decode cX12_behindSum 147 = .ok (.putfield 319, 3) := by decide +kernel
theorem dX12_behindSum_65 : decode cX12_behindSum 65 = .ok (.bipush 24, 2) := by decide +kernel
theorem dX12_behindSum_67 : decode cX12_behindSum 67 = .ok (.goto 4, 3) := by decide +kernel
theorem dX12_behindSum_77 : decode cX12_behindSum 77 = .ok (.aload_n 0, 1) := by decide +kernel
theorem dX12_behindSum_78 : decode cX12_behindSum 78 = .ok (.iload_n 2, 1) := by decide +kernel
theorem dX12_behindSum_79 : decode cX12_behindSum 79 = .ok (.invokestatic 302, 3) := by decide +kernel
theorem dX12_behindSum_82 : decode cX12_behindSum 82 = .ok (.invokevirtual 361, 3) := by decide +kernel
theorem dX12_behindSum_85 : decode cX12_behindSum 85 = .ok (.aload_n 0, 1) := by decide +kernel
theorem dX12_behindSum_86 : decode cX12_behindSum 86 = .ok (.iload_n 2, 1) := by decide +kernel
theorem dX12_behindSum_87 : decode cX12_behindSum 87 = .ok (.iconst 0, 1) := by decide +kernel
theorem dX12_behindSum_88 : decode cX12_behindSum 88 = .ok (.invokevirtual 322, 3) := by decide +kernel
theorem dX12_behindSum_91 : decode cX12_behindSum 91 = .ok (.aload_n 0, 1) := by decide +kernel
theorem dX12_behindSum_92 : decode cX12_behindSum 92 = .ok (.invokevirtual 263, 3) := by decide +kernel
theorem dX12_behindSum_95 : decode cX12_behindSum 95 = .ok (.iconst 1, 1) := by decide +kernel
theorem dX12_behindSum_96 : decode cX12_behindSum 96 = .ok (.ireturn, 1) := by decide +kernel
theorem dX12_behindSum_51 : decode cX12_behindSum 51 = .ok (.bipush 23, 2) := by decide +kernel
theorem dX12_behindSum_53 : decode cX12_behindSum 53 = .ok (.goto 18, 3) := by decide +kernel
theorem dX12_behindSum_37 : decode cX12_behindSum 37 = .ok (.bipush 22, 2) := by decide +kernel
theorem dX12_behindSum_39 : decode cX12_behindSum 39 = .ok (.goto 32, 3) := by decide +kernel
theorem dX12_behindSum_23 : decode cX12_behindSum 23 = .ok (.bipush 21, 2) := by decide +kernel
theorem dX12_behindSum_25 : decode cX12_behindSum 25 = .ok (.goto 46, 3) := by decide +kernel
theorem dX12_behindSum_9 : decode cX12_behindSum 9 = .ok (.bipush 20, 2) := by decide +kernel
theorem dX12_behindSum_11 : decode cX12_behindSum 11 = .ok (.goto 60, 3) := by decide +kernel
