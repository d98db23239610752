def yX11_loud : MethodName := ⟨RX11, "loud", "(II)I"⟩
abbrev cX11_loud : ByteArray := prog_1_method_20_code
theorem dX11_loud_0 : decode cX11_loud 0 = .ok (.iload_n 1, 1) := by decide +kernel
theorem dX11_loud_1 : decode cX11_loud 1 = .ok (.bipush 40, 2) := by decide +kernel
theorem dX11_loud_3 : decode cX11_loud 3 = .ok (.invokestatic 82, 3) := by decide +kernel
theorem dX11_loud_6 : decode cX11_loud 6 = .ok (.ifCond .eq 12, 3) := by decide +kernel
theorem dX11_loud_18 : decode cX11_loud 18 = .ok (.ldc_w 261, 3) := by decide +kernel
theorem ct_RX11_261 : Cond.constant RX11 261 (-100000) ∈ gW := gW_u tb_5 8 (by rfl) (by decide +kernel)
theorem dX11_loud_21 : decode cX11_loud 21 = .ok (.ireturn, 1) := by decide +kernel
theorem dX11_loud_9 : decode cX11_loud 9 = .ok (.iload_n 2, 1) := by decide +kernel
theorem dX11_loud_10 : decode cX11_loud 10 = .ok (.bipush 8, 2) := by decide +kernel
theorem dX11_loud_12 : decode cX11_loud 12 = .ok (.invokestatic 82, 3) := by decide +kernel
theorem dX11_loud_15 : decode cX11_loud 15 = .ok (.ifCond .ne 7, 3) := by decide +kernel
theorem dX11_loud_22 : decode cX11_loud 22 = .ok (.aload_n 0, 1) := by decide +kernel
theorem dX11_loud_23 : decode cX11_loud 23 = .ok (.getfield 21, 3) := by decide +kernel
theorem dX11_loud_26 : decode cX11_loud 26 = .ok (.getfield 78, 3) := by decide +kernel
theorem dX11_loud_29 : decode cX11_loud 29 = .ok (.astore_n 3, 1) := by decide +kernel
theorem dX11_loud_30 : decode cX11_loud 30 = .ok (.aload_n 0, 1) := by decide +kernel
theorem dX11_loud_31 : decode cX11_loud 31 = .ok (.getfield 10, 3) := by decide +kernel
theorem dX11_loud_34 : decode cX11_loud 34 = .ok (.aload_n 3, 1) := by decide +kernel
theorem dX11_loud_35 : decode cX11_loud 35 = .ok (.aload_n 3, 1) := by decide +kernel
theorem dX11_loud_36 : decode cX11_loud 36 = .ok (.invokevirtual 116, 3) := by decide +kernel
theorem dX11_loud_39 : decode cX11_loud 39 = .ok (.invokevirtual 120, 3) := by decide +kernel
theorem dX11_loud_42 : decode cX11_loud 42 = .ok (.aload_n 3, 1) := by decide +kernel
theorem dX11_loud_43 : decode cX11_loud 43 = .ok (.getfield 95, 3) := by decide +kernel
theorem dX11_loud_46 : decode cX11_loud 46 = .ok (.getfield 124, 3) := by decide +kernel
theorem dX11_loud_49 : decode cX11_loud 49 = .ok (.iload_n 1, 1) := by decide +kernel
theorem dX11_loud_50 : decode cX11_loud 50 = .ok (.iaload, 1) := by decide +kernel
theorem dX11_loud_51 : decode cX11_loud 51 = .ok (.istore 4, 2) := by decide +kernel
theorem dX11_loud_53 : decode cX11_loud 53 = .ok (.aload_n 0, 1) := by decide +kernel
theorem dX11_loud_54 : decode cX11_loud 54 = .ok (.getfield 10, 3) := by decide +kernel
theorem dX11_loud_57 : decode cX11_loud 57 = .ok (.iload_n 1, 1) := by decide +kernel
theorem dX11_loud_58 : decode cX11_loud 58 = .ok (.iload 4, 2) := by decide +kernel
theorem dX11_loud_60 : decode cX11_loud 60 = .ok (.invokevirtual 127, 3) := by decide +kernel
theorem dX11_loud_63 : decode cX11_loud 63 = .ok (.iload_n 1, 1) := by decide +kernel
theorem dX11_loud_64 : decode cX11_loud 64 = .ok (.iload_n 2, 1) := by decide +kernel
theorem dX11_loud_65 : decode cX11_loud 65 = .ok (.invokestatic 262, 3) := by decide +kernel
theorem lk_RX11_262 : Cond.methodLink RX11 262 yX11_stepsTo ∈ gW := gW_u tb_5 9 (by rfl) (by decide +kernel)
theorem dX11_loud_68 : decode cX11_loud 68 = .ok (.aload_n 0, 1) := by decide +kernel
theorem dX11_loud_69 : decode cX11_loud 69 = .ok (.getfield 10, 3) := by decide +kernel
theorem dX11_loud_72 : decode cX11_loud 72 = .ok (.iload_n 1, 1) := by decide +kernel
theorem dX11_loud_73 : decode cX11_loud 73 = .ok (.iload 4, 2) := by decide +kernel
theorem dX11_loud_75 : decode cX11_loud 75 = .ok (.invokevirtual 131, 3) := by decide +kernel
theorem dX11_loud_78 : decode cX11_loud 78 = .ok (.imul, 1) := by decide +kernel
theorem dX11_loud_79 : decode cX11_loud 79 = .ok (.isub, 1) := by decide +kernel
theorem dX11_loud_80 : decode cX11_loud 80 = .ok (.ireturn, 1) := by decide +kernel
def yX11_dig : MethodName := ⟨RX11, "dig", "(II)I"⟩
abbrev cX11_dig : ByteArray := prog_1_method_23_code
theorem dX11_dig_0 : decode cX11_dig 0 = .ok (.aload_n 0, 1) := by decide +kernel
theorem dX11_dig_1 : decode cX11_dig 1 = .ok (.aload_n 0, 1) := by decide +kernel
theorem dX11_dig_2 : decode cX11_dig 2 = .ok (.getfield 21, 3) := by decide +kernel
theorem dX11_dig_5 : decode cX11_dig 5 = .ok (.iload_n 1, 1) := by decide +kernel
theorem dX11_dig_6 : decode cX11_dig 6 = .ok (.iload_n 2, 1) := by decide +kernel
theorem dX11_dig_7 : decode cX11_dig 7 = .ok (.invokevirtual 277, 3) := by decide +kernel
theorem lk_RX11_277 : Cond.methodLink RX11 277 yX7_tryDig ∈ gW := gW_u tb_5 48 (by rfl) (by decide +kernel)
theorem dX11_dig_10 : decode cX11_dig 10 = .ok (.invokevirtual 91, 3) := by decide +kernel
theorem dX11_dig_13 : decode cX11_dig 13 = .ok (.ireturn, 1) := by decide +kernel
def yX11_haul : MethodName := ⟨RX11, "haul", "(I)I"⟩
abbrev cX11_haul : ByteArray := prog_1_method_24_code
theorem dX11_haul_0 : decode cX11_haul 0 = .ok (.aload_n 0, 1) := by decide +kernel
theorem dX11_haul_1 : decode cX11_haul 1 = .ok (.aload_n 0, 1) := by decide +kernel
theorem dX11_haul_2 : decode cX11_haul 2 = .ok (.getfield 21, 3) := by decide +kernel
theorem dX11_haul_5 : decode cX11_haul 5 = .ok (.iload_n 1, 1) := by decide +kernel
theorem dX11_haul_6 : decode cX11_haul 6 = .ok (.invokevirtual 280, 3) := by decide +kernel
theorem lk_RX11_280 : Cond.methodLink RX11 280 yX7_tryHaul ∈ gW := gW_u tb_5 53 (by rfl) (by decide +kernel)
theorem dX11_haul_9 : decode cX11_haul 9 = .ok (.invokevirtual 91, 3) := by decide +kernel
theorem dX11_haul_12 : decode cX11_haul 12 = .ok (.ireturn, 1) := by decide +kernel
def yX11_tongue : MethodName := ⟨RX11, "tongue", "(I)I"⟩
abbrev cX11_tongue : ByteArray := prog_1_method_36_code
theorem dX11_tongue_0 : decode cX11_tongue 0 = .ok (.iload_n 1, 1) := by decide +kernel
theorem dX11_tongue_1 : decode cX11_tongue 1 = .ok (.iconst 2, 1) := by decide +kernel
theorem dX11_tongue_2 : decode cX11_tongue 2 = .ok (.invokestatic 82, 3) := by decide +kernel
theorem dX11_tongue_5 : decode cX11_tongue 5 = .ok (.ifCond .eq 19, 3) := by decide +kernel
theorem dX11_tongue_24 : decode cX11_tongue 24 = .ok (.iconst (-1), 1) := by decide +kernel
theorem dX11_tongue_8 : decode cX11_tongue 8 = .ok (.aload_n 0, 1) := by decide +kernel
theorem dX11_tongue_9 : decode cX11_tongue 9 = .ok (.getfield 21, 3) := by decide +kernel
theorem dX11_tongue_12 : decode cX11_tongue 12 = .ok (.getfield 78, 3) := by decide +kernel
theorem dX11_tongue_15 : decode cX11_tongue 15 = .ok (.getfield 156, 3) := by decide +kernel
theorem dX11_tongue_18 : decode cX11_tongue 18 = .ok (.invokevirtual 349, 3) := by decide +kernel
theorem lk_RX11_349 : Cond.methodLink RX11 349 yX4_fewestSounds ∈ gW := gW_u tb_5 215 (by rfl) (by decide +kernel)
theorem mI_X4_fewestSounds : Cond.instanceMethod yX4_fewestSounds ∈ gW := gW_u tb_5 216 (by rfl) (by decide +kernel)
theorem mS_X4_fewestSounds : Cond.selects RX4 yX4_fewestSounds yX4_fewestSounds ∈ gW := gW_u tb_5 217 (by rfl) (by decide +kernel)
theorem mC_X4_fewestSounds : Cond.code yX4_fewestSounds cX4_fewestSounds 4 (some .int) ∈ gW := gW_u tb_5 218 (by rfl) (by decide +kernel)
theorem ok_X4_fewestSounds : okD yX4_fewestSounds 0 := ⟨by decide +kernel, by decide +kernel, by decide +kernel⟩
theorem dX11_tongue_21 : decode cX11_tongue 21 = .ok (.goto 4, 3) := by decide +kernel
theorem dX11_tongue_25 : decode cX11_tongue 25 = .ok (.istore_n 2, 1) := by decide +kernel
theorem dX11_tongue_26 : decode cX11_tongue 26 = .ok (.iload_n 2, 1) := by decide +kernel
theorem dX11_tongue_27 : decode cX11_tongue 27 = .ok (.iconst (-1), 1) := by decide +kernel
theorem dX11_tongue_28 : decode cX11_tongue 28 = .ok (.if_icmp .ne 5, 3) := by decide +kernel
theorem dX11_tongue_33 : decode cX11_tongue 33 = .ok (.iload_n 1, 1) := by decide +kernel
theorem dX11_tongue_34 : decode cX11_tongue 34 = .ok (.ifCond .ne 10, 3) := by decide +kernel
theorem dX11_tongue_44 : decode cX11_tongue 44 = .ok (.iload_n 2, 1) := by decide +kernel
theorem dX11_tongue_45 : decode cX11_tongue 45 = .ok (.ireturn, 1) := by decide +kernel
theorem dX11_tongue_37 : decode cX11_tongue 37 = .ok (.iload_n 2, 1) := by decide +kernel
theorem dX11_tongue_38 : decode cX11_tongue 38 = .ok (.invokestatic 325, 3) := by decide +kernel
theorem lk_RX11_325 : Cond.methodLink RX11 325 yJ6_bitCount_0f7a4 ∈ gW := gW_u tb_5 165 (by rfl) (by decide +kernel)
theorem dX11_tongue_41 : decode cX11_tongue 41 = .ok (.goto 4, 3) := by decide +kernel
theorem dX11_tongue_31 : decode cX11_tongue 31 = .ok (.iconst (-1), 1) := by decide +kernel
theorem dX11_tongue_32 : decode cX11_tongue 32 = .ok (.ireturn, 1) := by decide +kernel
def yX11_count : MethodName := ⟨RX11, "count", "(I)I"⟩
abbrev cX11_count : ByteArray := prog_1_method_44_code
theorem dX11_count_0 : decode cX11_count 0 = .ok (.aload_n 0, 1) := by decide +kernel
theorem dX11_count_1 : decode cX11_count 1 = .ok (.getfield 21, 3) := by decide +kernel
theorem dX11_count_4 : decode cX11_count 4 = .ok (.getfield 78, 3) := by decide +kernel
theorem dX11_count_7 : decode cX11_count 7 = .ok (.astore_n 2, 1) := by decide +kernel
theorem dX11_count_8 : decode cX11_count 8 = .ok (.iload_n 1, 1) := by decide +kernel
theorem dX11_count_9 : decode cX11_count 9 = .ok (.tableswitch 224 0 17 #[87, 95, 103, 111, 122, 130, 138, 143, 154, 162, 169, 176, 183, 190, 198, 203, 210, 217], 87) := by decide +kernel
theorem dX11_count_96 : decode cX11_count 96 = .ok (.aload_n 2, 1) := by decide +kernel
theorem dX11_count_97 : decode cX11_count 97 = .ok (.getfield 134, 3) := by decide +kernel
theorem dX11_count_100 : decode cX11_count 100 = .ok (.getfield 137, 3) := by decide +kernel
theorem dX11_count_103 : decode cX11_count 103 = .ok (.ireturn, 1) := by decide +kernel
theorem dX11_count_104 : decode cX11_count 104 = .ok (.aload_n 2, 1) := by decide +kernel
theorem dX11_count_105 : decode cX11_count 105 = .ok (.getfield 156, 3) := by decide +kernel
theorem dX11_count_108 : decode cX11_count 108 = .ok (.getfield 160, 3) := by decide +kernel
theorem dX11_count_111 : decode cX11_count 111 = .ok (.ireturn, 1) := by decide +kernel
theorem dX11_count_112 : decode cX11_count 112 = .ok (.aload_n 2, 1) := by decide +kernel
theorem dX11_count_113 : decode cX11_count 113 = .ok (.getfield 156, 3) := by decide +kernel
theorem dX11_count_116 : decode cX11_count 116 = .ok (.getfield 169, 3) := by decide +kernel
theorem dX11_count_119 : decode cX11_count 119 = .ok (.ireturn, 1) := by decide +kernel
theorem dX11_count_120 : decode cX11_count 120 = .ok (.aload_n 2, 1) := by decide +kernel
theorem dX11_count_121 : decode cX11_count 121 = .ok (.getfield 95, 3) := by decide +kernel
theorem dX11_count_124 : decode cX11_count 124 = .ok (.getfield 383, 3) := by decide +kernel
theorem fl_RX11_383 : Cond.fieldLink RX11 383 RX6 "dug" "J" ∈ gW := gW_u tb_1 101 (by rfl) (by decide +kernel)
theorem dX11_count_127 : decode cX11_count 127 = .ok (.invokestatic 308, 3) := by decide +kernel
theorem lk_RX11_308 : Cond.methodLink RX11 308 yJ13_bitCount_95d88 ∈ gW := gW_u tb_5 118 (by rfl) (by decide +kernel)
theorem mT_J13_bitCount_95d88 : Cond.static yJ13_bitCount_95d88 ∈ gW := gW_u tb_5 119 (by rfl) (by decide +kernel)
theorem mN_RJ13 : Cond.initialized RJ13 ∈ gW := gW_u tb_1 21 (by rfl) (by decide +kernel)
theorem mC_J13_bitCount_95d88 : Cond.code yJ13_bitCount_95d88 cJ13_bitCount_95d88 2 (some .int) ∈ gW := gW_u tb_5 120 (by rfl) (by decide +kernel)
theorem ok_J13_bitCount_95d88 : okD yJ13_bitCount_95d88 1 := ⟨by decide +kernel, by decide +kernel, by decide +kernel⟩
theorem dX11_count_130 : decode cX11_count 130 = .ok (.ireturn, 1) := by decide +kernel
theorem dX11_count_131 : decode cX11_count 131 = .ok (.aload_n 2, 1) := by decide +kernel
theorem dX11_count_132 : decode cX11_count 132 = .ok (.getfield 156, 3) := by decide +kernel
theorem dX11_count_135 : decode cX11_count 135 = .ok (.getfield 329, 3) := by decide +kernel
theorem dX11_count_138 : decode cX11_count 138 = .ok (.ireturn, 1) := by decide +kernel
theorem dX11_count_139 : decode cX11_count 139 = .ok (.aload_n 2, 1) := by decide +kernel
theorem dX11_count_140 : decode cX11_count 140 = .ok (.getfield 156, 3) := by decide +kernel
theorem dX11_count_143 : decode cX11_count 143 = .ok (.getfield 335, 3) := by decide +kernel
theorem dX11_count_146 : decode cX11_count 146 = .ok (.ireturn, 1) := by decide +kernel
theorem dX11_count_147 : decode cX11_count 147 = .ok (.aload_n 2, 1) := by decide +kernel
theorem dX11_count_148 : decode cX11_count 148 = .ok (.getfield 209, 3) := by decide +kernel
theorem fl_RX11_209 : Cond.fieldLink RX11 209 RX10 "lawCount" "I" ∈ gW := gW_u tb_1 235 (by rfl) (by decide +kernel)
theorem dX11_count_151 : decode cX11_count 151 = .ok (.ireturn, 1) := by decide +kernel
theorem dX11_count_152 : decode cX11_count 152 = .ok (.aload_n 0, 1) := by decide +kernel
theorem dX11_count_153 : decode cX11_count 153 = .ok (.getfield 21, 3) := by decide +kernel
theorem dX11_count_156 : decode cX11_count 156 = .ok (.getfield 107, 3) := by decide +kernel
theorem dX11_count_159 : decode cX11_count 159 = .ok (.getfield 387, 3) := by decide +kernel
theorem fl_RX11_387 : Cond.fieldLink RX11 387 RX2 "kept" "I" ∈ gW := gW_u tb_2 31 (by rfl) (by decide +kernel)
theorem dX11_count_162 : decode cX11_count 162 = .ok (.ireturn, 1) := by decide +kernel
theorem dX11_count_163 : decode cX11_count 163 = .ok (.aload_n 0, 1) := by decide +kernel
theorem dX11_count_164 : decode cX11_count 164 = .ok (.getfield 42, 3) := by decide +kernel
theorem dX11_count_167 : decode cX11_count 167 = .ok (.getfield 196, 3) := by decide +kernel
theorem dX11_count_170 : decode cX11_count 170 = .ok (.ireturn, 1) := by decide +kernel
theorem dX11_count_171 : decode cX11_count 171 = .ok (.aload_n 0, 1) := by decide +kernel
theorem dX11_count_172 : decode cX11_count 172 = .ok (.getfield 74, 3) := by decide +kernel
theorem dX11_count_175 : decode cX11_count 175 = .ok (.iconst 1, 1) := by decide +kernel
theorem dX11_count_176 : decode cX11_count 176 = .ok (.iaload, 1) := by decide +kernel
theorem dX11_count_177 : decode cX11_count 177 = .ok (.ireturn, 1) := by decide +kernel
theorem dX11_count_178 : decode cX11_count 178 = .ok (.aload_n 0, 1) := by decide +kernel
theorem dX11_count_179 : decode cX11_count 179 = .ok (.getfield 74, 3) := by decide +kernel
theorem dX11_count_182 : decode cX11_count 182 = .ok (.iconst 2, 1) := by decide +kernel
theorem dX11_count_183 : decode cX11_count 183 = .ok (.iaload, 1) := by decide +kernel
theorem dX11_count_184 : decode cX11_count 184 = .ok (.ireturn, 1) := by decide +kernel
theorem dX11_count_185 : decode cX11_count 185 = .ok (.aload_n 0, 1) := by decide +kernel
theorem dX11_count_186 : decode cX11_count 186 = .ok (.getfield 74, 3) := by decide +kernel
theorem dX11_count_189 : decode cX11_count 189 = .ok (.iconst 3, 1) := by decide +kernel
theorem dX11_count_190 : decode cX11_count 190 = .ok (.iaload, 1) := by decide +kernel
theorem dX11_count_191 : decode cX11_count 191 = .ok (.ireturn, 1) := by decide +kernel
theorem dX11_count_192 : decode cX11_count 192 = .ok (.aload_n 0, 1) := by decide +kernel
theorem dX11_count_193 : decode cX11_count 193 = .ok (.getfield 74, 3) := by decide +kernel
theorem dX11_count_196 : decode cX11_count 196 = .ok (.iconst 5, 1) := by decide +kernel
theorem dX11_count_197 : decode cX11_count 197 = .ok (.iaload, 1) := by decide +kernel
theorem dX11_count_198 : decode cX11_count 198 = .ok (.ireturn, 1) := by decide +kernel
theorem dX11_count_199 : decode cX11_count 199 = .ok (.aload_n 0, 1) := by decide +kernel
theorem dX11_count_200 : decode cX11_count 200 = .ok (.getfield 74, 3) := by decide +kernel
theorem dX11_count_203 : decode cX11_count 203 = .ok (.bipush 6, 2) := by decide +kernel
theorem dX11_count_205 : decode cX11_count 205 = .ok (.iaload, 1) := by decide +kernel
theorem dX11_count_206 : decode cX11_count 206 = .ok (.ireturn, 1) := by decide +kernel
theorem dX11_count_207 : decode cX11_count 207 = .ok (.aload_n 2, 1) := by decide +kernel
theorem dX11_count_208 : decode cX11_count 208 = .ok (.getfield 246, 3) := by decide +kernel
theorem dX11_count_211 : decode cX11_count 211 = .ok (.ireturn, 1) := by decide +kernel
theorem dX11_count_212 : decode cX11_count 212 = .ok (.aload_n 2, 1) := by decide +kernel
theorem dX11_count_213 : decode cX11_count 213 = .ok (.getfield 193, 3) := by decide +kernel
theorem dX11_count_216 : decode cX11_count 216 = .ok (.iconst 0, 1) := by decide +kernel
theorem dX11_count_217 : decode cX11_count 217 = .ok (.iaload, 1) := by decide +kernel
theorem dX11_count_218 : decode cX11_count 218 = .ok (.ireturn, 1) := by decide +kernel
theorem dX11_count_219 : decode cX11_count 219 = .ok (.aload_n 2, 1) := by decide +kernel
theorem dX11_count_220 : decode cX11_count 220 = .ok (.getfield 193, 3) := by decide +kernel
theorem dX11_count_223 : decode cX11_count 223 = .ok (.iconst 1, 1) := by decide +kernel
theorem dX11_count_224 : decode cX11_count 224 = .ok (.iaload, 1) := by decide +kernel
theorem dX11_count_225 : decode cX11_count 225 = .ok (.ireturn, 1) := by decide +kernel
theorem dX11_count_226 : decode cX11_count 226 = .ok (.aload_n 2, 1) := by decide +kernel
theorem dX11_count_227 : decode cX11_count 227 = .ok (.getfield 193, 3) := by decide +kernel
theorem dX11_count_230 : decode cX11_count 230 = .ok (.iconst 2, 1) := by decide +kernel
theorem dX11_count_231 : decode cX11_count 231 = .ok (.iaload, 1) := by decide +kernel
theorem dX11_count_232 : decode cX11_count 232 = .ok (.ireturn, 1) := by decide +kernel
theorem dX11_count_233 : decode cX11_count 233 = .ok (.iconst (-1), 1) := by decide +kernel
theorem dX11_count_234 : decode cX11_count 234 = .ok (.ireturn, 1) := by decide +kernel
def yX11_findWay : MethodName := ⟨RX11, "findWay", "(II)Z"⟩
abbrev cX11_findWay : ByteArray := prog_1_method_47_code
theorem dX11_findWay_0 : decode cX11_findWay 0 = .ok (.aload_n 0, 1) := by decide +kernel
theorem dX11_findWay_1 : decode cX11_findWay 1 = .ok (.getfield 21, 3) := by decide +kernel
theorem dX11_findWay_4 : decode cX11_findWay 4 = .ok (.getfield 78, 3) := by decide +kernel
theorem dX11_findWay_7 : decode cX11_findWay 7 = .ok (.astore_n 3, 1) := by decide +kernel
theorem dX11_findWay_8 : decode cX11_findWay 8 = .ok (.iload_n 1, 1) := by decide +kernel
theorem dX11_findWay_9 : decode cX11_findWay 9 = .ok (.aload_n 3, 1) := by decide +kernel
theorem dX11_findWay_10 : decode cX11_findWay 10 = .ok (.getfield 134, 3) := by decide +kernel
theorem dX11_findWay_13 : decode cX11_findWay 13 = .ok (.getfield 137, 3) := by decide +kernel
theorem dX11_findWay_16 : decode cX11_findWay 16 = .ok (.invokestatic 82, 3) := by decide +kernel
theorem dX11_findWay_19 : decode cX11_findWay 19 = .ok (.ifCond .eq 20, 3) := by decide +kernel
theorem dX11_findWay_39 : decode cX11_findWay 39 = .ok (.iconst 0, 1) := by decide +kernel
theorem dX11_findWay_40 : decode cX11_findWay 40 = .ok (.ireturn, 1) := by decide +kernel
theorem dX11_findWay_22 : decode cX11_findWay 22 = .ok (.iload_n 2, 1) := by decide +kernel
theorem dX11_findWay_23 : decode cX11_findWay 23 = .ok (.bipush 40, 2) := by decide +kernel
theorem dX11_findWay_25 : decode cX11_findWay 25 = .ok (.invokestatic 82, 3) := by decide +kernel
theorem dX11_findWay_28 : decode cX11_findWay 28 = .ok (.ifCond .eq 11, 3) := by decide +kernel
theorem dX11_findWay_31 : decode cX11_findWay 31 = .ok (.aload_n 3, 1) := by decide +kernel
theorem dX11_findWay_32 : decode cX11_findWay 32 = .ok (.iload_n 1, 1) := by decide +kernel
theorem dX11_findWay_33 : decode cX11_findWay 33 = .ok (.invokevirtual 389, 3) := by decide +kernel
theorem lk_RX11_389 : Cond.methodLink RX11 389 yX10_mayBeDugOn ∈ gW := gW_u tb_5 90 (by rfl) (by decide +kernel)
theorem dX11_findWay_36 : decode cX11_findWay 36 = .ok (.ifCond .ne 5, 3) := by decide +kernel
theorem dX11_findWay_41 : decode cX11_findWay 41 = .ok (.aload_n 0, 1) := by decide +kernel
theorem dX11_findWay_42 : decode cX11_findWay 42 = .ok (.getfield 10, 3) := by decide +kernel
theorem dX11_findWay_45 : decode cX11_findWay 45 = .ok (.aload_n 3, 1) := by decide +kernel
theorem dX11_findWay_46 : decode cX11_findWay 46 = .ok (.aload_n 3, 1) := by decide +kernel
theorem dX11_findWay_47 : decode cX11_findWay 47 = .ok (.invokevirtual 116, 3) := by decide +kernel
theorem dX11_findWay_50 : decode cX11_findWay 50 = .ok (.invokevirtual 120, 3) := by decide +kernel
theorem dX11_findWay_53 : decode cX11_findWay 53 = .ok (.aload_n 0, 1) := by decide +kernel
theorem dX11_findWay_54 : decode cX11_findWay 54 = .ok (.getfield 49, 3) := by decide +kernel
theorem fl_RX11_49 : Cond.fieldLink RX11 49 RX11 "ways" "LListenWells$Ways;" ∈ gW := gW_u tb_2 212 (by rfl) (by decide +kernel)
theorem dX11_findWay_57 : decode cX11_findWay 57 = .ok (.aload_n 3, 1) := by decide +kernel
theorem dX11_findWay_58 : decode cX11_findWay 58 = .ok (.getfield 95, 3) := by decide +kernel
theorem dX11_findWay_61 : decode cX11_findWay 61 = .ok (.aload_n 0, 1) := by decide +kernel
theorem dX11_findWay_62 : decode cX11_findWay 62 = .ok (.getfield 10, 3) := by decide +kernel
theorem dX11_findWay_65 : decode cX11_findWay 65 = .ok (.iload_n 1, 1) := by decide +kernel
theorem dX11_findWay_66 : decode cX11_findWay 66 = .ok (.invokevirtual 392, 3) := by decide +kernel
theorem lk_RX11_392 : Cond.methodLink RX11 392 yX9_weigh ∈ gW := gW_u tb_5 91 (by rfl) (by decide +kernel)
theorem dX11_findWay_69 : decode cX11_findWay 69 = .ok (.aload_n 0, 1) := by decide +kernel
theorem dX11_findWay_70 : decode cX11_findWay 70 = .ok (.getfield 49, 3) := by decide +kernel
theorem dX11_findWay_73 : decode cX11_findWay 73 = .ok (.aload_n 0, 1) := by decide +kernel
theorem dX11_findWay_74 : decode cX11_findWay 74 = .ok (.getfield 49, 3) := by decide +kernel
theorem dX11_findWay_77 : decode cX11_findWay 77 = .ok (.aload_n 3, 1) := by decide +kernel
theorem dX11_findWay_78 : decode cX11_findWay 78 = .ok (.getfield 134, 3) := by decide +kernel
theorem dX11_findWay_81 : decode cX11_findWay 81 = .ok (.getfield 147, 3) := by decide +kernel
theorem dX11_findWay_84 : decode cX11_findWay 84 = .ok (.iload_n 1, 1) := by decide +kernel
theorem dX11_findWay_85 : decode cX11_findWay 85 = .ok (.iaload, 1) := by decide +kernel
theorem dX11_findWay_86 : decode cX11_findWay 86 = .ok (.iload_n 2, 1) := by decide +kernel
theorem dX11_findWay_87 : decode cX11_findWay 87 = .ok (.invokevirtual 396, 3) := by decide +kernel
theorem lk_RX11_396 : Cond.methodLink RX11 396 yX9_daysTo ∈ gW := gW_u tb_5 99 (by rfl) (by decide +kernel)
theorem dX11_findWay_90 : decode cX11_findWay 90 = .ok (.putfield 296, 3) := by decide +kernel
theorem fl_RX11_296 : Cond.fieldLink RX11 296 RX9 "days" "I" ∈ gW := gW_u tb_2 155 (by rfl) (by decide +kernel)
theorem dX11_findWay_93 : decode cX11_findWay 93 = .ok (.aload_n 0, 1) := by decide +kernel
theorem dX11_findWay_94 : decode cX11_findWay 94 = .ok (.getfield 49, 3) := by decide +kernel
theorem dX11_findWay_97 : decode cX11_findWay 97 = .ok (.getfield 296, 3) := by decide +kernel
theorem dX11_findWay_100 : decode cX11_findWay 100 = .ok (.ldc_w 399, 3) := by decide +kernel
theorem ct_RX11_399 : Cond.constant RX11 399 1000000 ∈ gW := gW_u tb_5 109 (by rfl) (by decide +kernel)
theorem dX11_findWay_103 : decode cX11_findWay 103 = .ok (.if_icmp .ge 7, 3) := by decide +kernel
theorem dX11_findWay_110 : decode cX11_findWay 110 = .ok (.iconst 0, 1) := by decide +kernel
theorem dX11_findWay_111 : decode cX11_findWay 111 = .ok (.ireturn, 1) := by decide +kernel
theorem dX11_findWay_106 : decode cX11_findWay 106 = .ok (.iconst 1, 1) := by decide +kernel
theorem dX11_findWay_107 : decode cX11_findWay 107 = .ok (.goto 4, 3) := by decide +kernel
theorem dX0_tells_9 : decode cX0_tells 9 = .ok (.aload_n 0, 1) := by decide +kernel
theorem dX0_tells_10 : decode cX0_tells 10 = .ok (.getfield 19, 3) := by decide +kernel
theorem dX0_tells_13 : decode cX0_tells 13 = .ok (.getfield 75, 3) := by decide +kernel
theorem fl_RX0_75 : Cond.fieldLink RX0 75 RX8 "clauses" "I" ∈ gW := gW_u tb_2 93 (by rfl) (by decide +kernel)
theorem dX0_tells_16 : decode cX0_tells 16 = .ok (.iconst 1, 1) := by decide +kernel
theorem dX0_tells_17 : decode cX0_tells 17 = .ok (.isub, 1) := by decide +kernel
theorem dX0_tells_18 : decode cX0_tells 18 = .ok (.istore_n 3, 1) := by decide +kernel
theorem dX0_tells_19 : decode cX0_tells 19 = .ok (.iload_n 3, 1) := by decide +kernel
theorem dX0_tells_20 : decode cX0_tells 20 = .ok (.ifCond .lt 103, 3) := by decide +kernel
theorem dX0_tells_23 : decode cX0_tells 23 = .ok (.aload_n 0, 1) := by decide +kernel
theorem dX0_tells_24 : decode cX0_tells 24 = .ok (.getfield 19, 3) := by decide +kernel
theorem dX0_tells_27 : decode cX0_tells 27 = .ok (.iload_n 3, 1) := by decide +kernel
theorem dX0_tells_28 : decode cX0_tells 28 = .ok (.iconst 0, 1) := by decide +kernel
theorem dX0_tells_29 : decode cX0_tells 29 = .ok (.invokevirtual 80, 3) := by decide +kernel
theorem lk_RX0_80 : Cond.methodLink RX0 80 yX8_headOf ∈ gW := gW_u tb_3 63 (by rfl) (by decide +kernel)
theorem dX0_tells_32 : decode cX0_tells 32 = .ok (.iload_n 1, 1) := by decide +kernel
theorem dX0_tells_33 : decode cX0_tells 33 = .ok (.if_icmp .eq 6, 3) := by decide +kernel
theorem dX0_tells_39 : decode cX0_tells 39 = .ok (.aload_n 0, 1) := by decide +kernel
theorem dX0_tells_40 : decode cX0_tells 40 = .ok (.getfield 19, 3) := by decide +kernel
theorem dX0_tells_43 : decode cX0_tells 43 = .ok (.iload_n 3, 1) := by decide +kernel
theorem dX0_tells_44 : decode cX0_tells 44 = .ok (.iconst 3, 1) := by decide +kernel
theorem dX0_tells_45 : decode cX0_tells 45 = .ok (.invokevirtual 80, 3) := by decide +kernel
theorem dX0_tells_48 : decode cX0_tells 48 = .ok (.istore 4, 2) := by decide +kernel
theorem dX0_tells_50 : decode cX0_tells 50 = .ok (.iload 4, 2) := by decide +kernel
theorem dX0_tells_52 : decode cX0_tells 52 = .ok (.iconst (-1), 1) := by decide +kernel
theorem dX0_tells_53 : decode cX0_tells 53 = .ok (.if_icmp .eq 27, 3) := by decide +kernel
theorem dX0_tells_56 : decode cX0_tells 56 = .ok (.aload_n 0, 1) := by decide +kernel
theorem dX0_tells_57 : decode cX0_tells 57 = .ok (.aload_n 0, 1) := by decide +kernel
theorem dX0_tells_58 : decode cX0_tells 58 = .ok (.getfield 19, 3) := by decide +kernel
theorem dX0_tells_61 : decode cX0_tells 61 = .ok (.iload 4, 2) := by decide +kernel
theorem dX0_tells_63 : decode cX0_tells 63 = .ok (.invokevirtual 83, 3) := by decide +kernel
theorem lk_RX0_83 : Cond.methodLink RX0 83 yX0_reckon ∈ gW := gW_u tb_3 67 (by rfl) (by decide +kernel)
theorem dX0_tells_66 : decode cX0_tells 66 = .ok (.ifCond .eq 51, 3) := by decide +kernel
theorem dX0_tells_117 : decode cX0_tells 117 = .ok (.iinc 3 (-1), 3) := by decide +kernel
theorem dX0_tells_120 : decode cX0_tells 120 = .ok (.goto (-101), 3) := by decide +kernel
theorem dX0_tells_69 : decode cX0_tells 69 = .ok (.aload_n 0, 1) := by decide +kernel
theorem dX0_tells_70 : decode cX0_tells 70 = .ok (.getfield 87, 3) := by decide +kernel
theorem dX0_tells_73 : decode cX0_tells 73 = .ok (.iconst 1, 1) := by decide +kernel
theorem dX0_tells_74 : decode cX0_tells 74 = .ok (.if_icmp .eq 6, 3) := by decide +kernel
theorem dX0_tells_77 : decode cX0_tells 77 = .ok (.goto 40, 3) := by decide +kernel
theorem dX0_tells_80 : decode cX0_tells 80 = .ok (.aload_n 0, 1) := by decide +kernel
theorem dX0_tells_81 : decode cX0_tells 81 = .ok (.getfield 19, 3) := by decide +kernel
theorem dX0_tells_84 : decode cX0_tells 84 = .ok (.iload_n 3, 1) := by decide +kernel
theorem dX0_tells_85 : decode cX0_tells 85 = .ok (.iconst 1, 1) := by decide +kernel
theorem dX0_tells_86 : decode cX0_tells 86 = .ok (.invokevirtual 80, 3) := by decide +kernel
theorem dX0_tells_89 : decode cX0_tells 89 = .ok (.istore 5, 2) := by decide +kernel
theorem dX0_tells_91 : decode cX0_tells 91 = .ok (.iload 5, 2) := by decide +kernel
theorem dX0_tells_93 : decode cX0_tells 93 = .ok (.iconst (-1), 1) := by decide +kernel
theorem dX0_tells_94 : decode cX0_tells 94 = .ok (.if_icmp .ne 5, 3) := by decide +kernel
theorem dX0_tells_99 : decode cX0_tells 99 = .ok (.aload_n 0, 1) := by decide +kernel
theorem dX0_tells_100 : decode cX0_tells 100 = .ok (.aload_n 0, 1) := by decide +kernel
theorem dX0_tells_101 : decode cX0_tells 101 = .ok (.getfield 19, 3) := by decide +kernel
theorem dX0_tells_104 : decode cX0_tells 104 = .ok (.iload 5, 2) := by decide +kernel
theorem dX0_tells_106 : decode cX0_tells 106 = .ok (.invokevirtual 83, 3) := by decide +kernel
theorem dX0_tells_109 : decode cX0_tells 109 = .ok (.ifCond .eq 8, 3) := by decide +kernel
theorem dX0_tells_112 : decode cX0_tells 112 = .ok (.aload_n 0, 1) := by decide +kernel
theorem dX0_tells_113 : decode cX0_tells 113 = .ok (.getfield 87, 3) := by decide +kernel
theorem dX0_tells_116 : decode cX0_tells 116 = .ok (.ireturn, 1) := by decide +kernel
theorem dX0_tells_97 : decode cX0_tells 97 = .ok (.iconst 1, 1) := by decide +kernel
theorem dX0_tells_98 : decode cX0_tells 98 = .ok (.ireturn, 1) := by decide +kernel
theorem dX0_tells_36 : decode cX0_tells 36 = .ok (.goto 81, 3) := by decide +kernel
theorem dX0_tells_123 : decode cX0_tells 123 = .ok (.iload_n 2, 1) := by decide +kernel
theorem dX0_tells_124 : decode cX0_tells 124 = .ok (.ireturn, 1) := by decide +kernel
def yX3_measure : MethodName := ⟨RX3, "measure", "(LListenWells$World;LListenWells$Text;)V"⟩
abbrev cX3_measure : ByteArray := prog_5_method_2_code
theorem dX3_measure_0 : decode cX3_measure 0 = .ok (.aload_n 0, 1) := by decide +kernel
theorem dX3_measure_1 : decode cX3_measure 1 = .ok (.getfield 21, 3) := by decide +kernel
theorem dX3_measure_4 : decode cX3_measure 4 = .ok (.aload_n 1, 1) := by decide +kernel
theorem dX3_measure_5 : decode cX3_measure 5 = .ok (.aload_n 2, 1) := by decide +kernel
theorem dX3_measure_6 : decode cX3_measure 6 = .ok (.invokevirtual 25, 3) := by decide +kernel
theorem lk_RX3_25 : Cond.methodLink RX3 25 yX0_turnTo ∈ gW := gW_u tb_5 27 (by rfl) (by decide +kernel)
theorem dX3_measure_9 : decode cX3_measure 9 = .ok (.iconst 0, 1) := by decide +kernel
theorem dX3_measure_10 : decode cX3_measure 10 = .ok (.istore_n 3, 1) := by decide +kernel
theorem dX3_measure_11 : decode cX3_measure 11 = .ok (.iload_n 3, 1) := by decide +kernel
theorem dX3_measure_12 : decode cX3_measure 12 = .ok (.bipush 40, 2) := by decide +kernel
theorem dX3_measure_14 : decode cX3_measure 14 = .ok (.if_icmp .ge 27, 3) := by decide +kernel
theorem dX3_measure_17 : decode cX3_measure 17 = .ok (.aload_n 1, 1) := by decide +kernel
theorem dX3_measure_18 : decode cX3_measure 18 = .ok (.getfield 31, 3) := by decide +kernel
theorem dX3_measure_21 : decode cX3_measure 21 = .ok (.getfield 37, 3) := by decide +kernel
theorem dX3_measure_24 : decode cX3_measure 24 = .ok (.iload_n 3, 1) := by decide +kernel
theorem dX3_measure_25 : decode cX3_measure 25 = .ok (.iaload, 1) := by decide +kernel
theorem dX3_measure_26 : decode cX3_measure 26 = .ok (.iconst 3, 1) := by decide +kernel
theorem dX3_measure_27 : decode cX3_measure 27 = .ok (.if_icmp .ne 8, 3) := by decide +kernel
theorem dX3_measure_35 : decode cX3_measure 35 = .ok (.iinc 3 1, 3) := by decide +kernel
theorem dX3_measure_38 : decode cX3_measure 38 = .ok (.goto (-27), 3) := by decide +kernel
theorem dX3_measure_30 : decode cX3_measure 30 = .ok (.aload_n 0, 1) := by decide +kernel
theorem dX3_measure_31 : decode cX3_measure 31 = .ok (.iload_n 3, 1) := by decide +kernel
theorem dX3_measure_32 : decode cX3_measure 32 = .ok (.invokevirtual 42, 3) := by decide +kernel
theorem lk_RX3_42 : Cond.methodLink RX3 42 yX3_measureCell ∈ gW := gW_u tb_5 28 (by rfl) (by decide +kernel)
theorem mI_X3_measureCell : Cond.instanceMethod yX3_measureCell ∈ gW := gW_u tb_5 30 (by rfl) (by decide +kernel)
theorem mS_X3_measureCell : Cond.selects RX3 yX3_measureCell yX3_measureCell ∈ gW := gW_p (q := (yX3_measureCell, 4)) 29 (by decide +kernel)
theorem mC_X3_measureCell : Cond.code yX3_measureCell cX3_measureCell 2 none ∈ gW := gW_u tb_5 31 (by rfl) (by decide +kernel)
theorem ok_X3_measureCell : okD yX3_measureCell 1 := ⟨by decide +kernel, by decide +kernel, by decide +kernel⟩
theorem dX3_measure_41 : decode cX3_measure 41 = .ok (.return_, 1) := by decide +kernel
def yX3_fewestToHush : MethodName := ⟨RX3, "fewestToHush", "(LListenWells$World;II)I"⟩
abbrev cX3_fewestToHush : ByteArray := prog_5_method_6_code
theorem dX3_fewestToHush_0 : decode cX3_fewestToHush 0 = .ok (.aload_n 0, 1) := by decide +kernel
theorem dX3_fewestToHush_1 : decode cX3_fewestToHush 1 = .ok (.iload_n 3, 1) := by decide +kernel
theorem dX3_fewestToHush_2 : decode cX3_fewestToHush 2 = .ok (.invokevirtual 42, 3) := by decide +kernel
theorem dX3_fewestToHush_5 : decode cX3_fewestToHush 5 = .ok (.iconst (-1), 1) := by decide +kernel
theorem dX3_fewestToHush_6 : decode cX3_fewestToHush 6 = .ok (.istore 4, 2) := by decide +kernel
theorem dX3_fewestToHush_8 : decode cX3_fewestToHush 8 = .ok (.iconst 0, 1) := by decide +kernel
theorem dX3_fewestToHush_9 : decode cX3_fewestToHush 9 = .ok (.istore 5, 2) := by decide +kernel
theorem dX3_fewestToHush_11 : decode cX3_fewestToHush 11 = .ok (.iload 5, 2) := by decide +kernel
theorem dX3_fewestToHush_13 : decode cX3_fewestToHush 13 = .ok (.iconst 1, 1) := by decide +kernel
theorem dX3_fewestToHush_14 : decode cX3_fewestToHush 14 = .ok (.aload_n 1, 1) := by decide +kernel
theorem dX3_fewestToHush_15 : decode cX3_fewestToHush 15 = .ok (.getfield 56, 3) := by decide +kernel
theorem dX3_fewestToHush_18 : decode cX3_fewestToHush 18 = .ok (.getfield 74, 3) := by decide +kernel
theorem fl_RX3_74 : Cond.fieldLink RX3 74 RX4 "noises" "I" ∈ gW := gW_u tb_1 166 (by rfl) (by decide +kernel)
theorem dX3_fewestToHush_21 : decode cX3_fewestToHush 21 = .ok (.ishl, 1) := by decide +kernel
theorem dX3_fewestToHush_22 : decode cX3_fewestToHush 22 = .ok (.if_icmp .ge 81, 3) := by decide +kernel
theorem dX3_fewestToHush_25 : decode cX3_fewestToHush 25 = .ok (.iload 4, 2) := by decide +kernel
theorem dX3_fewestToHush_27 : decode cX3_fewestToHush 27 = .ok (.iconst (-1), 1) := by decide +kernel
theorem dX3_fewestToHush_28 : decode cX3_fewestToHush 28 = .ok (.if_icmp .eq 16, 3) := by decide +kernel
theorem dX3_fewestToHush_44 : decode cX3_fewestToHush 44 = .ok (.iconst 1, 1) := by decide +kernel
theorem dX3_fewestToHush_45 : decode cX3_fewestToHush 45 = .ok (.goto 4, 3) := by decide +kernel
theorem dX3_fewestToHush_31 : decode cX3_fewestToHush 31 = .ok (.iload 5, 2) := by decide +kernel
theorem dX3_fewestToHush_33 : decode cX3_fewestToHush 33 = .ok (.invokestatic 78, 3) := by decide +kernel
theorem lk_RX3_78 : Cond.methodLink RX3 78 yJ6_bitCount_0f7a4 ∈ gW := gW_u tb_5 155 (by rfl) (by decide +kernel)
theorem dX3_fewestToHush_36 : decode cX3_fewestToHush 36 = .ok (.iload 4, 2) := by decide +kernel
theorem dX3_fewestToHush_38 : decode cX3_fewestToHush 38 = .ok (.invokestatic 78, 3) := by decide +kernel
theorem dX3_fewestToHush_41 : decode cX3_fewestToHush 41 = .ok (.if_icmp .ge 7, 3) := by decide +kernel
theorem dX3_fewestToHush_48 : decode cX3_fewestToHush 48 = .ok (.iconst 0, 1) := by decide +kernel
theorem dX3_fewestToHush_49 : decode cX3_fewestToHush 49 = .ok (.istore 6, 2) := by decide +kernel
theorem dX3_fewestToHush_51 : decode cX3_fewestToHush 51 = .ok (.iload 5, 2) := by decide +kernel
theorem dX3_fewestToHush_53 : decode cX3_fewestToHush 53 = .ok (.aload_n 1, 1) := by decide +kernel
theorem dX3_fewestToHush_54 : decode cX3_fewestToHush 54 = .ok (.getfield 56, 3) := by decide +kernel
theorem dX3_fewestToHush_57 : decode cX3_fewestToHush 57 = .ok (.getfield 84, 3) := by decide +kernel
theorem fl_RX3_84 : Cond.fieldLink RX3 84 RX4 "hushed" "I" ∈ gW := gW_u tb_1 170 (by rfl) (by decide +kernel)
theorem dX3_fewestToHush_60 : decode cX3_fewestToHush 60 = .ok (.iand, 1) := by decide +kernel
theorem dX3_fewestToHush_61 : decode cX3_fewestToHush 61 = .ok (.ifCond .ne 7, 3) := by decide +kernel
theorem dX3_fewestToHush_68 : decode cX3_fewestToHush 68 = .ok (.iconst 0, 1) := by decide +kernel
theorem dX3_fewestToHush_64 : decode cX3_fewestToHush 64 = .ok (.iconst 1, 1) := by decide +kernel
theorem dX3_fewestToHush_65 : decode cX3_fewestToHush 65 = .ok (.goto 4, 3) := by decide +kernel
theorem dX3_fewestToHush_69 : decode cX3_fewestToHush 69 = .ok (.istore 7, 2) := by decide +kernel
theorem dX3_fewestToHush_71 : decode cX3_fewestToHush 71 = .ok (.iload 6, 2) := by decide +kernel
theorem dX3_fewestToHush_73 : decode cX3_fewestToHush 73 = .ok (.ifCond .eq 24, 3) := by decide +kernel
theorem dX3_fewestToHush_97 : decode cX3_fewestToHush 97 = .ok (.iinc 5 1, 3) := by decide +kernel
theorem dX3_fewestToHush_100 : decode cX3_fewestToHush 100 = .ok (.goto (-89), 3) := by decide +kernel
theorem dX3_fewestToHush_76 : decode cX3_fewestToHush 76 = .ok (.iload 7, 2) := by decide +kernel
theorem dX3_fewestToHush_78 : decode cX3_fewestToHush 78 = .ok (.ifCond .eq 19, 3) := by decide +kernel
theorem dX3_fewestToHush_81 : decode cX3_fewestToHush 81 = .ok (.aload_n 0, 1) := by decide +kernel
theorem dX3_fewestToHush_82 : decode cX3_fewestToHush 82 = .ok (.aload_n 1, 1) := by decide +kernel
theorem dX3_fewestToHush_83 : decode cX3_fewestToHush 83 = .ok (.iload_n 2, 1) := by decide +kernel
theorem dX3_fewestToHush_84 : decode cX3_fewestToHush 84 = .ok (.iload_n 3, 1) := by decide +kernel
theorem dX3_fewestToHush_85 : decode cX3_fewestToHush 85 = .ok (.iload 5, 2) := by decide +kernel
theorem dX3_fewestToHush_87 : decode cX3_fewestToHush 87 = .ok (.invokevirtual 87, 3) := by decide +kernel
theorem lk_RX3_87 : Cond.methodLink RX3 87 yX3_allHear ∈ gW := gW_u tb_5 161 (by rfl) (by decide +kernel)
theorem mI_X3_allHear : Cond.instanceMethod yX3_allHear ∈ gW := gW_u tb_5 163 (by rfl) (by decide +kernel)
theorem mS_X3_allHear : Cond.selects RX3 yX3_allHear yX3_allHear ∈ gW := gW_p (q := (yX3_allHear, 4)) 37 (by decide +kernel)
theorem mC_X3_allHear : Cond.code yX3_allHear cX3_allHear 9 (some .boolean) ∈ gW := gW_u tb_5 164 (by rfl) (by decide +kernel)
theorem ok_X3_allHear : okD yX3_allHear 4 := ⟨by decide +kernel, by decide +kernel, by decide +kernel⟩
theorem dX3_fewestToHush_90 : decode cX3_fewestToHush 90 = .ok (.ifCond .eq 7, 3) := by decide +kernel
theorem dX3_fewestToHush_93 : decode cX3_fewestToHush 93 = .ok (.iload 5, 2) := by decide +kernel
theorem dX3_fewestToHush_95 : decode cX3_fewestToHush 95 = .ok (.istore 4, 2) := by decide +kernel
theorem dX3_fewestToHush_103 : decode cX3_fewestToHush 103 = .ok (.iload 4, 2) := by decide +kernel
theorem dX3_fewestToHush_105 : decode cX3_fewestToHush 105 = .ok (.ireturn, 1) := by decide +kernel
