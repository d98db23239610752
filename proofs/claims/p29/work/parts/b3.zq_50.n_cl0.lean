def yX0_turnTo : MethodName := ⟨RX0, "turnTo", "(LListenWells$World;LListenWells$Text;)V"⟩
abbrev cX0_turnTo : ByteArray := prog_2_method_2_code
theorem dX0_turnTo_0 : decode cX0_turnTo 0 = .ok (.aload_n 0, 1) := by decide +kernel
theorem dX0_turnTo_1 : decode cX0_turnTo 1 = .ok (.aload_n 1, 1) := by decide +kernel
theorem dX0_turnTo_2 : decode cX0_turnTo 2 = .ok (.putfield 15, 3) := by decide +kernel
theorem fl_RX0_15 : Cond.fieldLink RX0 15 RX0 "world" "LListenWells$World;" ∈ gW := gW_u tb_1 38 (by rfl) (by decide +kernel)
theorem dX0_turnTo_5 : decode cX0_turnTo 5 = .ok (.aload_n 0, 1) := by decide +kernel
theorem dX0_turnTo_6 : decode cX0_turnTo 6 = .ok (.aload_n 2, 1) := by decide +kernel
theorem dX0_turnTo_7 : decode cX0_turnTo 7 = .ok (.putfield 19, 3) := by decide +kernel
theorem fl_RX0_19 : Cond.fieldLink RX0 19 RX0 "law" "LListenWells$Text;" ∈ gW := gW_u tb_1 39 (by rfl) (by decide +kernel)
theorem dX0_turnTo_10 : decode cX0_turnTo 10 = .ok (.return_, 1) := by decide +kernel
def yX0_turnToOrders : MethodName := ⟨RX0, "turnToOrders", "(LListenWells$World;II)V"⟩
abbrev cX0_turnToOrders : ByteArray := prog_2_method_3_code
theorem dX0_turnToOrders_0 : decode cX0_turnToOrders 0 = .ok (.aload_n 0, 1) := by decide +kernel
theorem dX0_turnToOrders_1 : decode cX0_turnToOrders 1 = .ok (.aload_n 1, 1) := by decide +kernel
theorem dX0_turnToOrders_2 : decode cX0_turnToOrders 2 = .ok (.putfield 15, 3) := by decide +kernel
theorem dX0_turnToOrders_5 : decode cX0_turnToOrders 5 = .ok (.aload_n 0, 1) := by decide +kernel
theorem dX0_turnToOrders_6 : decode cX0_turnToOrders 6 = .ok (.iload_n 2, 1) := by decide +kernel
theorem dX0_turnToOrders_7 : decode cX0_turnToOrders 7 = .ok (.putfield 23, 3) := by decide +kernel
theorem fl_RX0_23 : Cond.fieldLink RX0 23 RX0 "done" "I" ∈ gW := gW_u tb_1 43 (by rfl) (by decide +kernel)
theorem dX0_turnToOrders_10 : decode cX0_turnToOrders 10 = .ok (.aload_n 0, 1) := by decide +kernel
theorem dX0_turnToOrders_11 : decode cX0_turnToOrders 11 = .ok (.iload_n 3, 1) := by decide +kernel
theorem dX0_turnToOrders_12 : decode cX0_turnToOrders 12 = .ok (.putfield 27, 3) := by decide +kernel
theorem fl_RX0_27 : Cond.fieldLink RX0 27 RX0 "latest" "I" ∈ gW := gW_u tb_1 44 (by rfl) (by decide +kernel)
theorem dX0_turnToOrders_15 : decode cX0_turnToOrders 15 = .ok (.return_, 1) := by decide +kernel
def yX0_askOf : MethodName := ⟨RX0, "askOf", "(III)V"⟩
abbrev cX0_askOf : ByteArray := prog_2_method_9_code
theorem dX0_askOf_0 : decode cX0_askOf 0 = .ok (.aload_n 0, 1) := by decide +kernel
theorem dX0_askOf_1 : decode cX0_askOf 1 = .ok (.iload_n 1, 1) := by decide +kernel
theorem dX0_askOf_2 : decode cX0_askOf 2 = .ok (.putfield 67, 3) := by decide +kernel
theorem fl_RX0_67 : Cond.fieldLink RX0 67 RX0 "cell" "I" ∈ gW := gW_u tb_1 40 (by rfl) (by decide +kernel)
theorem dX0_askOf_5 : decode cX0_askOf 5 = .ok (.aload_n 0, 1) := by decide +kernel
theorem dX0_askOf_6 : decode cX0_askOf 6 = .ok (.iload_n 2, 1) := by decide +kernel
theorem dX0_askOf_7 : decode cX0_askOf 7 = .ok (.putfield 70, 3) := by decide +kernel
theorem fl_RX0_70 : Cond.fieldLink RX0 70 RX0 "shaft" "I" ∈ gW := gW_u tb_1 41 (by rfl) (by decide +kernel)
theorem dX0_askOf_10 : decode cX0_askOf 10 = .ok (.aload_n 0, 1) := by decide +kernel
theorem dX0_askOf_11 : decode cX0_askOf 11 = .ok (.iload_n 3, 1) := by decide +kernel
theorem dX0_askOf_12 : decode cX0_askOf 12 = .ok (.putfield 73, 3) := by decide +kernel
theorem fl_RX0_73 : Cond.fieldLink RX0 73 RX0 "kind" "I" ∈ gW := gW_u tb_1 42 (by rfl) (by decide +kernel)
theorem dX0_askOf_15 : decode cX0_askOf 15 = .ok (.return_, 1) := by decide +kernel
def yX0_tells : MethodName := ⟨RX0, "tells", "(II)I"⟩
abbrev cX0_tells : ByteArray := prog_2_method_10_code
theorem dX0_tells_0 : decode cX0_tells 0 = .ok (.aload_n 0, 1) := by decide +kernel
theorem dX0_tells_1 : decode cX0_tells 1 = .ok (.getfield 19, 3) := by decide +kernel
theorem dX0_tells_4 : decode cX0_tells 4 = .ok (.ifnonnull 5, 3) := by decide +kernel
theorem dX0_tells_7 : decode cX0_tells 7 = .ok (.iload_n 2, 1) := by decide +kernel
theorem dX0_tells_8 : decode cX0_tells 8 = .ok (.ireturn, 1) := by decide +kernel
def yX0_reckoned : MethodName := ⟨RX0, "reckoned", "()I"⟩
abbrev cX0_reckoned : ByteArray := prog_2_method_11_code
theorem dX0_reckoned_0 : decode cX0_reckoned 0 = .ok (.aload_n 0, 1) := by decide +kernel
theorem dX0_reckoned_1 : decode cX0_reckoned 1 = .ok (.getfield 87, 3) := by decide +kernel
theorem fl_RX0_87 : Cond.fieldLink RX0 87 RX0 "value" "I" ∈ gW := gW_u tb_1 45 (by rfl) (by decide +kernel)
theorem dX0_reckoned_4 : decode cX0_reckoned 4 = .ok (.ireturn, 1) := by decide +kernel
def yX0_joined : MethodName := ⟨RX0, "joined", "(IJJ)J"⟩
abbrev cX0_joined : ByteArray := prog_2_method_13_code
theorem dX0_joined_0 : decode cX0_joined 0 = .ok (.iload_n 0, 1) := by decide +kernel
theorem dX0_joined_1 : decode cX0_joined 1 = .ok (.tableswitch 127 2 9 #[47, 51, 55, 59, 75, 91, 103, 115], 47) := by decide +kernel
theorem dX0_joined_48 : decode cX0_joined 48 = .ok (.lload_n 1, 1) := by decide +kernel
theorem dX0_joined_49 : decode cX0_joined 49 = .ok (.lload_n 3, 1) := by decide +kernel
theorem dX0_joined_50 : decode cX0_joined 50 = .ok (.ladd, 1) := by decide +kernel
theorem dX0_joined_51 : decode cX0_joined 51 = .ok (.lreturn, 1) := by decide +kernel
theorem dX0_joined_52 : decode cX0_joined 52 = .ok (.lload_n 1, 1) := by decide +kernel
theorem dX0_joined_53 : decode cX0_joined 53 = .ok (.lload_n 3, 1) := by decide +kernel
theorem dX0_joined_54 : decode cX0_joined 54 = .ok (.lsub, 1) := by decide +kernel
theorem dX0_joined_55 : decode cX0_joined 55 = .ok (.lreturn, 1) := by decide +kernel
theorem dX0_joined_56 : decode cX0_joined 56 = .ok (.lload_n 1, 1) := by decide +kernel
theorem dX0_joined_57 : decode cX0_joined 57 = .ok (.lload_n 3, 1) := by decide +kernel
theorem dX0_joined_58 : decode cX0_joined 58 = .ok (.lmul, 1) := by decide +kernel
theorem dX0_joined_59 : decode cX0_joined 59 = .ok (.lreturn, 1) := by decide +kernel
theorem dX0_joined_60 : decode cX0_joined 60 = .ok (.lload_n 3, 1) := by decide +kernel
theorem dX0_joined_61 : decode cX0_joined 61 = .ok (.lconst 0, 1) := by decide +kernel
theorem dX0_joined_62 : decode cX0_joined 62 = .ok (.lcmp, 1) := by decide +kernel
theorem dX0_joined_63 : decode cX0_joined 63 = .ok (.ifCond .ne 9, 3) := by decide +kernel
theorem dX0_joined_72 : decode cX0_joined 72 = .ok (.lload_n 1, 1) := by decide +kernel
theorem dX0_joined_73 : decode cX0_joined 73 = .ok (.lload_n 3, 1) := by decide +kernel
theorem dX0_joined_74 : decode cX0_joined 74 = .ok (.ldiv, 1) := by decide +kernel
theorem dX0_joined_75 : decode cX0_joined 75 = .ok (.lreturn, 1) := by decide +kernel
theorem dX0_joined_66 : decode cX0_joined 66 = .ok (.ldc2_w 107, 3) := by decide +kernel
theorem ct_RX0_107 : Cond.constantLong RX0 107 1000000001 ∈ gW := gW_u tb_3 78 (by rfl) (by decide +kernel)
theorem dX0_joined_69 : decode cX0_joined 69 = .ok (.goto 6, 3) := by decide +kernel
theorem dX0_joined_76 : decode cX0_joined 76 = .ok (.lload_n 3, 1) := by decide +kernel
theorem dX0_joined_77 : decode cX0_joined 77 = .ok (.lconst 0, 1) := by decide +kernel
theorem dX0_joined_78 : decode cX0_joined 78 = .ok (.lcmp, 1) := by decide +kernel
theorem dX0_joined_79 : decode cX0_joined 79 = .ok (.ifCond .ne 9, 3) := by decide +kernel
theorem dX0_joined_88 : decode cX0_joined 88 = .ok (.lload_n 1, 1) := by decide +kernel
theorem dX0_joined_89 : decode cX0_joined 89 = .ok (.lload_n 3, 1) := by decide +kernel
theorem dX0_joined_90 : decode cX0_joined 90 = .ok (.lrem, 1) := by decide +kernel
theorem dX0_joined_91 : decode cX0_joined 91 = .ok (.lreturn, 1) := by decide +kernel
theorem dX0_joined_82 : decode cX0_joined 82 = .ok (.ldc2_w 107, 3) := by decide +kernel
theorem dX0_joined_85 : decode cX0_joined 85 = .ok (.goto 6, 3) := by decide +kernel
theorem dX0_joined_92 : decode cX0_joined 92 = .ok (.lload_n 1, 1) := by decide +kernel
theorem dX0_joined_93 : decode cX0_joined 93 = .ok (.lload_n 3, 1) := by decide +kernel
theorem dX0_joined_94 : decode cX0_joined 94 = .ok (.lcmp, 1) := by decide +kernel
theorem dX0_joined_95 : decode cX0_joined 95 = .ok (.ifCond .ge 7, 3) := by decide +kernel
theorem dX0_joined_102 : decode cX0_joined 102 = .ok (.lconst 0, 1) := by decide +kernel
theorem dX0_joined_103 : decode cX0_joined 103 = .ok (.lreturn, 1) := by decide +kernel
theorem dX0_joined_98 : decode cX0_joined 98 = .ok (.lconst 1, 1) := by decide +kernel
theorem dX0_joined_99 : decode cX0_joined 99 = .ok (.goto 4, 3) := by decide +kernel
theorem dX0_joined_104 : decode cX0_joined 104 = .ok (.lload_n 1, 1) := by decide +kernel
theorem dX0_joined_105 : decode cX0_joined 105 = .ok (.lload_n 3, 1) := by decide +kernel
theorem dX0_joined_106 : decode cX0_joined 106 = .ok (.lcmp, 1) := by decide +kernel
theorem dX0_joined_107 : decode cX0_joined 107 = .ok (.ifCond .le 7, 3) := by decide +kernel
theorem dX0_joined_114 : decode cX0_joined 114 = .ok (.lconst 0, 1) := by decide +kernel
theorem dX0_joined_115 : decode cX0_joined 115 = .ok (.lreturn, 1) := by decide +kernel
theorem dX0_joined_110 : decode cX0_joined 110 = .ok (.lconst 1, 1) := by decide +kernel
theorem dX0_joined_111 : decode cX0_joined 111 = .ok (.goto 4, 3) := by decide +kernel
theorem dX0_joined_116 : decode cX0_joined 116 = .ok (.lload_n 1, 1) := by decide +kernel
theorem dX0_joined_117 : decode cX0_joined 117 = .ok (.lload_n 3, 1) := by decide +kernel
theorem dX0_joined_118 : decode cX0_joined 118 = .ok (.lcmp, 1) := by decide +kernel
theorem dX0_joined_119 : decode cX0_joined 119 = .ok (.ifCond .ne 7, 3) := by decide +kernel
theorem dX0_joined_126 : decode cX0_joined 126 = .ok (.lconst 0, 1) := by decide +kernel
theorem dX0_joined_127 : decode cX0_joined 127 = .ok (.lreturn, 1) := by decide +kernel
theorem dX0_joined_122 : decode cX0_joined 122 = .ok (.lconst 1, 1) := by decide +kernel
theorem dX0_joined_123 : decode cX0_joined 123 = .ok (.goto 4, 3) := by decide +kernel
theorem dX0_joined_128 : decode cX0_joined 128 = .ok (.ldc2_w 107, 3) := by decide +kernel
theorem dX0_joined_131 : decode cX0_joined 131 = .ok (.lreturn, 1) := by decide +kernel
def yX0_wordValue : MethodName := ⟨RX0, "wordValue", "(II)I"⟩
abbrev cX0_wordValue : ByteArray := prog_2_method_14_code
theorem dX0_wordValue_0 : decode cX0_wordValue 0 = .ok (.iload_n 1, 1) := by decide +kernel
theorem dX0_wordValue_1 : decode cX0_wordValue 1 = .ok (.bipush 13, 2) := by decide +kernel
theorem dX0_wordValue_3 : decode cX0_wordValue 3 = .ok (.if_icmp .ne 7, 3) := by decide +kernel
theorem dX0_wordValue_10 : decode cX0_wordValue 10 = .ok (.iload_n 1, 1) := by decide +kernel
theorem dX0_wordValue_11 : decode cX0_wordValue 11 = .ok (.bipush 20, 2) := by decide +kernel
theorem dX0_wordValue_13 : decode cX0_wordValue 13 = .ok (.isub, 1) := by decide +kernel
theorem dX0_wordValue_6 : decode cX0_wordValue 6 = .ok (.iconst (-1), 1) := by decide +kernel
theorem dX0_wordValue_7 : decode cX0_wordValue 7 = .ok (.goto 7, 3) := by decide +kernel
theorem dX0_wordValue_14 : decode cX0_wordValue 14 = .ok (.tableswitch 320 (-1) 28 #[134, 320, 320, 320, 320, 320, 320, 320, 320, 320, 165, 170, 178, 186, 191, 207, 223, 228, 238, 320, 320, 320, 320, 320, 320, 320, 248, 253, 258, 289], 134) := by decide +kernel
theorem dX0_wordValue_148 : decode cX0_wordValue 148 = .ok (.iload_n 2, 1) := by decide +kernel
theorem dX0_wordValue_149 : decode cX0_wordValue 149 = .ok (.aload_n 0, 1) := by decide +kernel
theorem dX0_wordValue_150 : decode cX0_wordValue 150 = .ok (.getfield 15, 3) := by decide +kernel
theorem dX0_wordValue_153 : decode cX0_wordValue 153 = .ok (.getfield 109, 3) := by decide +kernel
theorem fl_RX0_109 : Cond.fieldLink RX0 109 RX10 "folk" "LListenWells$Folk;" ∈ gW := gW_u tb_1 227 (by rfl) (by decide +kernel)
theorem dX0_wordValue_156 : decode cX0_wordValue 156 = .ok (.getfield 113, 3) := by decide +kernel
theorem fl_RX0_113 : Cond.fieldLink RX0 113 RX4 "listeners" "I" ∈ gW := gW_u tb_1 158 (by rfl) (by decide +kernel)
theorem dX0_wordValue_159 : decode cX0_wordValue 159 = .ok (.if_icmp .ge 18, 3) := by decide +kernel
theorem dX0_wordValue_177 : decode cX0_wordValue 177 = .ok (.iconst (-1), 1) := by decide +kernel
theorem dX0_wordValue_178 : decode cX0_wordValue 178 = .ok (.ireturn, 1) := by decide +kernel
theorem dX0_wordValue_162 : decode cX0_wordValue 162 = .ok (.aload_n 0, 1) := by decide +kernel
theorem dX0_wordValue_163 : decode cX0_wordValue 163 = .ok (.getfield 15, 3) := by decide +kernel
theorem dX0_wordValue_166 : decode cX0_wordValue 166 = .ok (.getfield 109, 3) := by decide +kernel
theorem dX0_wordValue_169 : decode cX0_wordValue 169 = .ok (.getfield 118, 3) := by decide +kernel
theorem fl_RX0_118 : Cond.fieldLink RX0 118 RX4 "column" "[I" ∈ gW := gW_u tb_1 150 (by rfl) (by decide +kernel)
theorem dX0_wordValue_172 : decode cX0_wordValue 172 = .ok (.iload_n 2, 1) := by decide +kernel
theorem dX0_wordValue_173 : decode cX0_wordValue 173 = .ok (.iaload, 1) := by decide +kernel
theorem dX0_wordValue_174 : decode cX0_wordValue 174 = .ok (.goto 4, 3) := by decide +kernel
theorem dX0_wordValue_334 : decode cX0_wordValue 334 = .ok (.iconst 0, 1) := by decide +kernel
theorem dX0_wordValue_335 : decode cX0_wordValue 335 = .ok (.ireturn, 1) := by decide +kernel
theorem dX0_wordValue_179 : decode cX0_wordValue 179 = .ok (.aload_n 0, 1) := by decide +kernel
theorem dX0_wordValue_180 : decode cX0_wordValue 180 = .ok (.getfield 67, 3) := by decide +kernel
theorem dX0_wordValue_183 : decode cX0_wordValue 183 = .ok (.ireturn, 1) := by decide +kernel
theorem dX0_wordValue_184 : decode cX0_wordValue 184 = .ok (.aload_n 0, 1) := by decide +kernel
theorem dX0_wordValue_185 : decode cX0_wordValue 185 = .ok (.getfield 67, 3) := by decide +kernel
theorem dX0_wordValue_188 : decode cX0_wordValue 188 = .ok (.bipush 8, 2) := by decide +kernel
theorem dX0_wordValue_190 : decode cX0_wordValue 190 = .ok (.irem, 1) := by decide +kernel
theorem dX0_wordValue_191 : decode cX0_wordValue 191 = .ok (.ireturn, 1) := by decide +kernel
theorem dX0_wordValue_192 : decode cX0_wordValue 192 = .ok (.aload_n 0, 1) := by decide +kernel
theorem dX0_wordValue_193 : decode cX0_wordValue 193 = .ok (.getfield 67, 3) := by decide +kernel
theorem dX0_wordValue_196 : decode cX0_wordValue 196 = .ok (.bipush 8, 2) := by decide +kernel
theorem dX0_wordValue_198 : decode cX0_wordValue 198 = .ok (.idiv, 1) := by decide +kernel
theorem dX0_wordValue_199 : decode cX0_wordValue 199 = .ok (.ireturn, 1) := by decide +kernel
theorem dX0_wordValue_200 : decode cX0_wordValue 200 = .ok (.aload_n 0, 1) := by decide +kernel
theorem dX0_wordValue_201 : decode cX0_wordValue 201 = .ok (.getfield 73, 3) := by decide +kernel
theorem dX0_wordValue_204 : decode cX0_wordValue 204 = .ok (.ireturn, 1) := by decide +kernel
theorem dX0_wordValue_205 : decode cX0_wordValue 205 = .ok (.aload_n 0, 1) := by decide +kernel
theorem dX0_wordValue_206 : decode cX0_wordValue 206 = .ok (.getfield 15, 3) := by decide +kernel
theorem dX0_wordValue_209 : decode cX0_wordValue 209 = .ok (.getfield 44, 3) := by decide +kernel
theorem fl_RX0_44 : Cond.fieldLink RX0 44 RX10 "rock" "LListenWells$Rock;" ∈ gW := gW_u tb_1 216 (by rfl) (by decide +kernel)
theorem dX0_wordValue_212 : decode cX0_wordValue 212 = .ok (.getfield 56, 3) := by decide +kernel
theorem fl_RX0_56 : Cond.fieldLink RX0 56 RX6 "hard" "[I" ∈ gW := gW_u tb_1 95 (by rfl) (by decide +kernel)
theorem dX0_wordValue_215 : decode cX0_wordValue 215 = .ok (.aload_n 0, 1) := by decide +kernel
theorem dX0_wordValue_216 : decode cX0_wordValue 216 = .ok (.getfield 67, 3) := by decide +kernel
theorem dX0_wordValue_219 : decode cX0_wordValue 219 = .ok (.iaload, 1) := by decide +kernel
theorem dX0_wordValue_220 : decode cX0_wordValue 220 = .ok (.ireturn, 1) := by decide +kernel
theorem dX0_wordValue_221 : decode cX0_wordValue 221 = .ok (.aload_n 0, 1) := by decide +kernel
theorem dX0_wordValue_222 : decode cX0_wordValue 222 = .ok (.getfield 15, 3) := by decide +kernel
theorem dX0_wordValue_225 : decode cX0_wordValue 225 = .ok (.getfield 44, 3) := by decide +kernel
theorem dX0_wordValue_228 : decode cX0_wordValue 228 = .ok (.getfield 59, 3) := by decide +kernel
theorem fl_RX0_59 : Cond.fieldLink RX0 59 RX6 "water" "[I" ∈ gW := gW_u tb_1 99 (by rfl) (by decide +kernel)
theorem dX0_wordValue_231 : decode cX0_wordValue 231 = .ok (.aload_n 0, 1) := by decide +kernel
theorem dX0_wordValue_232 : decode cX0_wordValue 232 = .ok (.getfield 67, 3) := by decide +kernel
theorem dX0_wordValue_235 : decode cX0_wordValue 235 = .ok (.iaload, 1) := by decide +kernel
theorem dX0_wordValue_236 : decode cX0_wordValue 236 = .ok (.ireturn, 1) := by decide +kernel
theorem dX0_wordValue_237 : decode cX0_wordValue 237 = .ok (.aload_n 0, 1) := by decide +kernel
theorem dX0_wordValue_238 : decode cX0_wordValue 238 = .ok (.getfield 70, 3) := by decide +kernel
theorem dX0_wordValue_241 : decode cX0_wordValue 241 = .ok (.ireturn, 1) := by decide +kernel
theorem dX0_wordValue_242 : decode cX0_wordValue 242 = .ok (.aload_n 0, 1) := by decide +kernel
theorem dX0_wordValue_243 : decode cX0_wordValue 243 = .ok (.getfield 15, 3) := by decide +kernel
theorem dX0_wordValue_246 : decode cX0_wordValue 246 = .ok (.getfield 121, 3) := by decide +kernel
theorem fl_RX0_121 : Cond.fieldLink RX0 121 RX10 "term" "[I" ∈ gW := gW_u tb_1 231 (by rfl) (by decide +kernel)
theorem dX0_wordValue_249 : decode cX0_wordValue 249 = .ok (.iconst 0, 1) := by decide +kernel
theorem dX0_wordValue_250 : decode cX0_wordValue 250 = .ok (.iaload, 1) := by decide +kernel
theorem dX0_wordValue_251 : decode cX0_wordValue 251 = .ok (.ireturn, 1) := by decide +kernel
theorem dX0_wordValue_252 : decode cX0_wordValue 252 = .ok (.aload_n 0, 1) := by decide +kernel
theorem dX0_wordValue_253 : decode cX0_wordValue 253 = .ok (.getfield 15, 3) := by decide +kernel
theorem dX0_wordValue_256 : decode cX0_wordValue 256 = .ok (.getfield 121, 3) := by decide +kernel
theorem dX0_wordValue_259 : decode cX0_wordValue 259 = .ok (.iconst 2, 1) := by decide +kernel
theorem dX0_wordValue_260 : decode cX0_wordValue 260 = .ok (.iaload, 1) := by decide +kernel
theorem dX0_wordValue_261 : decode cX0_wordValue 261 = .ok (.ireturn, 1) := by decide +kernel
theorem dX0_wordValue_262 : decode cX0_wordValue 262 = .ok (.aload_n 0, 1) := by decide +kernel
theorem dX0_wordValue_263 : decode cX0_wordValue 263 = .ok (.getfield 23, 3) := by decide +kernel
theorem dX0_wordValue_266 : decode cX0_wordValue 266 = .ok (.ireturn, 1) := by decide +kernel
theorem dX0_wordValue_267 : decode cX0_wordValue 267 = .ok (.aload_n 0, 1) := by decide +kernel
theorem dX0_wordValue_268 : decode cX0_wordValue 268 = .ok (.getfield 27, 3) := by decide +kernel
theorem dX0_wordValue_271 : decode cX0_wordValue 271 = .ok (.ireturn, 1) := by decide +kernel
theorem dX0_wordValue_272 : decode cX0_wordValue 272 = .ok (.iload_n 2, 1) := by decide +kernel
theorem dX0_wordValue_273 : decode cX0_wordValue 273 = .ok (.aload_n 0, 1) := by decide +kernel
theorem dX0_wordValue_274 : decode cX0_wordValue 274 = .ok (.getfield 15, 3) := by decide +kernel
theorem dX0_wordValue_277 : decode cX0_wordValue 277 = .ok (.getfield 124, 3) := by decide +kernel
theorem fl_RX0_124 : Cond.fieldLink RX0 124 RX10 "crew" "LListenWells$Crew;" ∈ gW := gW_u tb_1 222 (by rfl) (by decide +kernel)
theorem dX0_wordValue_280 : decode cX0_wordValue 280 = .ok (.getfield 128, 3) := by decide +kernel
theorem fl_RX0_128 : Cond.fieldLink RX0 128 RX1 "count" "I" ∈ gW := gW_u tb_1 132 (by rfl) (by decide +kernel)
theorem dX0_wordValue_283 : decode cX0_wordValue 283 = .ok (.if_icmp .ge 18, 3) := by decide +kernel
theorem dX0_wordValue_301 : decode cX0_wordValue 301 = .ok (.iconst (-1), 1) := by decide +kernel
theorem dX0_wordValue_302 : decode cX0_wordValue 302 = .ok (.ireturn, 1) := by decide +kernel
theorem dX0_wordValue_286 : decode cX0_wordValue 286 = .ok (.aload_n 0, 1) := by decide +kernel
theorem dX0_wordValue_287 : decode cX0_wordValue 287 = .ok (.getfield 15, 3) := by decide +kernel
theorem dX0_wordValue_290 : decode cX0_wordValue 290 = .ok (.getfield 124, 3) := by decide +kernel
theorem dX0_wordValue_293 : decode cX0_wordValue 293 = .ok (.getfield 133, 3) := by decide +kernel
theorem fl_RX0_133 : Cond.fieldLink RX0 133 RX1 "cell" "[I" ∈ gW := gW_u tb_1 123 (by rfl) (by decide +kernel)
theorem dX0_wordValue_296 : decode cX0_wordValue 296 = .ok (.iload_n 2, 1) := by decide +kernel
theorem dX0_wordValue_297 : decode cX0_wordValue 297 = .ok (.iaload, 1) := by decide +kernel
theorem dX0_wordValue_298 : decode cX0_wordValue 298 = .ok (.goto 4, 3) := by decide +kernel
theorem dX0_wordValue_303 : decode cX0_wordValue 303 = .ok (.iload_n 2, 1) := by decide +kernel
theorem dX0_wordValue_304 : decode cX0_wordValue 304 = .ok (.aload_n 0, 1) := by decide +kernel
theorem dX0_wordValue_305 : decode cX0_wordValue 305 = .ok (.getfield 15, 3) := by decide +kernel
theorem dX0_wordValue_308 : decode cX0_wordValue 308 = .ok (.getfield 124, 3) := by decide +kernel
theorem dX0_wordValue_311 : decode cX0_wordValue 311 = .ok (.getfield 128, 3) := by decide +kernel
theorem dX0_wordValue_314 : decode cX0_wordValue 314 = .ok (.if_icmp .ge 18, 3) := by decide +kernel
theorem dX0_wordValue_332 : decode cX0_wordValue 332 = .ok (.iconst (-1), 1) := by decide +kernel
theorem dX0_wordValue_333 : decode cX0_wordValue 333 = .ok (.ireturn, 1) := by decide +kernel
theorem dX0_wordValue_317 : decode cX0_wordValue 317 = .ok (.aload_n 0, 1) := by decide +kernel
theorem dX0_wordValue_318 : decode cX0_wordValue 318 = .ok (.getfield 15, 3) := by decide +kernel
theorem dX0_wordValue_321 : decode cX0_wordValue 321 = .ok (.getfield 124, 3) := by decide +kernel
theorem dX0_wordValue_324 : decode cX0_wordValue 324 = .ok (.getfield 135, 3) := by decide +kernel
theorem fl_RX0_135 : Cond.fieldLink RX0 135 RX1 "buckets" "[I" ∈ gW := gW_u tb_1 127 (by rfl) (by decide +kernel)
theorem dX0_wordValue_327 : decode cX0_wordValue 327 = .ok (.iload_n 2, 1) := by decide +kernel
theorem dX0_wordValue_328 : decode cX0_wordValue 328 = .ok (.iaload, 1) := by decide +kernel
theorem dX0_wordValue_329 : decode cX0_wordValue 329 = .ok (.goto 4, 3) := by decide +kernel
def yX1_copyFrom : MethodName := ⟨RX1, "copyFrom", "(LListenWells$Crew;)V"⟩
abbrev cX1_copyFrom : ByteArray := prog_3_method_5_code
theorem dX1_copyFrom_0 : decode cX1_copyFrom 0 = .ok (.aload_n 1, 1) := by decide +kernel
theorem dX1_copyFrom_1 : decode cX1_copyFrom 1 = .ok (.getfield 9, 3) := by decide +kernel
theorem dX1_copyFrom_4 : decode cX1_copyFrom 4 = .ok (.iconst 0, 1) := by decide +kernel
theorem dX1_copyFrom_5 : decode cX1_copyFrom 5 = .ok (.aload_n 0, 1) := by decide +kernel
theorem dX1_copyFrom_6 : decode cX1_copyFrom 6 = .ok (.getfield 9, 3) := by decide +kernel
theorem dX1_copyFrom_9 : decode cX1_copyFrom 9 = .ok (.iconst 0, 1) := by decide +kernel
theorem dX1_copyFrom_10 : decode cX1_copyFrom 10 = .ok (.bipush 6, 2) := by decide +kernel
theorem dX1_copyFrom_12 : decode cX1_copyFrom 12 = .ok (.invokestatic 22, 3) := by decide +kernel
theorem lk_RX1_22 : Cond.methodLink RX1 22 arraycopyName ∈ gW := gW_u tb_4 132 (by rfl) (by decide +kernel)
theorem ac_n : Cond.native arraycopyName ∈ gW := gW_u tb_4 109 (by rfl) (by decide +kernel)
theorem ac_s : Cond.static arraycopyName ∈ gW := gW_u tb_4 108 (by rfl) (by decide +kernel)
theorem ac_i : Cond.initialized "java/lang/System" ∈ gW := gW_u tb_1 20 (by rfl) (by decide +kernel)
theorem dX1_copyFrom_15 : decode cX1_copyFrom 15 = .ok (.aload_n 1, 1) := by decide +kernel
theorem dX1_copyFrom_16 : decode cX1_copyFrom 16 = .ok (.getfield 15, 3) := by decide +kernel
theorem dX1_copyFrom_19 : decode cX1_copyFrom 19 = .ok (.iconst 0, 1) := by decide +kernel
theorem dX1_copyFrom_20 : decode cX1_copyFrom 20 = .ok (.aload_n 0, 1) := by decide +kernel
theorem dX1_copyFrom_21 : decode cX1_copyFrom 21 = .ok (.getfield 15, 3) := by decide +kernel
theorem dX1_copyFrom_24 : decode cX1_copyFrom 24 = .ok (.iconst 0, 1) := by decide +kernel
theorem dX1_copyFrom_25 : decode cX1_copyFrom 25 = .ok (.bipush 6, 2) := by decide +kernel
theorem dX1_copyFrom_27 : decode cX1_copyFrom 27 = .ok (.invokestatic 22, 3) := by decide +kernel
theorem dX1_copyFrom_30 : decode cX1_copyFrom 30 = .ok (.aload_n 0, 1) := by decide +kernel
theorem dX1_copyFrom_31 : decode cX1_copyFrom 31 = .ok (.aload_n 1, 1) := by decide +kernel
theorem dX1_copyFrom_32 : decode cX1_copyFrom 32 = .ok (.getfield 18, 3) := by decide +kernel
theorem dX1_copyFrom_35 : decode cX1_copyFrom 35 = .ok (.putfield 18, 3) := by decide +kernel
theorem dX1_copyFrom_38 : decode cX1_copyFrom 38 = .ok (.return_, 1) := by decide +kernel
def yX2_copyFrom : MethodName := ⟨RX2, "copyFrom", "(LListenWells$Diary;)V"⟩
abbrev cX2_copyFrom : ByteArray := prog_4_method_5_code
theorem dX2_copyFrom_0 : decode cX2_copyFrom 0 = .ok (.aload_n 1, 1) := by decide +kernel
theorem dX2_copyFrom_1 : decode cX2_copyFrom 1 = .ok (.getfield 9, 3) := by decide +kernel
theorem dX2_copyFrom_4 : decode cX2_copyFrom 4 = .ok (.iconst 0, 1) := by decide +kernel
theorem dX2_copyFrom_5 : decode cX2_copyFrom 5 = .ok (.aload_n 0, 1) := by decide +kernel
theorem dX2_copyFrom_6 : decode cX2_copyFrom 6 = .ok (.getfield 9, 3) := by decide +kernel
theorem dX2_copyFrom_9 : decode cX2_copyFrom 9 = .ok (.iconst 0, 1) := by decide +kernel
theorem dX2_copyFrom_10 : decode cX2_copyFrom 10 = .ok (.bipush 16, 2) := by decide +kernel
theorem dX2_copyFrom_12 : decode cX2_copyFrom 12 = .ok (.invokestatic 41, 3) := by decide +kernel
theorem lk_RX2_41 : Cond.methodLink RX2 41 arraycopyName ∈ gW := gW_u tb_4 143 (by rfl) (by decide +kernel)
theorem dX2_copyFrom_15 : decode cX2_copyFrom 15 = .ok (.aload_n 1, 1) := by decide +kernel
theorem dX2_copyFrom_16 : decode cX2_copyFrom 16 = .ok (.getfield 13, 3) := by decide +kernel
theorem dX2_copyFrom_19 : decode cX2_copyFrom 19 = .ok (.iconst 0, 1) := by decide +kernel
theorem dX2_copyFrom_20 : decode cX2_copyFrom 20 = .ok (.aload_n 0, 1) := by decide +kernel
theorem dX2_copyFrom_21 : decode cX2_copyFrom 21 = .ok (.getfield 13, 3) := by decide +kernel
theorem dX2_copyFrom_24 : decode cX2_copyFrom 24 = .ok (.iconst 0, 1) := by decide +kernel
theorem dX2_copyFrom_25 : decode cX2_copyFrom 25 = .ok (.bipush 16, 2) := by decide +kernel
theorem dX2_copyFrom_27 : decode cX2_copyFrom 27 = .ok (.invokestatic 41, 3) := by decide +kernel
theorem dX2_copyFrom_30 : decode cX2_copyFrom 30 = .ok (.aload_n 1, 1) := by decide +kernel
theorem dX2_copyFrom_31 : decode cX2_copyFrom 31 = .ok (.getfield 16, 3) := by decide +kernel
theorem dX2_copyFrom_34 : decode cX2_copyFrom 34 = .ok (.iconst 0, 1) := by decide +kernel
theorem dX2_copyFrom_35 : decode cX2_copyFrom 35 = .ok (.aload_n 0, 1) := by decide +kernel
theorem dX2_copyFrom_36 : decode cX2_copyFrom 36 = .ok (.getfield 16, 3) := by decide +kernel
theorem dX2_copyFrom_39 : decode cX2_copyFrom 39 = .ok (.iconst 0, 1) := by decide +kernel
theorem dX2_copyFrom_40 : decode cX2_copyFrom 40 = .ok (.bipush 16, 2) := by decide +kernel
theorem dX2_copyFrom_42 : decode cX2_copyFrom 42 = .ok (.invokestatic 41, 3) := by decide +kernel
theorem dX2_copyFrom_45 : decode cX2_copyFrom 45 = .ok (.aload_n 1, 1) := by decide +kernel
theorem dX2_copyFrom_46 : decode cX2_copyFrom 46 = .ok (.getfield 19, 3) := by decide +kernel
theorem dX2_copyFrom_49 : decode cX2_copyFrom 49 = .ok (.iconst 0, 1) := by decide +kernel
theorem dX2_copyFrom_50 : decode cX2_copyFrom 50 = .ok (.aload_n 0, 1) := by decide +kernel
theorem dX2_copyFrom_51 : decode cX2_copyFrom 51 = .ok (.getfield 19, 3) := by decide +kernel
theorem dX2_copyFrom_54 : decode cX2_copyFrom 54 = .ok (.iconst 0, 1) := by decide +kernel
theorem dX2_copyFrom_55 : decode cX2_copyFrom 55 = .ok (.bipush 16, 2) := by decide +kernel
theorem dX2_copyFrom_57 : decode cX2_copyFrom 57 = .ok (.invokestatic 41, 3) := by decide +kernel
theorem dX2_copyFrom_60 : decode cX2_copyFrom 60 = .ok (.aload_n 1, 1) := by decide +kernel
theorem dX2_copyFrom_61 : decode cX2_copyFrom 61 = .ok (.getfield 22, 3) := by decide +kernel
theorem dX2_copyFrom_64 : decode cX2_copyFrom 64 = .ok (.iconst 0, 1) := by decide +kernel
theorem dX2_copyFrom_65 : decode cX2_copyFrom 65 = .ok (.aload_n 0, 1) := by decide +kernel
theorem dX2_copyFrom_66 : decode cX2_copyFrom 66 = .ok (.getfield 22, 3) := by decide +kernel
theorem dX2_copyFrom_69 : decode cX2_copyFrom 69 = .ok (.iconst 0, 1) := by decide +kernel
theorem dX2_copyFrom_70 : decode cX2_copyFrom 70 = .ok (.bipush 16, 2) := by decide +kernel
theorem dX2_copyFrom_72 : decode cX2_copyFrom 72 = .ok (.invokestatic 41, 3) := by decide +kernel
theorem dX2_copyFrom_75 : decode cX2_copyFrom 75 = .ok (.aload_n 0, 1) := by decide +kernel
theorem dX2_copyFrom_76 : decode cX2_copyFrom 76 = .ok (.aload_n 1, 1) := by decide +kernel
theorem dX2_copyFrom_77 : decode cX2_copyFrom 77 = .ok (.getfield 29, 3) := by decide +kernel
theorem dX2_copyFrom_80 : decode cX2_copyFrom 80 = .ok (.putfield 29, 3) := by decide +kernel
theorem dX2_copyFrom_83 : decode cX2_copyFrom 83 = .ok (.aload_n 0, 1) := by decide +kernel
theorem dX2_copyFrom_84 : decode cX2_copyFrom 84 = .ok (.aload_n 1, 1) := by decide +kernel
theorem dX2_copyFrom_85 : decode cX2_copyFrom 85 = .ok (.getfield 25, 3) := by decide +kernel
theorem dX2_copyFrom_88 : decode cX2_copyFrom 88 = .ok (.putfield 25, 3) := by decide +kernel
theorem dX2_copyFrom_91 : decode cX2_copyFrom 91 = .ok (.return_, 1) := by decide +kernel
def yX4_meanWater : MethodName := ⟨RX4, "meanWater", "(I)Z"⟩
abbrev cX4_meanWater : ByteArray := prog_6_method_8_code
theorem dX4_meanWater_0 : decode cX4_meanWater 0 = .ok (.iconst 0, 1) := by decide +kernel
theorem dX4_meanWater_1 : decode cX4_meanWater 1 = .ok (.istore_n 2, 1) := by decide +kernel
theorem dX4_meanWater_2 : decode cX4_meanWater 2 = .ok (.iload_n 2, 1) := by decide +kernel
theorem dX4_meanWater_3 : decode cX4_meanWater 3 = .ok (.aload_n 0, 1) := by decide +kernel
theorem dX4_meanWater_4 : decode cX4_meanWater 4 = .ok (.getfield 59, 3) := by decide +kernel
theorem dX4_meanWater_7 : decode cX4_meanWater 7 = .ok (.if_icmp .ge 49, 3) := by decide +kernel
theorem dX4_meanWater_10 : decode cX4_meanWater 10 = .ok (.iload_n 1, 1) := by decide +kernel
theorem dX4_meanWater_11 : decode cX4_meanWater 11 = .ok (.aload_n 0, 1) := by decide +kernel
theorem dX4_meanWater_12 : decode cX4_meanWater 12 = .ok (.getfield 30, 3) := by decide +kernel
theorem dX4_meanWater_15 : decode cX4_meanWater 15 = .ok (.iload_n 2, 1) := by decide +kernel
theorem dX4_meanWater_16 : decode cX4_meanWater 16 = .ok (.iaload, 1) := by decide +kernel
theorem dX4_meanWater_17 : decode cX4_meanWater 17 = .ok (.iconst (-1), 1) := by decide +kernel
theorem dX4_meanWater_18 : decode cX4_meanWater 18 = .ok (.ixor, 1) := by decide +kernel
theorem dX4_meanWater_19 : decode cX4_meanWater 19 = .ok (.iand, 1) := by decide +kernel
theorem dX4_meanWater_20 : decode cX4_meanWater 20 = .ok (.ifCond .ne 7, 3) := by decide +kernel
theorem dX4_meanWater_27 : decode cX4_meanWater 27 = .ok (.iconst 0, 1) := by decide +kernel
theorem dX4_meanWater_23 : decode cX4_meanWater 23 = .ok (.iconst 1, 1) := by decide +kernel
theorem dX4_meanWater_24 : decode cX4_meanWater 24 = .ok (.goto 4, 3) := by decide +kernel
theorem dX4_meanWater_28 : decode cX4_meanWater 28 = .ok (.istore_n 3, 1) := by decide +kernel
theorem dX4_meanWater_29 : decode cX4_meanWater 29 = .ok (.iload_n 3, 1) := by decide +kernel
theorem dX4_meanWater_30 : decode cX4_meanWater 30 = .ok (.aload_n 0, 1) := by decide +kernel
theorem dX4_meanWater_31 : decode cX4_meanWater 31 = .ok (.getfield 33, 3) := by decide +kernel
theorem dX4_meanWater_34 : decode cX4_meanWater 34 = .ok (.iload_n 2, 1) := by decide +kernel
theorem dX4_meanWater_35 : decode cX4_meanWater 35 = .ok (.iaload, 1) := by decide +kernel
theorem dX4_meanWater_36 : decode cX4_meanWater 36 = .ok (.iconst 1, 1) := by decide +kernel
theorem dX4_meanWater_37 : decode cX4_meanWater 37 = .ok (.if_icmp .ne 7, 3) := by decide +kernel
theorem dX4_meanWater_44 : decode cX4_meanWater 44 = .ok (.iconst 0, 1) := by decide +kernel
theorem dX4_meanWater_45 : decode cX4_meanWater 45 = .ok (.if_icmp .eq 5, 3) := by decide +kernel
theorem dX4_meanWater_50 : decode cX4_meanWater 50 = .ok (.iinc 2 1, 3) := by decide +kernel
theorem dX4_meanWater_53 : decode cX4_meanWater 53 = .ok (.goto (-51), 3) := by decide +kernel
theorem dX4_meanWater_48 : decode cX4_meanWater 48 = .ok (.iconst 0, 1) := by decide +kernel
theorem dX4_meanWater_49 : decode cX4_meanWater 49 = .ok (.ireturn, 1) := by decide +kernel
theorem dX4_meanWater_40 : decode cX4_meanWater 40 = .ok (.iconst 1, 1) := by decide +kernel
theorem dX4_meanWater_41 : decode cX4_meanWater 41 = .ok (.goto 4, 3) := by decide +kernel
theorem dX4_meanWater_56 : decode cX4_meanWater 56 = .ok (.iconst 1, 1) := by decide +kernel
theorem dX4_meanWater_57 : decode cX4_meanWater 57 = .ok (.ireturn, 1) := by decide +kernel
def yX4_copyFrom : MethodName := ⟨RX4, "copyFrom", "(LListenWells$Folk;)V"⟩
abbrev cX4_copyFrom : ByteArray := prog_6_method_9_code
theorem dX4_copyFrom_0 : decode cX4_copyFrom 0 = .ok (.aload_n 1, 1) := by decide +kernel
theorem dX4_copyFrom_1 : decode cX4_copyFrom 1 = .ok (.getfield 9, 3) := by decide +kernel
theorem dX4_copyFrom_4 : decode cX4_copyFrom 4 = .ok (.iconst 0, 1) := by decide +kernel
theorem dX4_copyFrom_5 : decode cX4_copyFrom 5 = .ok (.aload_n 0, 1) := by decide +kernel
theorem dX4_copyFrom_6 : decode cX4_copyFrom 6 = .ok (.getfield 9, 3) := by decide +kernel
theorem dX4_copyFrom_9 : decode cX4_copyFrom 9 = .ok (.iconst 0, 1) := by decide +kernel
theorem dX4_copyFrom_10 : decode cX4_copyFrom 10 = .ok (.iconst 5, 1) := by decide +kernel
theorem dX4_copyFrom_11 : decode cX4_copyFrom 11 = .ok (.invokestatic 71, 3) := by decide +kernel
theorem lk_RX4_71 : Cond.methodLink RX4 71 arraycopyName ∈ gW := gW_u tb_4 137 (by rfl) (by decide +kernel)
theorem dX4_copyFrom_14 : decode cX4_copyFrom 14 = .ok (.aload_n 1, 1) := by decide +kernel
theorem dX4_copyFrom_15 : decode cX4_copyFrom 15 = .ok (.getfield 15, 3) := by decide +kernel
theorem dX4_copyFrom_18 : decode cX4_copyFrom 18 = .ok (.iconst 0, 1) := by decide +kernel
theorem dX4_copyFrom_19 : decode cX4_copyFrom 19 = .ok (.aload_n 0, 1) := by decide +kernel
theorem dX4_copyFrom_20 : decode cX4_copyFrom 20 = .ok (.getfield 15, 3) := by decide +kernel
theorem dX4_copyFrom_23 : decode cX4_copyFrom 23 = .ok (.iconst 0, 1) := by decide +kernel
theorem dX4_copyFrom_24 : decode cX4_copyFrom 24 = .ok (.iconst 5, 1) := by decide +kernel
theorem dX4_copyFrom_25 : decode cX4_copyFrom 25 = .ok (.invokestatic 71, 3) := by decide +kernel
theorem dX4_copyFrom_28 : decode cX4_copyFrom 28 = .ok (.aload_n 0, 1) := by decide +kernel
theorem dX4_copyFrom_29 : decode cX4_copyFrom 29 = .ok (.aload_n 1, 1) := by decide +kernel
theorem dX4_copyFrom_30 : decode cX4_copyFrom 30 = .ok (.getfield 36, 3) := by decide +kernel
theorem dX4_copyFrom_33 : decode cX4_copyFrom 33 = .ok (.putfield 36, 3) := by decide +kernel
theorem dX4_copyFrom_36 : decode cX4_copyFrom 36 = .ok (.aload_n 1, 1) := by decide +kernel
theorem dX4_copyFrom_37 : decode cX4_copyFrom 37 = .ok (.getfield 18, 3) := by decide +kernel
theorem dX4_copyFrom_40 : decode cX4_copyFrom 40 = .ok (.iconst 0, 1) := by decide +kernel
theorem dX4_copyFrom_41 : decode cX4_copyFrom 41 = .ok (.aload_n 0, 1) := by decide +kernel
theorem dX4_copyFrom_42 : decode cX4_copyFrom 42 = .ok (.getfield 18, 3) := by decide +kernel
theorem dX4_copyFrom_45 : decode cX4_copyFrom 45 = .ok (.iconst 0, 1) := by decide +kernel
theorem dX4_copyFrom_46 : decode cX4_copyFrom 46 = .ok (.bipush 6, 2) := by decide +kernel
theorem dX4_copyFrom_48 : decode cX4_copyFrom 48 = .ok (.invokestatic 71, 3) := by decide +kernel
theorem dX4_copyFrom_51 : decode cX4_copyFrom 51 = .ok (.aload_n 1, 1) := by decide +kernel
theorem dX4_copyFrom_52 : decode cX4_copyFrom 52 = .ok (.getfield 21, 3) := by decide +kernel
theorem dX4_copyFrom_55 : decode cX4_copyFrom 55 = .ok (.iconst 0, 1) := by decide +kernel
theorem dX4_copyFrom_56 : decode cX4_copyFrom 56 = .ok (.aload_n 0, 1) := by decide +kernel
theorem dX4_copyFrom_57 : decode cX4_copyFrom 57 = .ok (.getfield 21, 3) := by decide +kernel
theorem dX4_copyFrom_60 : decode cX4_copyFrom 60 = .ok (.iconst 0, 1) := by decide +kernel
theorem dX4_copyFrom_61 : decode cX4_copyFrom 61 = .ok (.bipush 6, 2) := by decide +kernel
theorem dX4_copyFrom_63 : decode cX4_copyFrom 63 = .ok (.invokestatic 71, 3) := by decide +kernel
theorem dX4_copyFrom_66 : decode cX4_copyFrom 66 = .ok (.aload_n 0, 1) := by decide +kernel
theorem dX4_copyFrom_67 : decode cX4_copyFrom 67 = .ok (.aload_n 1, 1) := by decide +kernel
theorem dX4_copyFrom_68 : decode cX4_copyFrom 68 = .ok (.getfield 40, 3) := by decide +kernel
theorem dX4_copyFrom_71 : decode cX4_copyFrom 71 = .ok (.putfield 40, 3) := by decide +kernel
theorem dX4_copyFrom_74 : decode cX4_copyFrom 74 = .ok (.aload_n 0, 1) := by decide +kernel
theorem dX4_copyFrom_75 : decode cX4_copyFrom 75 = .ok (.aload_n 1, 1) := by decide +kernel
theorem dX4_copyFrom_76 : decode cX4_copyFrom 76 = .ok (.getfield 43, 3) := by decide +kernel
theorem dX4_copyFrom_79 : decode cX4_copyFrom 79 = .ok (.putfield 43, 3) := by decide +kernel
theorem dX4_copyFrom_82 : decode cX4_copyFrom 82 = .ok (.aload_n 1, 1) := by decide +kernel
theorem dX4_copyFrom_83 : decode cX4_copyFrom 83 = .ok (.getfield 24, 3) := by decide +kernel
theorem dX4_copyFrom_86 : decode cX4_copyFrom 86 = .ok (.iconst 0, 1) := by decide +kernel
theorem dX4_copyFrom_87 : decode cX4_copyFrom 87 = .ok (.aload_n 0, 1) := by decide +kernel
theorem dX4_copyFrom_88 : decode cX4_copyFrom 88 = .ok (.getfield 24, 3) := by decide +kernel
theorem dX4_copyFrom_91 : decode cX4_copyFrom 91 = .ok (.iconst 0, 1) := by decide +kernel
theorem dX4_copyFrom_92 : decode cX4_copyFrom 92 = .ok (.bipush 8, 2) := by decide +kernel
theorem dX4_copyFrom_94 : decode cX4_copyFrom 94 = .ok (.invokestatic 71, 3) := by decide +kernel
theorem dX4_copyFrom_97 : decode cX4_copyFrom 97 = .ok (.aload_n 1, 1) := by decide +kernel
theorem dX4_copyFrom_98 : decode cX4_copyFrom 98 = .ok (.getfield 27, 3) := by decide +kernel
theorem dX4_copyFrom_101 : decode cX4_copyFrom 101 = .ok (.iconst 0, 1) := by decide +kernel
theorem dX4_copyFrom_102 : decode cX4_copyFrom 102 = .ok (.aload_n 0, 1) := by decide +kernel
theorem dX4_copyFrom_103 : decode cX4_copyFrom 103 = .ok (.getfield 27, 3) := by decide +kernel
theorem dX4_copyFrom_106 : decode cX4_copyFrom 106 = .ok (.iconst 0, 1) := by decide +kernel
theorem dX4_copyFrom_107 : decode cX4_copyFrom 107 = .ok (.bipush 8, 2) := by decide +kernel
theorem dX4_copyFrom_109 : decode cX4_copyFrom 109 = .ok (.invokestatic 71, 3) := by decide +kernel
theorem dX4_copyFrom_112 : decode cX4_copyFrom 112 = .ok (.aload_n 0, 1) := by decide +kernel
theorem dX4_copyFrom_113 : decode cX4_copyFrom 113 = .ok (.aload_n 1, 1) := by decide +kernel
theorem dX4_copyFrom_114 : decode cX4_copyFrom 114 = .ok (.getfield 56, 3) := by decide +kernel
theorem dX4_copyFrom_117 : decode cX4_copyFrom 117 = .ok (.putfield 56, 3) := by decide +kernel
theorem dX4_copyFrom_120 : decode cX4_copyFrom 120 = .ok (.aload_n 1, 1) := by decide +kernel
theorem dX4_copyFrom_121 : decode cX4_copyFrom 121 = .ok (.getfield 30, 3) := by decide +kernel
theorem dX4_copyFrom_124 : decode cX4_copyFrom 124 = .ok (.iconst 0, 1) := by decide +kernel
theorem dX4_copyFrom_125 : decode cX4_copyFrom 125 = .ok (.aload_n 0, 1) := by decide +kernel
theorem dX4_copyFrom_126 : decode cX4_copyFrom 126 = .ok (.getfield 30, 3) := by decide +kernel
theorem dX4_copyFrom_129 : decode cX4_copyFrom 129 = .ok (.iconst 0, 1) := by decide +kernel
theorem dX4_copyFrom_130 : decode cX4_copyFrom 130 = .ok (.bipush 10, 2) := by decide +kernel
theorem dX4_copyFrom_132 : decode cX4_copyFrom 132 = .ok (.invokestatic 71, 3) := by decide +kernel
theorem dX4_copyFrom_135 : decode cX4_copyFrom 135 = .ok (.aload_n 1, 1) := by decide +kernel
theorem dX4_copyFrom_136 : decode cX4_copyFrom 136 = .ok (.getfield 33, 3) := by decide +kernel
theorem dX4_copyFrom_139 : decode cX4_copyFrom 139 = .ok (.iconst 0, 1) := by decide +kernel
theorem dX4_copyFrom_140 : decode cX4_copyFrom 140 = .ok (.aload_n 0, 1) := by decide +kernel
theorem dX4_copyFrom_141 : decode cX4_copyFrom 141 = .ok (.getfield 33, 3) := by decide +kernel
theorem dX4_copyFrom_144 : decode cX4_copyFrom 144 = .ok (.iconst 0, 1) := by decide +kernel
theorem dX4_copyFrom_145 : decode cX4_copyFrom 145 = .ok (.bipush 10, 2) := by decide +kernel
theorem dX4_copyFrom_147 : decode cX4_copyFrom 147 = .ok (.invokestatic 71, 3) := by decide +kernel
theorem dX4_copyFrom_150 : decode cX4_copyFrom 150 = .ok (.aload_n 0, 1) := by decide +kernel
theorem dX4_copyFrom_151 : decode cX4_copyFrom 151 = .ok (.aload_n 1, 1) := by decide +kernel
theorem dX4_copyFrom_152 : decode cX4_copyFrom 152 = .ok (.getfield 59, 3) := by decide +kernel
theorem dX4_copyFrom_155 : decode cX4_copyFrom 155 = .ok (.putfield 59, 3) := by decide +kernel
theorem dX4_copyFrom_158 : decode cX4_copyFrom 158 = .ok (.return_, 1) := by decide +kernel
def yX5_tellCell : MethodName := ⟨RX5, "tellCell", "(LListenWells$Rock;I)Z"⟩
abbrev cX5_tellCell : ByteArray := prog_7_method_3_code
theorem dX5_tellCell_0 : decode cX5_tellCell 0 = .ok (.iconst 3, 1) := by decide +kernel
theorem dX5_tellCell_1 : decode cX5_tellCell 1 = .ok (.iload_n 2, 1) := by decide +kernel
theorem dX5_tellCell_2 : decode cX5_tellCell 2 = .ok (.imul, 1) := by decide +kernel
theorem dX5_tellCell_3 : decode cX5_tellCell 3 = .ok (.istore_n 3, 1) := by decide +kernel
theorem dX5_tellCell_4 : decode cX5_tellCell 4 = .ok (.iload_n 2, 1) := by decide +kernel
theorem dX5_tellCell_5 : decode cX5_tellCell 5 = .ok (.ifCond .lt 27, 3) := by decide +kernel
theorem dX5_tellCell_32 : decode cX5_tellCell 32 = .ok (.iconst 0, 1) := by decide +kernel
theorem dX5_tellCell_33 : decode cX5_tellCell 33 = .ok (.ireturn, 1) := by decide +kernel
theorem dX5_tellCell_8 : decode cX5_tellCell 8 = .ok (.iload_n 2, 1) := by decide +kernel
theorem dX5_tellCell_9 : decode cX5_tellCell 9 = .ok (.bipush 40, 2) := by decide +kernel
theorem dX5_tellCell_11 : decode cX5_tellCell 11 = .ok (.if_icmp .ge 21, 3) := by decide +kernel
theorem dX5_tellCell_14 : decode cX5_tellCell 14 = .ok (.iload_n 3, 1) := by decide +kernel
theorem dX5_tellCell_15 : decode cX5_tellCell 15 = .ok (.iconst 3, 1) := by decide +kernel
theorem dX5_tellCell_16 : decode cX5_tellCell 16 = .ok (.iadd, 1) := by decide +kernel
theorem dX5_tellCell_17 : decode cX5_tellCell 17 = .ok (.aload_n 0, 1) := by decide +kernel
theorem dX5_tellCell_18 : decode cX5_tellCell 18 = .ok (.getfield 34, 3) := by decide +kernel
theorem dX5_tellCell_21 : decode cX5_tellCell 21 = .ok (.if_icmp .gt 11, 3) := by decide +kernel
theorem dX5_tellCell_24 : decode cX5_tellCell 24 = .ok (.aload_n 1, 1) := by decide +kernel
theorem dX5_tellCell_25 : decode cX5_tellCell 25 = .ok (.iload_n 2, 1) := by decide +kernel
theorem dX5_tellCell_26 : decode cX5_tellCell 26 = .ok (.invokevirtual 37, 3) := by decide +kernel
theorem lk_RX5_37 : Cond.methodLink RX5 37 yX6_isDug ∈ gW := gW_u tb_3 173 (by rfl) (by decide +kernel)
theorem dX5_tellCell_29 : decode cX5_tellCell 29 = .ok (.ifCond .eq 5, 3) := by decide +kernel
theorem dX5_tellCell_34 : decode cX5_tellCell 34 = .ok (.aload_n 0, 1) := by decide +kernel
theorem dX5_tellCell_35 : decode cX5_tellCell 35 = .ok (.getfield 9, 3) := by decide +kernel
theorem dX5_tellCell_38 : decode cX5_tellCell 38 = .ok (.iload_n 3, 1) := by decide +kernel
theorem dX5_tellCell_39 : decode cX5_tellCell 39 = .ok (.iaload, 1) := by decide +kernel
theorem dX5_tellCell_40 : decode cX5_tellCell 40 = .ok (.istore 4, 2) := by decide +kernel
theorem dX5_tellCell_42 : decode cX5_tellCell 42 = .ok (.aload_n 0, 1) := by decide +kernel
theorem dX5_tellCell_43 : decode cX5_tellCell 43 = .ok (.getfield 9, 3) := by decide +kernel
theorem dX5_tellCell_46 : decode cX5_tellCell 46 = .ok (.iload_n 3, 1) := by decide +kernel
theorem dX5_tellCell_47 : decode cX5_tellCell 47 = .ok (.iconst 1, 1) := by decide +kernel
theorem dX5_tellCell_48 : decode cX5_tellCell 48 = .ok (.iadd, 1) := by decide +kernel
theorem dX5_tellCell_49 : decode cX5_tellCell 49 = .ok (.iaload, 1) := by decide +kernel
theorem dX5_tellCell_50 : decode cX5_tellCell 50 = .ok (.istore 5, 2) := by decide +kernel
theorem dX5_tellCell_52 : decode cX5_tellCell 52 = .ok (.aload_n 0, 1) := by decide +kernel
theorem dX5_tellCell_53 : decode cX5_tellCell 53 = .ok (.getfield 9, 3) := by decide +kernel
theorem dX5_tellCell_56 : decode cX5_tellCell 56 = .ok (.iload_n 3, 1) := by decide +kernel
theorem dX5_tellCell_57 : decode cX5_tellCell 57 = .ok (.iconst 2, 1) := by decide +kernel
theorem dX5_tellCell_58 : decode cX5_tellCell 58 = .ok (.iadd, 1) := by decide +kernel
theorem dX5_tellCell_59 : decode cX5_tellCell 59 = .ok (.iaload, 1) := by decide +kernel
theorem dX5_tellCell_60 : decode cX5_tellCell 60 = .ok (.istore 6, 2) := by decide +kernel
theorem dX5_tellCell_62 : decode cX5_tellCell 62 = .ok (.iconst 0, 1) := by decide +kernel
theorem dX5_tellCell_63 : decode cX5_tellCell 63 = .ok (.iload 4, 2) := by decide +kernel
theorem dX5_tellCell_65 : decode cX5_tellCell 65 = .ok (.invokestatic 43, 3) := by decide +kernel
theorem lk_RX5_43 : Cond.methodLink RX5 43 yX6_canBe ∈ gW := gW_u tb_3 174 (by rfl) (by decide +kernel)
theorem dX5_tellCell_68 : decode cX5_tellCell 68 = .ok (.ifCond .eq 21, 3) := by decide +kernel
theorem dX5_tellCell_89 : decode cX5_tellCell 89 = .ok (.iconst 0, 1) := by decide +kernel
theorem dX5_tellCell_90 : decode cX5_tellCell 90 = .ok (.ireturn, 1) := by decide +kernel
theorem dX5_tellCell_71 : decode cX5_tellCell 71 = .ok (.iconst 1, 1) := by decide +kernel
theorem dX5_tellCell_72 : decode cX5_tellCell 72 = .ok (.iload 5, 2) := by decide +kernel
theorem dX5_tellCell_74 : decode cX5_tellCell 74 = .ok (.invokestatic 43, 3) := by decide +kernel
theorem dX5_tellCell_77 : decode cX5_tellCell 77 = .ok (.ifCond .eq 12, 3) := by decide +kernel
theorem dX5_tellCell_80 : decode cX5_tellCell 80 = .ok (.iconst 2, 1) := by decide +kernel
theorem dX5_tellCell_81 : decode cX5_tellCell 81 = .ok (.iload 6, 2) := by decide +kernel
theorem dX5_tellCell_83 : decode cX5_tellCell 83 = .ok (.invokestatic 43, 3) := by decide +kernel
theorem dX5_tellCell_86 : decode cX5_tellCell 86 = .ok (.ifCond .ne 5, 3) := by decide +kernel
theorem dX5_tellCell_91 : decode cX5_tellCell 91 = .ok (.aload_n 1, 1) := by decide +kernel
theorem dX5_tellCell_92 : decode cX5_tellCell 92 = .ok (.getfield 47, 3) := by decide +kernel
theorem fl_RX5_47 : Cond.fieldLink RX5 47 RX6 "kind" "[I" ∈ gW := gW_u tb_1 89 (by rfl) (by decide +kernel)
theorem dX5_tellCell_95 : decode cX5_tellCell 95 = .ok (.iload_n 2, 1) := by decide +kernel
theorem dX5_tellCell_96 : decode cX5_tellCell 96 = .ok (.iload 4, 2) := by decide +kernel
theorem dX5_tellCell_98 : decode cX5_tellCell 98 = .ok (.iastore, 1) := by decide +kernel
theorem dX5_tellCell_99 : decode cX5_tellCell 99 = .ok (.aload_n 1, 1) := by decide +kernel
theorem dX5_tellCell_100 : decode cX5_tellCell 100 = .ok (.getfield 50, 3) := by decide +kernel
theorem fl_RX5_50 : Cond.fieldLink RX5 50 RX6 "hard" "[I" ∈ gW := gW_u tb_1 94 (by rfl) (by decide +kernel)
theorem dX5_tellCell_103 : decode cX5_tellCell 103 = .ok (.iload_n 2, 1) := by decide +kernel
theorem dX5_tellCell_104 : decode cX5_tellCell 104 = .ok (.iload 5, 2) := by decide +kernel
theorem dX5_tellCell_106 : decode cX5_tellCell 106 = .ok (.iastore, 1) := by decide +kernel
theorem dX5_tellCell_107 : decode cX5_tellCell 107 = .ok (.aload_n 1, 1) := by decide +kernel
theorem dX5_tellCell_108 : decode cX5_tellCell 108 = .ok (.getfield 53, 3) := by decide +kernel
theorem fl_RX5_53 : Cond.fieldLink RX5 53 RX6 "water" "[I" ∈ gW := gW_u tb_1 97 (by rfl) (by decide +kernel)
theorem dX5_tellCell_111 : decode cX5_tellCell 111 = .ok (.iload_n 2, 1) := by decide +kernel
theorem dX5_tellCell_112 : decode cX5_tellCell 112 = .ok (.iload 6, 2) := by decide +kernel
theorem dX5_tellCell_114 : decode cX5_tellCell 114 = .ok (.iastore, 1) := by decide +kernel
theorem dX5_tellCell_115 : decode cX5_tellCell 115 = .ok (.iconst 1, 1) := by decide +kernel
theorem dX5_tellCell_116 : decode cX5_tellCell 116 = .ok (.ireturn, 1) := by decide +kernel
def yX5_placeNow : MethodName := ⟨RX5, "placeNow", "()I"⟩
abbrev cX5_placeNow : ByteArray := prog_7_method_5_code
theorem dX5_placeNow_0 : decode cX5_placeNow 0 = .ok (.aload_n 0, 1) := by decide +kernel
theorem dX5_placeNow_1 : decode cX5_placeNow 1 = .ok (.getfield 63, 3) := by decide +kernel
theorem fl_RX5_63 : Cond.fieldLink RX5 63 RX5 "now" "I" ∈ gW := gW_u tb_2 113 (by rfl) (by decide +kernel)
theorem dX5_placeNow_4 : decode cX5_placeNow 4 = .ok (.ifCond .lt 26, 3) := by decide +kernel
theorem dX5_placeNow_30 : decode cX5_placeNow 30 = .ok (.aload_n 0, 1) := by decide +kernel
theorem dX5_placeNow_31 : decode cX5_placeNow 31 = .ok (.getfield 34, 3) := by decide +kernel
theorem dX5_placeNow_34 : decode cX5_placeNow 34 = .ok (.ireturn, 1) := by decide +kernel
theorem dX5_placeNow_7 : decode cX5_placeNow 7 = .ok (.aload_n 0, 1) := by decide +kernel
theorem dX5_placeNow_8 : decode cX5_placeNow 8 = .ok (.getfield 63, 3) := by decide +kernel
theorem dX5_placeNow_11 : decode cX5_placeNow 11 = .ok (.aload_n 0, 1) := by decide +kernel
theorem dX5_placeNow_12 : decode cX5_placeNow 12 = .ok (.getfield 96, 3) := by decide +kernel
theorem fl_RX5_96 : Cond.fieldLink RX5 96 RX5 "tokenCount" "I" ∈ gW := gW_u tb_2 112 (by rfl) (by decide +kernel)
theorem dX5_placeNow_15 : decode cX5_placeNow 15 = .ok (.if_icmp .ge 15, 3) := by decide +kernel
theorem dX5_placeNow_18 : decode cX5_placeNow 18 = .ok (.aload_n 0, 1) := by decide +kernel
theorem dX5_placeNow_19 : decode cX5_placeNow 19 = .ok (.getfield 18, 3) := by decide +kernel
theorem fl_RX5_18 : Cond.fieldLink RX5 18 RX5 "places" "[I" ∈ gW := gW_u tb_2 111 (by rfl) (by decide +kernel)
theorem dX5_placeNow_22 : decode cX5_placeNow 22 = .ok (.aload_n 0, 1) := by decide +kernel
theorem dX5_placeNow_23 : decode cX5_placeNow 23 = .ok (.getfield 63, 3) := by decide +kernel
theorem dX5_placeNow_26 : decode cX5_placeNow 26 = .ok (.iaload, 1) := by decide +kernel
theorem dX5_placeNow_27 : decode cX5_placeNow 27 = .ok (.goto 7, 3) := by decide +kernel
def yX5_addToken : MethodName := ⟨RX5, "addToken", "(II)V"⟩
abbrev cX5_addToken : ByteArray := prog_7_method_7_code
theorem dX5_addToken_0 : decode cX5_addToken 0 = .ok (.aload_n 0, 1) := by decide +kernel
theorem dX5_addToken_1 : decode cX5_addToken 1 = .ok (.getfield 96, 3) := by decide +kernel
theorem dX5_addToken_4 : decode cX5_addToken 4 = .ok (.aload_n 0, 1) := by decide +kernel
theorem dX5_addToken_5 : decode cX5_addToken 5 = .ok (.getfield 15, 3) := by decide +kernel
theorem fl_RX5_15 : Cond.fieldLink RX5 15 RX5 "tokens" "[I" ∈ gW := gW_u tb_2 110 (by rfl) (by decide +kernel)
theorem dX5_addToken_8 : decode cX5_addToken 8 = .ok (.arraylength, 1) := by decide +kernel
theorem dX5_addToken_9 : decode cX5_addToken 9 = .ok (.if_icmp .ge 33, 3) := by decide +kernel
theorem dX5_addToken_42 : decode cX5_addToken 42 = .ok (.return_, 1) := by decide +kernel
theorem dX5_addToken_12 : decode cX5_addToken 12 = .ok (.aload_n 0, 1) := by decide +kernel
theorem dX5_addToken_13 : decode cX5_addToken 13 = .ok (.getfield 15, 3) := by decide +kernel
theorem dX5_addToken_16 : decode cX5_addToken 16 = .ok (.aload_n 0, 1) := by decide +kernel
theorem dX5_addToken_17 : decode cX5_addToken 17 = .ok (.getfield 96, 3) := by decide +kernel
theorem dX5_addToken_20 : decode cX5_addToken 20 = .ok (.iload_n 1, 1) := by decide +kernel
theorem dX5_addToken_21 : decode cX5_addToken 21 = .ok (.iastore, 1) := by decide +kernel
theorem dX5_addToken_22 : decode cX5_addToken 22 = .ok (.aload_n 0, 1) := by decide +kernel
theorem dX5_addToken_23 : decode cX5_addToken 23 = .ok (.getfield 18, 3) := by decide +kernel
theorem dX5_addToken_26 : decode cX5_addToken 26 = .ok (.aload_n 0, 1) := by decide +kernel
theorem dX5_addToken_27 : decode cX5_addToken 27 = .ok (.getfield 96, 3) := by decide +kernel
theorem dX5_addToken_30 : decode cX5_addToken 30 = .ok (.iload_n 2, 1) := by decide +kernel
theorem dX5_addToken_31 : decode cX5_addToken 31 = .ok (.iastore, 1) := by decide +kernel
theorem dX5_addToken_32 : decode cX5_addToken 32 = .ok (.aload_n 0, 1) := by decide +kernel
theorem dX5_addToken_33 : decode cX5_addToken 33 = .ok (.dup, 1) := by decide +kernel
theorem dX5_addToken_34 : decode cX5_addToken 34 = .ok (.getfield 96, 3) := by decide +kernel
theorem dX5_addToken_37 : decode cX5_addToken 37 = .ok (.iconst 1, 1) := by decide +kernel
theorem dX5_addToken_38 : decode cX5_addToken 38 = .ok (.iadd, 1) := by decide +kernel
theorem dX5_addToken_39 : decode cX5_addToken 39 = .ok (.putfield 96, 3) := by decide +kernel
def yX5_endOfRow : MethodName := ⟨RX5, "endOfRow", "(ICC)I"⟩
abbrev cX5_endOfRow : ByteArray := prog_7_method_8_code
theorem dX5_endOfRow_0 : decode cX5_endOfRow 0 = .ok (.iload_n 1, 1) := by decide +kernel
theorem dX5_endOfRow_1 : decode cX5_endOfRow 1 = .ok (.istore 4, 2) := by decide +kernel
theorem dX5_endOfRow_3 : decode cX5_endOfRow 3 = .ok (.iload 4, 2) := by decide +kernel
theorem dX5_endOfRow_5 : decode cX5_endOfRow 5 = .ok (.aload_n 0, 1) := by decide +kernel
theorem dX5_endOfRow_6 : decode cX5_endOfRow 6 = .ok (.getfield 34, 3) := by decide +kernel
theorem dX5_endOfRow_9 : decode cX5_endOfRow 9 = .ok (.if_icmp .ge 31, 3) := by decide +kernel
theorem dX5_endOfRow_12 : decode cX5_endOfRow 12 = .ok (.aload_n 0, 1) := by decide +kernel
theorem dX5_endOfRow_13 : decode cX5_endOfRow 13 = .ok (.getfield 9, 3) := by decide +kernel
theorem dX5_endOfRow_16 : decode cX5_endOfRow 16 = .ok (.iload 4, 2) := by decide +kernel
theorem dX5_endOfRow_18 : decode cX5_endOfRow 18 = .ok (.iaload, 1) := by decide +kernel
theorem dX5_endOfRow_19 : decode cX5_endOfRow 19 = .ok (.iload_n 2, 1) := by decide +kernel
theorem dX5_endOfRow_20 : decode cX5_endOfRow 20 = .ok (.if_icmp .lt 20, 3) := by decide +kernel
theorem dX5_endOfRow_23 : decode cX5_endOfRow 23 = .ok (.aload_n 0, 1) := by decide +kernel
theorem dX5_endOfRow_24 : decode cX5_endOfRow 24 = .ok (.getfield 9, 3) := by decide +kernel
theorem dX5_endOfRow_27 : decode cX5_endOfRow 27 = .ok (.iload 4, 2) := by decide +kernel
theorem dX5_endOfRow_29 : decode cX5_endOfRow 29 = .ok (.iaload, 1) := by decide +kernel
theorem dX5_endOfRow_30 : decode cX5_endOfRow 30 = .ok (.iload_n 3, 1) := by decide +kernel
theorem dX5_endOfRow_31 : decode cX5_endOfRow 31 = .ok (.if_icmp .gt 9, 3) := by decide +kernel
theorem dX5_endOfRow_34 : decode cX5_endOfRow 34 = .ok (.iinc 4 1, 3) := by decide +kernel
theorem dX5_endOfRow_37 : decode cX5_endOfRow 37 = .ok (.goto (-34), 3) := by decide +kernel
theorem dX5_endOfRow_40 : decode cX5_endOfRow 40 = .ok (.iload 4, 2) := by decide +kernel
theorem dX5_endOfRow_42 : decode cX5_endOfRow 42 = .ok (.ireturn, 1) := by decide +kernel
def yX5_numberIn : MethodName := ⟨RX5, "numberIn", "(II)I"⟩
abbrev cX5_numberIn : ByteArray := prog_7_method_9_code
theorem dX5_numberIn_0 : decode cX5_numberIn 0 = .ok (.iconst 0, 1) := by decide +kernel
theorem dX5_numberIn_1 : decode cX5_numberIn 1 = .ok (.istore_n 3, 1) := by decide +kernel
theorem dX5_numberIn_2 : decode cX5_numberIn 2 = .ok (.iload_n 1, 1) := by decide +kernel
theorem dX5_numberIn_3 : decode cX5_numberIn 3 = .ok (.istore 4, 2) := by decide +kernel
theorem dX5_numberIn_5 : decode cX5_numberIn 5 = .ok (.iload 4, 2) := by decide +kernel
theorem dX5_numberIn_7 : decode cX5_numberIn 7 = .ok (.iload_n 2, 1) := by decide +kernel
theorem dX5_numberIn_8 : decode cX5_numberIn 8 = .ok (.if_icmp .ge 31, 3) := by decide +kernel
theorem dX5_numberIn_11 : decode cX5_numberIn 11 = .ok (.sipush 1001, 3) := by decide +kernel
theorem dX5_numberIn_14 : decode cX5_numberIn 14 = .ok (.bipush 10, 2) := by decide +kernel
theorem dX5_numberIn_16 : decode cX5_numberIn 16 = .ok (.iload_n 3, 1) := by decide +kernel
theorem dX5_numberIn_17 : decode cX5_numberIn 17 = .ok (.imul, 1) := by decide +kernel
theorem dX5_numberIn_18 : decode cX5_numberIn 18 = .ok (.aload_n 0, 1) := by decide +kernel
theorem dX5_numberIn_19 : decode cX5_numberIn 19 = .ok (.getfield 9, 3) := by decide +kernel
theorem dX5_numberIn_22 : decode cX5_numberIn 22 = .ok (.iload 4, 2) := by decide +kernel
theorem dX5_numberIn_24 : decode cX5_numberIn 24 = .ok (.iaload, 1) := by decide +kernel
theorem dX5_numberIn_25 : decode cX5_numberIn 25 = .ok (.iadd, 1) := by decide +kernel
theorem dX5_numberIn_26 : decode cX5_numberIn 26 = .ok (.bipush 48, 2) := by decide +kernel
theorem dX5_numberIn_28 : decode cX5_numberIn 28 = .ok (.isub, 1) := by decide +kernel
theorem dX5_numberIn_29 : decode cX5_numberIn 29 = .ok (.invokestatic 113, 3) := by decide +kernel
theorem lk_RX5_113 : Cond.methodLink RX5 113 Lib.Math.min.name ∈ gW := gW_u tb_4 12 (by rfl) (by decide +kernel)
theorem dX5_numberIn_32 : decode cX5_numberIn 32 = .ok (.istore_n 3, 1) := by decide +kernel
theorem dX5_numberIn_33 : decode cX5_numberIn 33 = .ok (.iinc 4 1, 3) := by decide +kernel
theorem dX5_numberIn_36 : decode cX5_numberIn 36 = .ok (.goto (-31), 3) := by decide +kernel
theorem dX5_numberIn_39 : decode cX5_numberIn 39 = .ok (.iload_n 3, 1) := by decide +kernel
theorem dX5_numberIn_40 : decode cX5_numberIn 40 = .ok (.ireturn, 1) := by decide +kernel
def yX5_tokenNow : MethodName := ⟨RX5, "tokenNow", "()I"⟩
abbrev cX5_tokenNow : ByteArray := prog_7_method_12_code
theorem dX5_tokenNow_0 : decode cX5_tokenNow 0 = .ok (.aload_n 0, 1) := by decide +kernel
theorem dX5_tokenNow_1 : decode cX5_tokenNow 1 = .ok (.getfield 63, 3) := by decide +kernel
theorem dX5_tokenNow_4 : decode cX5_tokenNow 4 = .ok (.ifCond .lt 26, 3) := by decide +kernel
theorem dX5_tokenNow_30 : decode cX5_tokenNow 30 = .ok (.bipush 31, 2) := by decide +kernel
theorem dX5_tokenNow_32 : decode cX5_tokenNow 32 = .ok (.ireturn, 1) := by decide +kernel
theorem dX5_tokenNow_7 : decode cX5_tokenNow 7 = .ok (.aload_n 0, 1) := by decide +kernel
theorem dX5_tokenNow_8 : decode cX5_tokenNow 8 = .ok (.getfield 63, 3) := by decide +kernel
theorem dX5_tokenNow_11 : decode cX5_tokenNow 11 = .ok (.aload_n 0, 1) := by decide +kernel
theorem dX5_tokenNow_12 : decode cX5_tokenNow 12 = .ok (.getfield 96, 3) := by decide +kernel
theorem dX5_tokenNow_15 : decode cX5_tokenNow 15 = .ok (.if_icmp .ge 15, 3) := by decide +kernel
theorem dX5_tokenNow_18 : decode cX5_tokenNow 18 = .ok (.aload_n 0, 1) := by decide +kernel
theorem dX5_tokenNow_19 : decode cX5_tokenNow 19 = .ok (.getfield 15, 3) := by decide +kernel
theorem dX5_tokenNow_22 : decode cX5_tokenNow 22 = .ok (.aload_n 0, 1) := by decide +kernel
theorem dX5_tokenNow_23 : decode cX5_tokenNow 23 = .ok (.getfield 63, 3) := by decide +kernel
theorem dX5_tokenNow_26 : decode cX5_tokenNow 26 = .ok (.iaload, 1) := by decide +kernel
theorem dX5_tokenNow_27 : decode cX5_tokenNow 27 = .ok (.goto 5, 3) := by decide +kernel
def yX5_take : MethodName := ⟨RX5, "take", "(I)Z"⟩
abbrev cX5_take : ByteArray := prog_7_method_13_code
theorem dX5_take_0 : decode cX5_take 0 = .ok (.aload_n 0, 1) := by decide +kernel
theorem dX5_take_1 : decode cX5_take 1 = .ok (.getfield 63, 3) := by decide +kernel
theorem dX5_take_4 : decode cX5_take 4 = .ok (.ifCond .lt 27, 3) := by decide +kernel
theorem dX5_take_31 : decode cX5_take 31 = .ok (.iconst 0, 1) := by decide +kernel
theorem dX5_take_32 : decode cX5_take 32 = .ok (.ireturn, 1) := by decide +kernel
theorem dX5_take_7 : decode cX5_take 7 = .ok (.aload_n 0, 1) := by decide +kernel
theorem dX5_take_8 : decode cX5_take 8 = .ok (.getfield 63, 3) := by decide +kernel
theorem dX5_take_11 : decode cX5_take 11 = .ok (.aload_n 0, 1) := by decide +kernel
theorem dX5_take_12 : decode cX5_take 12 = .ok (.getfield 96, 3) := by decide +kernel
theorem dX5_take_15 : decode cX5_take 15 = .ok (.if_icmp .ge 16, 3) := by decide +kernel
theorem dX5_take_18 : decode cX5_take 18 = .ok (.aload_n 0, 1) := by decide +kernel
theorem dX5_take_19 : decode cX5_take 19 = .ok (.getfield 15, 3) := by decide +kernel
theorem dX5_take_22 : decode cX5_take 22 = .ok (.aload_n 0, 1) := by decide +kernel
theorem dX5_take_23 : decode cX5_take 23 = .ok (.getfield 63, 3) := by decide +kernel
theorem dX5_take_26 : decode cX5_take 26 = .ok (.iaload, 1) := by decide +kernel
theorem dX5_take_27 : decode cX5_take 27 = .ok (.iload_n 1, 1) := by decide +kernel
theorem dX5_take_28 : decode cX5_take 28 = .ok (.if_icmp .eq 5, 3) := by decide +kernel
theorem dX5_take_33 : decode cX5_take 33 = .ok (.aload_n 0, 1) := by decide +kernel
theorem dX5_take_34 : decode cX5_take 34 = .ok (.dup, 1) := by decide +kernel
theorem dX5_take_35 : decode cX5_take 35 = .ok (.getfield 63, 3) := by decide +kernel
theorem dX5_take_38 : decode cX5_take 38 = .ok (.iconst 1, 1) := by decide +kernel
theorem dX5_take_39 : decode cX5_take 39 = .ok (.iadd, 1) := by decide +kernel
theorem dX5_take_40 : decode cX5_take 40 = .ok (.putfield 63, 3) := by decide +kernel
theorem dX5_take_43 : decode cX5_take 43 = .ok (.iconst 1, 1) := by decide +kernel
theorem dX5_take_44 : decode cX5_take 44 = .ok (.ireturn, 1) := by decide +kernel
def yX5_open : MethodName := ⟨RX5, "open", "(I)Z"⟩
abbrev cX5_open : ByteArray := prog_7_method_25_code
theorem dX5_open_0 : decode cX5_open 0 = .ok (.iload_n 1, 1) := by decide +kernel
theorem dX5_open_1 : decode cX5_open 1 = .ok (.bipush 8, 2) := by decide +kernel
theorem dX5_open_3 : decode cX5_open 3 = .ok (.if_icmp .lt 5, 3) := by decide +kernel
theorem dX5_open_8 : decode cX5_open 8 = .ok (.aload_n 0, 1) := by decide +kernel
theorem dX5_open_9 : decode cX5_open 9 = .ok (.dup, 1) := by decide +kernel
theorem dX5_open_10 : decode cX5_open 10 = .ok (.getfield 63, 3) := by decide +kernel
theorem dX5_open_13 : decode cX5_open 13 = .ok (.iconst 1, 1) := by decide +kernel
theorem dX5_open_14 : decode cX5_open 14 = .ok (.iadd, 1) := by decide +kernel
theorem dX5_open_15 : decode cX5_open 15 = .ok (.putfield 63, 3) := by decide +kernel
theorem dX5_open_18 : decode cX5_open 18 = .ok (.iconst 1, 1) := by decide +kernel
theorem dX5_open_19 : decode cX5_open 19 = .ok (.ireturn, 1) := by decide +kernel
theorem dX5_open_6 : decode cX5_open 6 = .ok (.iconst 0, 1) := by decide +kernel
theorem dX5_open_7 : decode cX5_open 7 = .ok (.ireturn, 1) := by decide +kernel
def yX5_isPlainWord : MethodName := ⟨RX5, "isPlainWord", "(I)Z"⟩
abbrev cX5_isPlainWord : ByteArray := prog_7_method_26_code
theorem dX5_isPlainWord_0 : decode cX5_isPlainWord 0 = .ok (.aload_n 0, 1) := by decide +kernel
theorem dX5_isPlainWord_1 : decode cX5_isPlainWord 1 = .ok (.getfield 59, 3) := by decide +kernel
theorem fl_RX5_59 : Cond.fieldLink RX5 59 RX5 "asOrders" "Z" ∈ gW := gW_u tb_2 115 (by rfl) (by decide +kernel)
theorem dX5_isPlainWord_4 : decode cX5_isPlainWord 4 = .ok (.ifCond .eq 27, 3) := by decide +kernel
theorem dX5_isPlainWord_31 : decode cX5_isPlainWord 31 = .ok (.iload_n 1, 1) := by decide +kernel
theorem dX5_isPlainWord_32 : decode cX5_isPlainWord 32 = .ok (.bipush 9, 2) := by decide +kernel
theorem dX5_isPlainWord_34 : decode cX5_isPlainWord 34 = .ok (.if_icmp .lt 13, 3) := by decide +kernel
theorem dX5_isPlainWord_47 : decode cX5_isPlainWord 47 = .ok (.iconst 0, 1) := by decide +kernel
theorem dX5_isPlainWord_48 : decode cX5_isPlainWord 48 = .ok (.ireturn, 1) := by decide +kernel
theorem dX5_isPlainWord_37 : decode cX5_isPlainWord 37 = .ok (.iload_n 1, 1) := by decide +kernel
theorem dX5_isPlainWord_38 : decode cX5_isPlainWord 38 = .ok (.bipush 17, 2) := by decide +kernel
theorem dX5_isPlainWord_40 : decode cX5_isPlainWord 40 = .ok (.if_icmp .gt 7, 3) := by decide +kernel
theorem dX5_isPlainWord_43 : decode cX5_isPlainWord 43 = .ok (.iconst 1, 1) := by decide +kernel
theorem dX5_isPlainWord_44 : decode cX5_isPlainWord 44 = .ok (.goto 4, 3) := by decide +kernel
theorem dX5_isPlainWord_7 : decode cX5_isPlainWord 7 = .ok (.iload_n 1, 1) := by decide +kernel
theorem dX5_isPlainWord_8 : decode cX5_isPlainWord 8 = .ok (.bipush 16, 2) := by decide +kernel
theorem dX5_isPlainWord_10 : decode cX5_isPlainWord 10 = .ok (.if_icmp .eq 15, 3) := by decide +kernel
theorem dX5_isPlainWord_25 : decode cX5_isPlainWord 25 = .ok (.iconst 1, 1) := by decide +kernel
theorem dX5_isPlainWord_26 : decode cX5_isPlainWord 26 = .ok (.goto 4, 3) := by decide +kernel
theorem dX5_isPlainWord_30 : decode cX5_isPlainWord 30 = .ok (.ireturn, 1) := by decide +kernel
theorem dX5_isPlainWord_13 : decode cX5_isPlainWord 13 = .ok (.iload_n 1, 1) := by decide +kernel
theorem dX5_isPlainWord_14 : decode cX5_isPlainWord 14 = .ok (.bipush 25, 2) := by decide +kernel
theorem dX5_isPlainWord_16 : decode cX5_isPlainWord 16 = .ok (.if_icmp .eq 9, 3) := by decide +kernel
theorem dX5_isPlainWord_19 : decode cX5_isPlainWord 19 = .ok (.iload_n 1, 1) := by decide +kernel
theorem dX5_isPlainWord_20 : decode cX5_isPlainWord 20 = .ok (.bipush 26, 2) := by decide +kernel
theorem dX5_isPlainWord_22 : decode cX5_isPlainWord 22 = .ok (.if_icmp .ne 7, 3) := by decide +kernel
theorem dX5_isPlainWord_29 : decode cX5_isPlainWord 29 = .ok (.iconst 0, 1) := by decide +kernel
def yX5_choicesBehind : MethodName := ⟨RX5, "choicesBehind", "(I)I"⟩
abbrev cX5_choicesBehind : ByteArray := prog_7_method_27_code
theorem dX5_choicesBehind_0 : decode cX5_choicesBehind 0 = .ok (.iload_n 0, 1) := by decide +kernel
theorem dX5_choicesBehind_1 : decode cX5_choicesBehind 1 = .ok (.bipush 10, 2) := by decide +kernel
theorem dX5_choicesBehind_3 : decode cX5_choicesBehind 3 = .ok (.if_icmp .ne 5, 3) := by decide +kernel
theorem dX5_choicesBehind_8 : decode cX5_choicesBehind 8 = .ok (.iload_n 0, 1) := by decide +kernel
theorem dX5_choicesBehind_9 : decode cX5_choicesBehind 9 = .ok (.bipush 27, 2) := by decide +kernel
theorem dX5_choicesBehind_11 : decode cX5_choicesBehind 11 = .ok (.if_icmp .eq 9, 3) := by decide +kernel
theorem dX5_choicesBehind_20 : decode cX5_choicesBehind 20 = .ok (.bipush 6, 2) := by decide +kernel
theorem dX5_choicesBehind_22 : decode cX5_choicesBehind 22 = .ok (.goto 4, 3) := by decide +kernel
theorem dX5_choicesBehind_26 : decode cX5_choicesBehind 26 = .ok (.ireturn, 1) := by decide +kernel
theorem dX5_choicesBehind_14 : decode cX5_choicesBehind 14 = .ok (.iload_n 0, 1) := by decide +kernel
theorem dX5_choicesBehind_15 : decode cX5_choicesBehind 15 = .ok (.bipush 28, 2) := by decide +kernel
theorem dX5_choicesBehind_17 : decode cX5_choicesBehind 17 = .ok (.if_icmp .ne 8, 3) := by decide +kernel
theorem dX5_choicesBehind_25 : decode cX5_choicesBehind 25 = .ok (.iconst 0, 1) := by decide +kernel
theorem dX5_choicesBehind_6 : decode cX5_choicesBehind 6 = .ok (.iconst 5, 1) := by decide +kernel
theorem dX5_choicesBehind_7 : decode cX5_choicesBehind 7 = .ok (.ireturn, 1) := by decide +kernel
def yX5_comparisonOf : MethodName := ⟨RX5, "comparisonOf", "(I)I"⟩
abbrev cX5_comparisonOf : ByteArray := prog_7_method_28_code
theorem dX5_comparisonOf_0 : decode cX5_comparisonOf 0 = .ok (.iload_n 0, 1) := by decide +kernel
theorem dX5_comparisonOf_1 : decode cX5_comparisonOf 1 = .ok (.bipush 100, 2) := by decide +kernel
theorem dX5_comparisonOf_3 : decode cX5_comparisonOf 3 = .ok (.isub, 1) := by decide +kernel
theorem dX5_comparisonOf_4 : decode cX5_comparisonOf 4 = .ok (.tableswitch 37 60 62 #[28, 34, 31], 28) := by decide +kernel
theorem dX5_comparisonOf_32 : decode cX5_comparisonOf 32 = .ok (.bipush 7, 2) := by decide +kernel
theorem dX5_comparisonOf_34 : decode cX5_comparisonOf 34 = .ok (.ireturn, 1) := by decide +kernel
theorem dX5_comparisonOf_38 : decode cX5_comparisonOf 38 = .ok (.bipush 9, 2) := by decide +kernel
theorem dX5_comparisonOf_40 : decode cX5_comparisonOf 40 = .ok (.ireturn, 1) := by decide +kernel
theorem dX5_comparisonOf_35 : decode cX5_comparisonOf 35 = .ok (.bipush 8, 2) := by decide +kernel
theorem dX5_comparisonOf_37 : decode cX5_comparisonOf 37 = .ok (.ireturn, 1) := by decide +kernel
theorem dX5_comparisonOf_41 : decode cX5_comparisonOf 41 = .ok (.iconst (-1), 1) := by decide +kernel
theorem dX5_comparisonOf_42 : decode cX5_comparisonOf 42 = .ok (.ireturn, 1) := by decide +kernel
def yX5_addingOf : MethodName := ⟨RX5, "addingOf", "(I)I"⟩
abbrev cX5_addingOf : ByteArray := prog_7_method_29_code
theorem dX5_addingOf_0 : decode cX5_addingOf 0 = .ok (.iload_n 0, 1) := by decide +kernel
theorem dX5_addingOf_1 : decode cX5_addingOf 1 = .ok (.bipush 100, 2) := by decide +kernel
theorem dX5_addingOf_3 : decode cX5_addingOf 3 = .ok (.isub, 1) := by decide +kernel
theorem dX5_addingOf_4 : decode cX5_addingOf 4 = .ok (.lookupswitch 32 #[(43, 28), (45, 30)], 28) := by decide +kernel
theorem dX5_addingOf_32 : decode cX5_addingOf 32 = .ok (.iconst 2, 1) := by decide +kernel
theorem dX5_addingOf_33 : decode cX5_addingOf 33 = .ok (.ireturn, 1) := by decide +kernel
theorem dX5_addingOf_34 : decode cX5_addingOf 34 = .ok (.iconst 3, 1) := by decide +kernel
theorem dX5_addingOf_35 : decode cX5_addingOf 35 = .ok (.ireturn, 1) := by decide +kernel
theorem dX5_addingOf_36 : decode cX5_addingOf 36 = .ok (.iconst (-1), 1) := by decide +kernel
theorem dX5_addingOf_37 : decode cX5_addingOf 37 = .ok (.ireturn, 1) := by decide +kernel
def yX5_timingOf : MethodName := ⟨RX5, "timingOf", "(I)I"⟩
abbrev cX5_timingOf : ByteArray := prog_7_method_30_code
theorem dX5_timingOf_0 : decode cX5_timingOf 0 = .ok (.iload_n 0, 1) := by decide +kernel
theorem dX5_timingOf_1 : decode cX5_timingOf 1 = .ok (.bipush 100, 2) := by decide +kernel
theorem dX5_timingOf_3 : decode cX5_timingOf 3 = .ok (.isub, 1) := by decide +kernel
theorem dX5_timingOf_4 : decode cX5_timingOf 4 = .ok (.lookupswitch 43 #[(37, 40), (42, 36), (47, 38)], 36) := by decide +kernel
theorem dX5_timingOf_44 : decode cX5_timingOf 44 = .ok (.bipush 6, 2) := by decide +kernel
theorem dX5_timingOf_46 : decode cX5_timingOf 46 = .ok (.ireturn, 1) := by decide +kernel
theorem dX5_timingOf_40 : decode cX5_timingOf 40 = .ok (.iconst 4, 1) := by decide +kernel
theorem dX5_timingOf_41 : decode cX5_timingOf 41 = .ok (.ireturn, 1) := by decide +kernel
theorem dX5_timingOf_42 : decode cX5_timingOf 42 = .ok (.iconst 5, 1) := by decide +kernel
theorem dX5_timingOf_43 : decode cX5_timingOf 43 = .ok (.ireturn, 1) := by decide +kernel
theorem dX5_timingOf_47 : decode cX5_timingOf 47 = .ok (.iconst (-1), 1) := by decide +kernel
theorem dX5_timingOf_48 : decode cX5_timingOf 48 = .ok (.ireturn, 1) := by decide +kernel
def yX5_write : MethodName := ⟨RX5, "write", "(II)Z"⟩
abbrev cX5_write : ByteArray := prog_7_method_31_code
theorem dX5_write_0 : decode cX5_write 0 = .ok (.iload_n 1, 1) := by decide +kernel
theorem dX5_write_1 : decode cX5_write 1 = .ok (.iconst (-1), 1) := by decide +kernel
theorem dX5_write_2 : decode cX5_write 2 = .ok (.if_icmp .ne 5, 3) := by decide +kernel
theorem dX5_write_7 : decode cX5_write 7 = .ok (.aload_n 0, 1) := by decide +kernel
theorem dX5_write_8 : decode cX5_write 8 = .ok (.getfield 30, 3) := by decide +kernel
theorem fl_RX5_30 : Cond.fieldLink RX5 30 RX5 "draft" "LListenWells$Text;" ∈ gW := gW_u tb_2 118 (by rfl) (by decide +kernel)
theorem dX5_write_11 : decode cX5_write 11 = .ok (.getfield 72, 3) := by decide +kernel
theorem fl_RX5_72 : Cond.fieldLink RX5 72 RX8 "length" "I" ∈ gW := gW_u tb_2 95 (by rfl) (by decide +kernel)
theorem dX5_write_14 : decode cX5_write 14 = .ok (.aload_n 0, 1) := by decide +kernel
theorem dX5_write_15 : decode cX5_write 15 = .ok (.getfield 30, 3) := by decide +kernel
theorem dX5_write_18 : decode cX5_write 18 = .ok (.getfield 182, 3) := by decide +kernel
theorem fl_RX5_182 : Cond.fieldLink RX5 182 RX8 "code" "[I" ∈ gW := gW_u tb_2 89 (by rfl) (by decide +kernel)
theorem dX5_write_21 : decode cX5_write 21 = .ok (.arraylength, 1) := by decide +kernel
theorem dX5_write_22 : decode cX5_write 22 = .ok (.if_icmp .lt 5, 3) := by decide +kernel
theorem dX5_write_27 : decode cX5_write 27 = .ok (.aload_n 0, 1) := by decide +kernel
theorem dX5_write_28 : decode cX5_write 28 = .ok (.getfield 30, 3) := by decide +kernel
theorem dX5_write_31 : decode cX5_write 31 = .ok (.getfield 182, 3) := by decide +kernel
theorem dX5_write_34 : decode cX5_write 34 = .ok (.aload_n 0, 1) := by decide +kernel
theorem dX5_write_35 : decode cX5_write 35 = .ok (.getfield 30, 3) := by decide +kernel
theorem dX5_write_38 : decode cX5_write 38 = .ok (.getfield 72, 3) := by decide +kernel
theorem dX5_write_41 : decode cX5_write 41 = .ok (.iload_n 2, 1) := by decide +kernel
theorem dX5_write_42 : decode cX5_write 42 = .ok (.bipush 6, 2) := by decide +kernel
theorem dX5_write_44 : decode cX5_write 44 = .ok (.ishl, 1) := by decide +kernel
theorem dX5_write_45 : decode cX5_write 45 = .ok (.iload_n 1, 1) := by decide +kernel
theorem dX5_write_46 : decode cX5_write 46 = .ok (.ior, 1) := by decide +kernel
theorem dX5_write_47 : decode cX5_write 47 = .ok (.iastore, 1) := by decide +kernel
theorem dX5_write_48 : decode cX5_write 48 = .ok (.aload_n 0, 1) := by decide +kernel
theorem dX5_write_49 : decode cX5_write 49 = .ok (.getfield 30, 3) := by decide +kernel
theorem dX5_write_52 : decode cX5_write 52 = .ok (.dup, 1) := by decide +kernel
theorem dX5_write_53 : decode cX5_write 53 = .ok (.getfield 72, 3) := by decide +kernel
theorem dX5_write_56 : decode cX5_write 56 = .ok (.iconst 1, 1) := by decide +kernel
theorem dX5_write_57 : decode cX5_write 57 = .ok (.iadd, 1) := by decide +kernel
theorem dX5_write_58 : decode cX5_write 58 = .ok (.putfield 72, 3) := by decide +kernel
theorem dX5_write_61 : decode cX5_write 61 = .ok (.iconst 1, 1) := by decide +kernel
theorem dX5_write_62 : decode cX5_write 62 = .ok (.ireturn, 1) := by decide +kernel
theorem dX5_write_25 : decode cX5_write 25 = .ok (.iconst 0, 1) := by decide +kernel
theorem dX5_write_26 : decode cX5_write 26 = .ok (.ireturn, 1) := by decide +kernel
theorem dX5_write_5 : decode cX5_write 5 = .ok (.iconst 1, 1) := by decide +kernel
theorem dX5_write_6 : decode cX5_write 6 = .ok (.ireturn, 1) := by decide +kernel
