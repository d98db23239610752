def yX12_draw : MethodName := ⟨RX12, "draw", "(I)I"⟩
abbrev cX12_draw : ByteArray := prog_14_method_133_code
theorem dX12_draw_0 : decode cX12_draw 0 = .ok (.aload_n 0, 1) := by decide +kernel
theorem dX12_draw_1 : decode cX12_draw 1 = .ok (.aload_n 0, 1) := by decide +kernel
theorem dX12_draw_2 : decode cX12_draw 2 = .ok (.getfield 591, 3) := by decide +kernel
theorem fl_RX12_591 : Cond.fieldLink RX12 591 RX12 "state" "J" ∈ gW := gW_u tb_6 128 (by rfl) (by decide +kernel)
theorem dX12_draw_5 : decode cX12_draw 5 = .ok (.ldc2_w 594, 3) := by decide +kernel
theorem ct_RX12_594 : Cond.constantLong RX12 594 1103 ∈ gW := gW_u tb_9 81 (by rfl) (by decide +kernel)
theorem dX12_draw_8 : decode cX12_draw 8 = .ok (.lmul, 1) := by decide +kernel
theorem dX12_draw_9 : decode cX12_draw 9 = .ok (.ldc2_w 596, 3) := by decide +kernel
theorem ct_RX12_596 : Cond.constantLong RX12 596 12345 ∈ gW := gW_u tb_9 82 (by rfl) (by decide +kernel)
theorem dX12_draw_12 : decode cX12_draw 12 = .ok (.ladd, 1) := by decide +kernel
theorem dX12_draw_13 : decode cX12_draw 13 = .ok (.ldc2_w 598, 3) := by decide +kernel
theorem ct_RX12_598 : Cond.constantLong RX12 598 1000003 ∈ gW := gW_u tb_9 83 (by rfl) (by decide +kernel)
theorem dX12_draw_16 : decode cX12_draw 16 = .ok (.lrem, 1) := by decide +kernel
theorem dX12_draw_17 : decode cX12_draw 17 = .ok (.putfield 591, 3) := by decide +kernel
theorem dX12_draw_20 : decode cX12_draw 20 = .ok (.aload_n 0, 1) := by decide +kernel
theorem dX12_draw_21 : decode cX12_draw 21 = .ok (.getfield 591, 3) := by decide +kernel
theorem dX12_draw_24 : decode cX12_draw 24 = .ok (.iload_n 1, 1) := by decide +kernel
theorem dX12_draw_25 : decode cX12_draw 25 = .ok (.i2l, 1) := by decide +kernel
theorem dX12_draw_26 : decode cX12_draw 26 = .ok (.lrem, 1) := by decide +kernel
theorem dX12_draw_27 : decode cX12_draw 27 = .ok (.l2i, 1) := by decide +kernel
theorem dX12_draw_28 : decode cX12_draw 28 = .ok (.ireturn, 1) := by decide +kernel
def yX12_drawn : MethodName := ⟨RX12, "drawn", "(II)I"⟩
abbrev cX12_drawn : ByteArray := prog_14_method_135_code
theorem dX12_drawn_0 : decode cX12_drawn 0 = .ok (.aload_n 0, 1) := by decide +kernel
theorem dX12_drawn_1 : decode cX12_drawn 1 = .ok (.iconst 0, 1) := by decide +kernel
theorem dX12_drawn_2 : decode cX12_drawn 2 = .ok (.putfield 156, 3) := by decide +kernel
theorem dX12_drawn_5 : decode cX12_drawn 5 = .ok (.aload_n 0, 1) := by decide +kernel
theorem dX12_drawn_6 : decode cX12_drawn 6 = .ok (.getfield 153, 3) := by decide +kernel
theorem fl_RX12_153 : Cond.fieldLink RX12 153 RX12 "nDrawn" "I" ∈ gW := gW_u tb_6 131 (by rfl) (by decide +kernel)
theorem dX12_drawn_9 : decode cX12_drawn 9 = .ok (.iconst (-1), 1) := by decide +kernel
theorem dX12_drawn_10 : decode cX12_drawn 10 = .ok (.if_icmp .eq 36, 3) := by decide +kernel
theorem dX12_drawn_46 : decode cX12_drawn 46 = .ok (.iconst (-1), 1) := by decide +kernel
theorem dX12_drawn_47 : decode cX12_drawn 47 = .ok (.ireturn, 1) := by decide +kernel
theorem dX12_drawn_13 : decode cX12_drawn 13 = .ok (.iload_n 2, 1) := by decide +kernel
theorem dX12_drawn_14 : decode cX12_drawn 14 = .ok (.i2l, 1) := by decide +kernel
theorem dX12_drawn_15 : decode cX12_drawn 15 = .ok (.lconst 0, 1) := by decide +kernel
theorem dX12_drawn_16 : decode cX12_drawn 16 = .ok (.ldc2_w 442, 3) := by decide +kernel
theorem dX12_drawn_19 : decode cX12_drawn 19 = .ok (.invokestatic 180, 3) := by decide +kernel
theorem dX12_drawn_22 : decode cX12_drawn 22 = .ok (.ifCond .eq 24, 3) := by decide +kernel
theorem dX12_drawn_25 : decode cX12_drawn 25 = .ok (.iload_n 2, 1) := by decide +kernel
theorem dX12_drawn_26 : decode cX12_drawn 26 = .ok (.iconst 2, 1) := by decide +kernel
theorem dX12_drawn_27 : decode cX12_drawn 27 = .ok (.if_icmp .ge 21, 3) := by decide +kernel
theorem dX12_drawn_30 : decode cX12_drawn 30 = .ok (.iload_n 1, 1) := by decide +kernel
theorem dX12_drawn_31 : decode cX12_drawn 31 = .ok (.i2l, 1) := by decide +kernel
theorem dX12_drawn_32 : decode cX12_drawn 32 = .ok (.lconst 0, 1) := by decide +kernel
theorem dX12_drawn_33 : decode cX12_drawn 33 = .ok (.aload_n 0, 1) := by decide +kernel
theorem dX12_drawn_34 : decode cX12_drawn 34 = .ok (.getfield 153, 3) := by decide +kernel
theorem dX12_drawn_37 : decode cX12_drawn 37 = .ok (.i2l, 1) := by decide +kernel
theorem dX12_drawn_38 : decode cX12_drawn 38 = .ok (.lconst 1, 1) := by decide +kernel
theorem dX12_drawn_39 : decode cX12_drawn 39 = .ok (.lsub, 1) := by decide +kernel
theorem dX12_drawn_40 : decode cX12_drawn 40 = .ok (.invokestatic 180, 3) := by decide +kernel
theorem dX12_drawn_43 : decode cX12_drawn 43 = .ok (.ifCond .ne 5, 3) := by decide +kernel
theorem dX12_drawn_48 : decode cX12_drawn 48 = .ok (.iload_n 2, 1) := by decide +kernel
theorem dX12_drawn_49 : decode cX12_drawn 49 = .ok (.iconst 2, 1) := by decide +kernel
theorem dX12_drawn_50 : decode cX12_drawn 50 = .ok (.if_icmp .ne 10, 3) := by decide +kernel
theorem dX12_drawn_60 : decode cX12_drawn 60 = .ok (.aload_n 0, 1) := by decide +kernel
theorem dX12_drawn_61 : decode cX12_drawn 61 = .ok (.getfield 150, 3) := by decide +kernel
theorem fl_RX12_150 : Cond.fieldLink RX12 150 RX12 "drawn" "[I" ∈ gW := gW_u tb_6 129 (by rfl) (by decide +kernel)
theorem dX12_drawn_64 : decode cX12_drawn 64 = .ok (.iconst 2, 1) := by decide +kernel
theorem dX12_drawn_65 : decode cX12_drawn 65 = .ok (.iload_n 1, 1) := by decide +kernel
theorem dX12_drawn_66 : decode cX12_drawn 66 = .ok (.imul, 1) := by decide +kernel
theorem dX12_drawn_67 : decode cX12_drawn 67 = .ok (.iload_n 2, 1) := by decide +kernel
theorem dX12_drawn_68 : decode cX12_drawn 68 = .ok (.iadd, 1) := by decide +kernel
theorem dX12_drawn_69 : decode cX12_drawn 69 = .ok (.iaload, 1) := by decide +kernel
theorem dX12_drawn_70 : decode cX12_drawn 70 = .ok (.ireturn, 1) := by decide +kernel
theorem dX12_drawn_53 : decode cX12_drawn 53 = .ok (.aload_n 0, 1) := by decide +kernel
theorem dX12_drawn_54 : decode cX12_drawn 54 = .ok (.getfield 605, 3) := by decide +kernel
theorem fl_RX12_605 : Cond.fieldLink RX12 605 RX12 "drawnDay" "I" ∈ gW := gW_u tb_6 130 (by rfl) (by decide +kernel)
theorem dX12_drawn_57 : decode cX12_drawn 57 = .ok (.goto 13, 3) := by decide +kernel
def yX12_dugCells : MethodName := ⟨RX12, "dugCells", "()I"⟩
abbrev cX12_dugCells : ByteArray := prog_14_method_136_code
theorem dX12_dugCells_0 : decode cX12_dugCells 0 = .ok (.iconst 0, 1) := by decide +kernel
theorem dX12_dugCells_1 : decode cX12_dugCells 1 = .ok (.istore_n 1, 1) := by decide +kernel
theorem dX12_dugCells_2 : decode cX12_dugCells 2 = .ok (.iconst 0, 1) := by decide +kernel
theorem dX12_dugCells_3 : decode cX12_dugCells 3 = .ok (.istore_n 2, 1) := by decide +kernel
theorem dX12_dugCells_4 : decode cX12_dugCells 4 = .ok (.iload_n 2, 1) := by decide +kernel
theorem dX12_dugCells_5 : decode cX12_dugCells 5 = .ok (.bipush 40, 2) := by decide +kernel
theorem dX12_dugCells_7 : decode cX12_dugCells 7 = .ok (.if_icmp .ge 21, 3) := by decide +kernel
theorem dX12_dugCells_10 : decode cX12_dugCells 10 = .ok (.iload_n 1, 1) := by decide +kernel
theorem dX12_dugCells_11 : decode cX12_dugCells 11 = .ok (.aload_n 0, 1) := by decide +kernel
theorem dX12_dugCells_12 : decode cX12_dugCells 12 = .ok (.getfield 13, 3) := by decide +kernel
theorem dX12_dugCells_15 : decode cX12_dugCells 15 = .ok (.bipush 33, 2) := by decide +kernel
theorem dX12_dugCells_17 : decode cX12_dugCells 17 = .ok (.iload_n 2, 1) := by decide +kernel
theorem dX12_dugCells_18 : decode cX12_dugCells 18 = .ok (.iadd, 1) := by decide +kernel
theorem dX12_dugCells_19 : decode cX12_dugCells 19 = .ok (.iaload, 1) := by decide +kernel
theorem dX12_dugCells_20 : decode cX12_dugCells 20 = .ok (.iadd, 1) := by decide +kernel
theorem dX12_dugCells_21 : decode cX12_dugCells 21 = .ok (.istore_n 1, 1) := by decide +kernel
theorem dX12_dugCells_22 : decode cX12_dugCells 22 = .ok (.iinc 2 1, 3) := by decide +kernel
theorem dX12_dugCells_25 : decode cX12_dugCells 25 = .ok (.goto (-21), 3) := by decide +kernel
theorem dX12_dugCells_28 : decode cX12_dugCells 28 = .ok (.iload_n 1, 1) := by decide +kernel
theorem dX12_dugCells_29 : decode cX12_dugCells 29 = .ok (.ireturn, 1) := by decide +kernel
def yX12_count : MethodName := ⟨RX12, "count", "(I)I"⟩
abbrev cX12_count : ByteArray := prog_14_method_137_code
theorem dX12_count_0 : decode cX12_count 0 = .ok (.aload_n 0, 1) := by decide +kernel
theorem dX12_count_1 : decode cX12_count 1 = .ok (.iconst 0, 1) := by decide +kernel
theorem dX12_count_2 : decode cX12_count 2 = .ok (.putfield 156, 3) := by decide +kernel
theorem dX12_count_5 : decode cX12_count 5 = .ok (.iload_n 1, 1) := by decide +kernel
theorem dX12_count_6 : decode cX12_count 6 = .ok (.tableswitch 175 0 14 #[74, 81, 88, 95, 100, 107, 114, 121, 126, 131, 138, 145, 152, 159, 167], 74) := by decide +kernel
theorem dX12_count_80 : decode cX12_count 80 = .ok (.aload_n 0, 1) := by decide +kernel
theorem dX12_count_81 : decode cX12_count 81 = .ok (.getfield 13, 3) := by decide +kernel
theorem dX12_count_84 : decode cX12_count 84 = .ok (.iconst 0, 1) := by decide +kernel
theorem dX12_count_85 : decode cX12_count 85 = .ok (.iaload, 1) := by decide +kernel
theorem dX12_count_86 : decode cX12_count 86 = .ok (.ireturn, 1) := by decide +kernel
theorem dX12_count_87 : decode cX12_count 87 = .ok (.aload_n 0, 1) := by decide +kernel
theorem dX12_count_88 : decode cX12_count 88 = .ok (.getfield 13, 3) := by decide +kernel
theorem dX12_count_91 : decode cX12_count 91 = .ok (.iconst 1, 1) := by decide +kernel
theorem dX12_count_92 : decode cX12_count 92 = .ok (.iaload, 1) := by decide +kernel
theorem dX12_count_93 : decode cX12_count 93 = .ok (.ireturn, 1) := by decide +kernel
theorem dX12_count_94 : decode cX12_count 94 = .ok (.aload_n 0, 1) := by decide +kernel
theorem dX12_count_95 : decode cX12_count 95 = .ok (.getfield 13, 3) := by decide +kernel
theorem dX12_count_98 : decode cX12_count 98 = .ok (.iconst 2, 1) := by decide +kernel
theorem dX12_count_99 : decode cX12_count 99 = .ok (.iaload, 1) := by decide +kernel
theorem dX12_count_100 : decode cX12_count 100 = .ok (.ireturn, 1) := by decide +kernel
theorem dX12_count_101 : decode cX12_count 101 = .ok (.aload_n 0, 1) := by decide +kernel
theorem dX12_count_102 : decode cX12_count 102 = .ok (.invokevirtual 608, 3) := by decide +kernel
theorem lk_RX12_608 : Cond.methodLink RX12 608 yX12_dugCells ∈ gW := gW_u tb_9 92 (by rfl) (by decide +kernel)
theorem mI_X12_dugCells : Cond.instanceMethod yX12_dugCells ∈ gW := gW_u tb_9 94 (by rfl) (by decide +kernel)
theorem mS_X12_dugCells : Cond.selects RX12 yX12_dugCells yX12_dugCells ∈ gW := gW_p (q := (yX12_dugCells, 59)) 117 (by decide +kernel)
theorem mC_X12_dugCells : Cond.code yX12_dugCells cX12_dugCells 3 (some .int) ∈ gW := gW_u tb_9 95 (by rfl) (by decide +kernel)
theorem ok_X12_dugCells : okD yX12_dugCells 0 := ⟨by decide +kernel, by decide +kernel, by decide +kernel⟩
theorem dX12_count_105 : decode cX12_count 105 = .ok (.ireturn, 1) := by decide +kernel
theorem dX12_count_106 : decode cX12_count 106 = .ok (.aload_n 0, 1) := by decide +kernel
theorem dX12_count_107 : decode cX12_count 107 = .ok (.getfield 13, 3) := by decide +kernel
theorem dX12_count_110 : decode cX12_count 110 = .ok (.iconst 3, 1) := by decide +kernel
theorem dX12_count_111 : decode cX12_count 111 = .ok (.iaload, 1) := by decide +kernel
theorem dX12_count_112 : decode cX12_count 112 = .ok (.ireturn, 1) := by decide +kernel
theorem dX12_count_113 : decode cX12_count 113 = .ok (.aload_n 0, 1) := by decide +kernel
theorem dX12_count_114 : decode cX12_count 114 = .ok (.getfield 13, 3) := by decide +kernel
theorem dX12_count_117 : decode cX12_count 117 = .ok (.iconst 4, 1) := by decide +kernel
theorem dX12_count_118 : decode cX12_count 118 = .ok (.iaload, 1) := by decide +kernel
theorem dX12_count_119 : decode cX12_count 119 = .ok (.ireturn, 1) := by decide +kernel
theorem dX12_count_120 : decode cX12_count 120 = .ok (.aload_n 0, 1) := by decide +kernel
theorem dX12_count_121 : decode cX12_count 121 = .ok (.getfield 13, 3) := by decide +kernel
theorem dX12_count_124 : decode cX12_count 124 = .ok (.iconst 5, 1) := by decide +kernel
theorem dX12_count_125 : decode cX12_count 125 = .ok (.iaload, 1) := by decide +kernel
theorem dX12_count_126 : decode cX12_count 126 = .ok (.ireturn, 1) := by decide +kernel
theorem dX12_count_127 : decode cX12_count 127 = .ok (.aload_n 0, 1) := by decide +kernel
theorem dX12_count_128 : decode cX12_count 128 = .ok (.getfield 166, 3) := by decide +kernel
theorem dX12_count_131 : decode cX12_count 131 = .ok (.ireturn, 1) := by decide +kernel
theorem dX12_count_132 : decode cX12_count 132 = .ok (.aload_n 0, 1) := by decide +kernel
theorem dX12_count_133 : decode cX12_count 133 = .ok (.getfield 247, 3) := by decide +kernel
theorem dX12_count_136 : decode cX12_count 136 = .ok (.ireturn, 1) := by decide +kernel
theorem dX12_count_137 : decode cX12_count 137 = .ok (.aload_n 0, 1) := by decide +kernel
theorem dX12_count_138 : decode cX12_count 138 = .ok (.getfield 7, 3) := by decide +kernel
theorem dX12_count_141 : decode cX12_count 141 = .ok (.iconst 1, 1) := by decide +kernel
theorem dX12_count_142 : decode cX12_count 142 = .ok (.iaload, 1) := by decide +kernel
theorem dX12_count_143 : decode cX12_count 143 = .ok (.ireturn, 1) := by decide +kernel
theorem dX12_count_144 : decode cX12_count 144 = .ok (.aload_n 0, 1) := by decide +kernel
theorem dX12_count_145 : decode cX12_count 145 = .ok (.getfield 7, 3) := by decide +kernel
theorem dX12_count_148 : decode cX12_count 148 = .ok (.iconst 2, 1) := by decide +kernel
theorem dX12_count_149 : decode cX12_count 149 = .ok (.iaload, 1) := by decide +kernel
theorem dX12_count_150 : decode cX12_count 150 = .ok (.ireturn, 1) := by decide +kernel
theorem dX12_count_151 : decode cX12_count 151 = .ok (.aload_n 0, 1) := by decide +kernel
theorem dX12_count_152 : decode cX12_count 152 = .ok (.getfield 7, 3) := by decide +kernel
theorem dX12_count_155 : decode cX12_count 155 = .ok (.iconst 3, 1) := by decide +kernel
theorem dX12_count_156 : decode cX12_count 156 = .ok (.iaload, 1) := by decide +kernel
theorem dX12_count_157 : decode cX12_count 157 = .ok (.ireturn, 1) := by decide +kernel
theorem dX12_count_158 : decode cX12_count 158 = .ok (.aload_n 0, 1) := by decide +kernel
theorem dX12_count_159 : decode cX12_count 159 = .ok (.getfield 7, 3) := by decide +kernel
theorem dX12_count_162 : decode cX12_count 162 = .ok (.iconst 5, 1) := by decide +kernel
theorem dX12_count_163 : decode cX12_count 163 = .ok (.iaload, 1) := by decide +kernel
theorem dX12_count_164 : decode cX12_count 164 = .ok (.ireturn, 1) := by decide +kernel
theorem dX12_count_165 : decode cX12_count 165 = .ok (.aload_n 0, 1) := by decide +kernel
theorem dX12_count_166 : decode cX12_count 166 = .ok (.getfield 7, 3) := by decide +kernel
theorem dX12_count_169 : decode cX12_count 169 = .ok (.bipush 6, 2) := by decide +kernel
theorem dX12_count_171 : decode cX12_count 171 = .ok (.iaload, 1) := by decide +kernel
theorem dX12_count_172 : decode cX12_count 172 = .ok (.ireturn, 1) := by decide +kernel
theorem dX12_count_173 : decode cX12_count 173 = .ok (.aload_n 0, 1) := by decide +kernel
theorem dX12_count_174 : decode cX12_count 174 = .ok (.getfield 13, 3) := by decide +kernel
theorem dX12_count_177 : decode cX12_count 177 = .ok (.bipush 6, 2) := by decide +kernel
theorem dX12_count_179 : decode cX12_count 179 = .ok (.iaload, 1) := by decide +kernel
theorem dX12_count_180 : decode cX12_count 180 = .ok (.ireturn, 1) := by decide +kernel
theorem dX12_count_181 : decode cX12_count 181 = .ok (.iload_n 1, 1) := by decide +kernel
theorem dX12_count_182 : decode cX12_count 182 = .ok (.i2l, 1) := by decide +kernel
theorem dX12_count_183 : decode cX12_count 183 = .ok (.ldc2_w 611, 3) := by decide +kernel
theorem ct_RX12_611 : Cond.constantLong RX12 611 15 ∈ gW := gW_u tb_9 96 (by rfl) (by decide +kernel)
theorem dX12_count_186 : decode cX12_count 186 = .ok (.ldc2_w 613, 3) := by decide +kernel
theorem ct_RX12_613 : Cond.constantLong RX12 613 17 ∈ gW := gW_u tb_9 97 (by rfl) (by decide +kernel)
theorem dX12_count_189 : decode cX12_count 189 = .ok (.invokestatic 180, 3) := by decide +kernel
theorem dX12_count_192 : decode cX12_count 192 = .ok (.ifCond .eq 18, 3) := by decide +kernel
theorem dX12_count_210 : decode cX12_count 210 = .ok (.iconst (-1), 1) := by decide +kernel
theorem dX12_count_211 : decode cX12_count 211 = .ok (.ireturn, 1) := by decide +kernel
theorem dX12_count_195 : decode cX12_count 195 = .ok (.aload_n 0, 1) := by decide +kernel
theorem dX12_count_196 : decode cX12_count 196 = .ok (.getfield 13, 3) := by decide +kernel
theorem dX12_count_199 : decode cX12_count 199 = .ok (.bipush 7, 2) := by decide +kernel
theorem dX12_count_201 : decode cX12_count 201 = .ok (.iload_n 1, 1) := by decide +kernel
theorem dX12_count_202 : decode cX12_count 202 = .ok (.iadd, 1) := by decide +kernel
theorem dX12_count_203 : decode cX12_count 203 = .ok (.bipush 15, 2) := by decide +kernel
theorem dX12_count_205 : decode cX12_count 205 = .ok (.isub, 1) := by decide +kernel
theorem dX12_count_206 : decode cX12_count 206 = .ok (.iaload, 1) := by decide +kernel
theorem dX12_count_207 : decode cX12_count 207 = .ok (.goto 4, 3) := by decide +kernel
def yX12_status : MethodName := ⟨RX12, "status", "()I"⟩
abbrev cX12_status : ByteArray := prog_14_method_138_code
theorem dX12_status_0 : decode cX12_status 0 = .ok (.aload_n 0, 1) := by decide +kernel
theorem dX12_status_1 : decode cX12_status 1 = .ok (.iconst 0, 1) := by decide +kernel
theorem dX12_status_2 : decode cX12_status 2 = .ok (.putfield 156, 3) := by decide +kernel
theorem dX12_status_5 : decode cX12_status 5 = .ok (.aload_n 0, 1) := by decide +kernel
theorem dX12_status_6 : decode cX12_status 6 = .ok (.getfield 163, 3) := by decide +kernel
theorem dX12_status_9 : decode cX12_status 9 = .ok (.ireturn, 1) := by decide +kernel
def yX12_stopped : MethodName := ⟨RX12, "stopped", "()I"⟩
abbrev cX12_stopped : ByteArray := prog_14_method_132_code
theorem dX12_stopped_0 : decode cX12_stopped 0 = .ok (.aload_n 0, 1) := by decide +kernel
theorem dX12_stopped_1 : decode cX12_stopped 1 = .ok (.iconst 0, 1) := by decide +kernel
theorem dX12_stopped_2 : decode cX12_stopped 2 = .ok (.putfield 156, 3) := by decide +kernel
theorem dX12_stopped_5 : decode cX12_stopped 5 = .ok (.aload_n 0, 1) := by decide +kernel
theorem dX12_stopped_6 : decode cX12_stopped 6 = .ok (.getfield 147, 3) := by decide +kernel
theorem fl_RX12_147 : Cond.fieldLink RX12 147 RX12 "stopped" "I" ∈ gW := gW_u tb_6 126 (by rfl) (by decide +kernel)
theorem dX12_stopped_9 : decode cX12_stopped 9 = .ok (.ireturn, 1) := by decide +kernel
def yX12_row : MethodName := ⟨RX12, "row", "()I"⟩
abbrev cX12_row : ByteArray := prog_14_method_34_code
theorem dX12_row_0 : decode cX12_row 0 = .ok (.aload_n 0, 1) := by decide +kernel
theorem dX12_row_1 : decode cX12_row 1 = .ok (.iconst 0, 1) := by decide +kernel
theorem dX12_row_2 : decode cX12_row 2 = .ok (.putfield 156, 3) := by decide +kernel
theorem dX12_row_5 : decode cX12_row 5 = .ok (.aload_n 0, 1) := by decide +kernel
theorem dX12_row_6 : decode cX12_row 6 = .ok (.getfield 247, 3) := by decide +kernel
theorem dX12_row_9 : decode cX12_row 9 = .ok (.istore_n 1, 1) := by decide +kernel
theorem dX12_row_10 : decode cX12_row 10 = .ok (.aload_n 0, 1) := by decide +kernel
theorem dX12_row_11 : decode cX12_row 11 = .ok (.iconst 0, 1) := by decide +kernel
theorem dX12_row_12 : decode cX12_row 12 = .ok (.putfield 247, 3) := by decide +kernel
theorem dX12_row_15 : decode cX12_row 15 = .ok (.iload_n 1, 1) := by decide +kernel
theorem dX12_row_16 : decode cX12_row 16 = .ok (.ifCond .ne 10, 3) := by decide +kernel
theorem dX12_row_26 : decode cX12_row 26 = .ok (.aload_n 0, 1) := by decide +kernel
theorem dX12_row_27 : decode cX12_row 27 = .ok (.iconst 0, 1) := by decide +kernel
theorem dX12_row_28 : decode cX12_row 28 = .ok (.putfield 250, 3) := by decide +kernel
theorem dX12_row_31 : decode cX12_row 31 = .ok (.iconst 0, 1) := by decide +kernel
theorem dX12_row_32 : decode cX12_row 32 = .ok (.istore_n 2, 1) := by decide +kernel
theorem dX12_row_33 : decode cX12_row 33 = .ok (.iconst 0, 1) := by decide +kernel
theorem dX12_row_34 : decode cX12_row 34 = .ok (.istore_n 3, 1) := by decide +kernel
theorem dX12_row_35 : decode cX12_row 35 = .ok (.iload_n 3, 1) := by decide +kernel
theorem dX12_row_36 : decode cX12_row 36 = .ok (.iload_n 1, 1) := by decide +kernel
theorem dX12_row_37 : decode cX12_row 37 = .ok (.if_icmp .ge 154, 3) := by decide +kernel
theorem dX12_row_40 : decode cX12_row 40 = .ok (.iload_n 3, 1) := by decide +kernel
theorem dX12_row_41 : decode cX12_row 41 = .ok (.iconst 3, 1) := by decide +kernel
theorem dX12_row_42 : decode cX12_row 42 = .ok (.idiv, 1) := by decide +kernel
theorem dX12_row_43 : decode cX12_row 43 = .ok (.istore 4, 2) := by decide +kernel
theorem dX12_row_45 : decode cX12_row 45 = .ok (.iload_n 3, 1) := by decide +kernel
theorem dX12_row_46 : decode cX12_row 46 = .ok (.iconst 2, 1) := by decide +kernel
theorem dX12_row_47 : decode cX12_row 47 = .ok (.iadd, 1) := by decide +kernel
theorem dX12_row_48 : decode cX12_row 48 = .ok (.iload_n 1, 1) := by decide +kernel
theorem dX12_row_49 : decode cX12_row 49 = .ok (.if_icmp .ge 126, 3) := by decide +kernel
theorem dX12_row_175 : decode cX12_row 175 = .ok (.aload_n 0, 1) := by decide +kernel
theorem dX12_row_176 : decode cX12_row 176 = .ok (.dup, 1) := by decide +kernel
theorem dX12_row_177 : decode cX12_row 177 = .ok (.getfield 250, 3) := by decide +kernel
theorem dX12_row_180 : decode cX12_row 180 = .ok (.iconst 1, 1) := by decide +kernel
theorem dX12_row_181 : decode cX12_row 181 = .ok (.iadd, 1) := by decide +kernel
theorem dX12_row_182 : decode cX12_row 182 = .ok (.putfield 250, 3) := by decide +kernel
theorem dX12_row_185 : decode cX12_row 185 = .ok (.iinc 3 3, 3) := by decide +kernel
theorem dX12_row_188 : decode cX12_row 188 = .ok (.goto (-153), 3) := by decide +kernel
theorem dX12_row_52 : decode cX12_row 52 = .ok (.iload 4, 2) := by decide +kernel
theorem dX12_row_54 : decode cX12_row 54 = .ok (.invokestatic 197, 3) := by decide +kernel
theorem dX12_row_57 : decode cX12_row 57 = .ok (.ifCond .eq 118, 3) := by decide +kernel
theorem dX12_row_60 : decode cX12_row 60 = .ok (.aload_n 0, 1) := by decide +kernel
theorem dX12_row_61 : decode cX12_row 61 = .ok (.getfield 13, 3) := by decide +kernel
theorem dX12_row_64 : decode cX12_row 64 = .ok (.bipush 33, 2) := by decide +kernel
theorem dX12_row_66 : decode cX12_row 66 = .ok (.iload 4, 2) := by decide +kernel
theorem dX12_row_68 : decode cX12_row 68 = .ok (.iadd, 1) := by decide +kernel
theorem dX12_row_69 : decode cX12_row 69 = .ok (.iaload, 1) := by decide +kernel
theorem dX12_row_70 : decode cX12_row 70 = .ok (.ifCond .ne 105, 3) := by decide +kernel
theorem dX12_row_73 : decode cX12_row 73 = .ok (.iconst 0, 1) := by decide +kernel
theorem dX12_row_74 : decode cX12_row 74 = .ok (.aload_n 0, 1) := by decide +kernel
theorem dX12_row_75 : decode cX12_row 75 = .ok (.getfield 35, 3) := by decide +kernel
theorem dX12_row_78 : decode cX12_row 78 = .ok (.iload_n 3, 1) := by decide +kernel
theorem dX12_row_79 : decode cX12_row 79 = .ok (.iaload, 1) := by decide +kernel
theorem dX12_row_80 : decode cX12_row 80 = .ok (.invokestatic 201, 3) := by decide +kernel
theorem dX12_row_83 : decode cX12_row 83 = .ok (.ifCond .eq 92, 3) := by decide +kernel
theorem dX12_row_86 : decode cX12_row 86 = .ok (.iconst 1, 1) := by decide +kernel
theorem dX12_row_87 : decode cX12_row 87 = .ok (.aload_n 0, 1) := by decide +kernel
theorem dX12_row_88 : decode cX12_row 88 = .ok (.getfield 35, 3) := by decide +kernel
theorem dX12_row_91 : decode cX12_row 91 = .ok (.iload_n 3, 1) := by decide +kernel
theorem dX12_row_92 : decode cX12_row 92 = .ok (.iconst 1, 1) := by decide +kernel
theorem dX12_row_93 : decode cX12_row 93 = .ok (.iadd, 1) := by decide +kernel
theorem dX12_row_94 : decode cX12_row 94 = .ok (.iaload, 1) := by decide +kernel
theorem dX12_row_95 : decode cX12_row 95 = .ok (.invokestatic 201, 3) := by decide +kernel
theorem dX12_row_98 : decode cX12_row 98 = .ok (.ifCond .eq 77, 3) := by decide +kernel
theorem dX12_row_101 : decode cX12_row 101 = .ok (.iconst 2, 1) := by decide +kernel
theorem dX12_row_102 : decode cX12_row 102 = .ok (.aload_n 0, 1) := by decide +kernel
theorem dX12_row_103 : decode cX12_row 103 = .ok (.getfield 35, 3) := by decide +kernel
theorem dX12_row_106 : decode cX12_row 106 = .ok (.iload_n 3, 1) := by decide +kernel
theorem dX12_row_107 : decode cX12_row 107 = .ok (.iconst 2, 1) := by decide +kernel
theorem dX12_row_108 : decode cX12_row 108 = .ok (.iadd, 1) := by decide +kernel
theorem dX12_row_109 : decode cX12_row 109 = .ok (.iaload, 1) := by decide +kernel
theorem dX12_row_110 : decode cX12_row 110 = .ok (.invokestatic 201, 3) := by decide +kernel
theorem dX12_row_113 : decode cX12_row 113 = .ok (.ifCond .eq 62, 3) := by decide +kernel
theorem dX12_row_116 : decode cX12_row 116 = .ok (.aload_n 0, 1) := by decide +kernel
theorem dX12_row_117 : decode cX12_row 117 = .ok (.getfield 13, 3) := by decide +kernel
theorem dX12_row_120 : decode cX12_row 120 = .ok (.bipush 113, 2) := by decide +kernel
theorem dX12_row_122 : decode cX12_row 122 = .ok (.iload 4, 2) := by decide +kernel
theorem dX12_row_124 : decode cX12_row 124 = .ok (.iadd, 1) := by decide +kernel
theorem dX12_row_125 : decode cX12_row 125 = .ok (.aload_n 0, 1) := by decide +kernel
theorem dX12_row_126 : decode cX12_row 126 = .ok (.getfield 35, 3) := by decide +kernel
theorem dX12_row_129 : decode cX12_row 129 = .ok (.iload_n 3, 1) := by decide +kernel
theorem dX12_row_130 : decode cX12_row 130 = .ok (.iaload, 1) := by decide +kernel
theorem dX12_row_131 : decode cX12_row 131 = .ok (.iastore, 1) := by decide +kernel
theorem dX12_row_132 : decode cX12_row 132 = .ok (.aload_n 0, 1) := by decide +kernel
theorem dX12_row_133 : decode cX12_row 133 = .ok (.getfield 13, 3) := by decide +kernel
theorem dX12_row_136 : decode cX12_row 136 = .ok (.sipush 153, 3) := by decide +kernel
theorem dX12_row_139 : decode cX12_row 139 = .ok (.iload 4, 2) := by decide +kernel
theorem dX12_row_141 : decode cX12_row 141 = .ok (.iadd, 1) := by decide +kernel
theorem dX12_row_142 : decode cX12_row 142 = .ok (.aload_n 0, 1) := by decide +kernel
theorem dX12_row_143 : decode cX12_row 143 = .ok (.getfield 35, 3) := by decide +kernel
theorem dX12_row_146 : decode cX12_row 146 = .ok (.iload_n 3, 1) := by decide +kernel
theorem dX12_row_147 : decode cX12_row 147 = .ok (.iconst 1, 1) := by decide +kernel
theorem dX12_row_148 : decode cX12_row 148 = .ok (.iadd, 1) := by decide +kernel
theorem dX12_row_149 : decode cX12_row 149 = .ok (.iaload, 1) := by decide +kernel
theorem dX12_row_150 : decode cX12_row 150 = .ok (.iastore, 1) := by decide +kernel
theorem dX12_row_151 : decode cX12_row 151 = .ok (.aload_n 0, 1) := by decide +kernel
theorem dX12_row_152 : decode cX12_row 152 = .ok (.getfield 13, 3) := by decide +kernel
theorem dX12_row_155 : decode cX12_row 155 = .ok (.bipush 73, 2) := by decide +kernel
theorem dX12_row_157 : decode cX12_row 157 = .ok (.iload 4, 2) := by decide +kernel
theorem dX12_row_159 : decode cX12_row 159 = .ok (.iadd, 1) := by decide +kernel
theorem dX12_row_160 : decode cX12_row 160 = .ok (.aload_n 0, 1) := by decide +kernel
theorem dX12_row_161 : decode cX12_row 161 = .ok (.getfield 35, 3) := by decide +kernel
theorem dX12_row_164 : decode cX12_row 164 = .ok (.iload_n 3, 1) := by decide +kernel
theorem dX12_row_165 : decode cX12_row 165 = .ok (.iconst 2, 1) := by decide +kernel
theorem dX12_row_166 : decode cX12_row 166 = .ok (.iadd, 1) := by decide +kernel
theorem dX12_row_167 : decode cX12_row 167 = .ok (.iaload, 1) := by decide +kernel
theorem dX12_row_168 : decode cX12_row 168 = .ok (.iastore, 1) := by decide +kernel
theorem dX12_row_169 : decode cX12_row 169 = .ok (.iinc 2 1, 3) := by decide +kernel
theorem dX12_row_172 : decode cX12_row 172 = .ok (.goto 13, 3) := by decide +kernel
theorem dX12_row_191 : decode cX12_row 191 = .ok (.aload_n 0, 1) := by decide +kernel
theorem dX12_row_192 : decode cX12_row 192 = .ok (.iload_n 2, 1) := by decide +kernel
theorem dX12_row_193 : decode cX12_row 193 = .ok (.invokevirtual 184, 3) := by decide +kernel
theorem dX12_row_196 : decode cX12_row 196 = .ok (.ireturn, 1) := by decide +kernel
theorem dX12_row_19 : decode cX12_row 19 = .ok (.aload_n 0, 1) := by decide +kernel
theorem dX12_row_20 : decode cX12_row 20 = .ok (.bipush (-6), 2) := by decide +kernel
theorem dX12_row_22 : decode cX12_row 22 = .ok (.invokevirtual 169, 3) := by decide +kernel
theorem dX12_row_25 : decode cX12_row 25 = .ok (.ireturn, 1) := by decide +kernel
def yX12_readSum : MethodName := ⟨RX12, "readSum", "(I)V"⟩
abbrev cX12_readSum : ByteArray := prog_14_method_125_code
theorem dX12_readSum_0 : decode cX12_readSum 0 = .ok (.aload_n 0, 1) := by decide +kernel
theorem dX12_readSum_1 : decode cX12_readSum 1 = .ok (.getfield 144, 3) := by decide +kernel
theorem fl_RX12_144 : Cond.fieldLink RX12 144 RX12 "nOrder" "[I" ∈ gW := gW_u tb_6 123 (by rfl) (by decide +kernel)
theorem dX12_readSum_4 : decode cX12_readSum 4 = .ok (.iload_n 1, 1) := by decide +kernel
theorem dX12_readSum_5 : decode cX12_readSum 5 = .ok (.aload_n 0, 1) := by decide +kernel
theorem dX12_readSum_6 : decode cX12_readSum 6 = .ok (.getfield 296, 3) := by decide +kernel
theorem dX12_readSum_9 : decode cX12_readSum 9 = .ok (.iastore, 1) := by decide +kernel
theorem dX12_readSum_10 : decode cX12_readSum 10 = .ok (.aload_n 0, 1) := by decide +kernel
theorem dX12_readSum_11 : decode cX12_readSum 11 = .ok (.getfield 259, 3) := by decide +kernel
theorem dX12_readSum_14 : decode cX12_readSum 14 = .ok (.ifCond .ne 8, 3) := by decide +kernel
theorem dX12_readSum_22 : decode cX12_readSum 22 = .ok (.aload_n 0, 1) := by decide +kernel
theorem dX12_readSum_23 : decode cX12_readSum 23 = .ok (.getfield 144, 3) := by decide +kernel
theorem dX12_readSum_26 : decode cX12_readSum 26 = .ok (.iload_n 1, 1) := by decide +kernel
theorem dX12_readSum_27 : decode cX12_readSum 27 = .ok (.iconst 1, 1) := by decide +kernel
theorem dX12_readSum_28 : decode cX12_readSum 28 = .ok (.iadd, 1) := by decide +kernel
theorem dX12_readSum_29 : decode cX12_readSum 29 = .ok (.aload_n 0, 1) := by decide +kernel
theorem dX12_readSum_30 : decode cX12_readSum 30 = .ok (.getfield 296, 3) := by decide +kernel
theorem dX12_readSum_33 : decode cX12_readSum 33 = .ok (.iastore, 1) := by decide +kernel
theorem dX12_readSum_34 : decode cX12_readSum 34 = .ok (.return_, 1) := by decide +kernel
theorem dX12_readSum_17 : decode cX12_readSum 17 = .ok (.aload_n 0, 1) := by decide +kernel
theorem dX12_readSum_18 : decode cX12_readSum 18 = .ok (.iconst 0, 1) := by decide +kernel
theorem dX12_readSum_19 : decode cX12_readSum 19 = .ok (.invokevirtual 391, 3) := by decide +kernel
theorem lk_RX12_391 : Cond.methodLink RX12 391 yX12_readExpression ∈ gW := gW_u tb_7 233 (by rfl) (by decide +kernel)
theorem mI_X12_readExpression : Cond.instanceMethod yX12_readExpression ∈ gW := gW_u tb_7 235 (by rfl) (by decide +kernel)
theorem mS_X12_readExpression : Cond.selects RX12 yX12_readExpression yX12_readExpression ∈ gW := gW_p (q := (yX12_readExpression, 59)) 66 (by decide +kernel)
theorem mC_X12_readExpression : Cond.code yX12_readExpression cX12_readExpression 3 none ∈ gW := gW_u tb_7 236 (by rfl) (by decide +kernel)
theorem ok_X12_readExpression : okD yX12_readExpression 1 := ⟨by decide +kernel, by decide +kernel, by decide +kernel⟩
def yX12_readLaw : MethodName := ⟨RX12, "readLaw", "()V"⟩
abbrev cX12_readLaw : ByteArray := prog_14_method_65_code
theorem dX12_readLaw_0 : decode cX12_readLaw 0 = .ok (.iconst (-1), 1) := by decide +kernel
theorem dX12_readLaw_1 : decode cX12_readLaw 1 = .ok (.istore_n 1, 1) := by decide +kernel
theorem dX12_readLaw_2 : decode cX12_readLaw 2 = .ok (.iconst 0, 1) := by decide +kernel
theorem dX12_readLaw_3 : decode cX12_readLaw 3 = .ok (.istore_n 2, 1) := by decide +kernel
theorem dX12_readLaw_4 : decode cX12_readLaw 4 = .ok (.iload_n 2, 1) := by decide +kernel
theorem dX12_readLaw_5 : decode cX12_readLaw 5 = .ok (.iconst 5, 1) := by decide +kernel
theorem dX12_readLaw_6 : decode cX12_readLaw 6 = .ok (.if_icmp .ge 28, 3) := by decide +kernel
theorem dX12_readLaw_9 : decode cX12_readLaw 9 = .ok (.aload_n 0, 1) := by decide +kernel
theorem dX12_readLaw_10 : decode cX12_readLaw 10 = .ok (.aload_n 0, 1) := by decide +kernel
theorem dX12_readLaw_11 : decode cX12_readLaw 11 = .ok (.getfield 100, 3) := by decide +kernel
theorem fl_RX12_100 : Cond.fieldLink RX12 100 RX12 "heads" "[J" ∈ gW := gW_u tb_6 106 (by rfl) (by decide +kernel)
theorem dX12_readLaw_14 : decode cX12_readLaw 14 = .ok (.iload_n 2, 1) := by decide +kernel
theorem dX12_readLaw_15 : decode cX12_readLaw 15 = .ok (.laload, 1) := by decide +kernel
theorem dX12_readLaw_16 : decode cX12_readLaw 16 = .ok (.invokevirtual 315, 3) := by decide +kernel
theorem dX12_readLaw_19 : decode cX12_readLaw 19 = .ok (.ifCond .eq 7, 3) := by decide +kernel
theorem dX12_readLaw_26 : decode cX12_readLaw 26 = .ok (.iload_n 1, 1) := by decide +kernel
theorem dX12_readLaw_27 : decode cX12_readLaw 27 = .ok (.istore_n 1, 1) := by decide +kernel
theorem dX12_readLaw_28 : decode cX12_readLaw 28 = .ok (.iinc 2 1, 3) := by decide +kernel
theorem dX12_readLaw_31 : decode cX12_readLaw 31 = .ok (.goto (-27), 3) := by decide +kernel
theorem dX12_readLaw_22 : decode cX12_readLaw 22 = .ok (.iload_n 2, 1) := by decide +kernel
theorem dX12_readLaw_23 : decode cX12_readLaw 23 = .ok (.goto 4, 3) := by decide +kernel
theorem dX12_readLaw_34 : decode cX12_readLaw 34 = .ok (.aload_n 0, 1) := by decide +kernel
theorem dX12_readLaw_35 : decode cX12_readLaw 35 = .ok (.iload_n 1, 1) := by decide +kernel
theorem dX12_readLaw_36 : decode cX12_readLaw 36 = .ok (.iconst (-1), 1) := by decide +kernel
theorem dX12_readLaw_37 : decode cX12_readLaw 37 = .ok (.if_icmp .eq 16, 3) := by decide +kernel
theorem dX12_readLaw_53 : decode cX12_readLaw 53 = .ok (.iconst 0, 1) := by decide +kernel
theorem dX12_readLaw_40 : decode cX12_readLaw 40 = .ok (.aload_n 0, 1) := by decide +kernel
theorem dX12_readLaw_41 : decode cX12_readLaw 41 = .ok (.getfield 388, 3) := by decide +kernel
theorem dX12_readLaw_44 : decode cX12_readLaw 44 = .ok (.bipush 12, 2) := by decide +kernel
theorem dX12_readLaw_46 : decode cX12_readLaw 46 = .ok (.if_icmp .ge 7, 3) := by decide +kernel
theorem dX12_readLaw_49 : decode cX12_readLaw 49 = .ok (.iconst 1, 1) := by decide +kernel
theorem dX12_readLaw_50 : decode cX12_readLaw 50 = .ok (.goto 4, 3) := by decide +kernel
theorem dX12_readLaw_54 : decode cX12_readLaw 54 = .ok (.invokevirtual 292, 3) := by decide +kernel
theorem dX12_readLaw_57 : decode cX12_readLaw 57 = .ok (.aload_n 0, 1) := by decide +kernel
theorem dX12_readLaw_58 : decode cX12_readLaw 58 = .ok (.getfield 259, 3) := by decide +kernel
theorem dX12_readLaw_61 : decode cX12_readLaw 61 = .ok (.ifCond .eq 4, 3) := by decide +kernel
theorem dX12_readLaw_65 : decode cX12_readLaw 65 = .ok (.bipush 8, 2) := by decide +kernel
theorem dX12_readLaw_67 : decode cX12_readLaw 67 = .ok (.aload_n 0, 1) := by decide +kernel
theorem dX12_readLaw_68 : decode cX12_readLaw 68 = .ok (.getfield 388, 3) := by decide +kernel
theorem dX12_readLaw_71 : decode cX12_readLaw 71 = .ok (.imul, 1) := by decide +kernel
theorem dX12_readLaw_72 : decode cX12_readLaw 72 = .ok (.istore_n 2, 1) := by decide +kernel
theorem dX12_readLaw_73 : decode cX12_readLaw 73 = .ok (.iconst 0, 1) := by decide +kernel
theorem dX12_readLaw_74 : decode cX12_readLaw 74 = .ok (.istore_n 3, 1) := by decide +kernel
theorem dX12_readLaw_75 : decode cX12_readLaw 75 = .ok (.iload_n 3, 1) := by decide +kernel
theorem dX12_readLaw_76 : decode cX12_readLaw 76 = .ok (.bipush 8, 2) := by decide +kernel
theorem dX12_readLaw_78 : decode cX12_readLaw 78 = .ok (.if_icmp .ge 18, 3) := by decide +kernel
theorem dX12_readLaw_81 : decode cX12_readLaw 81 = .ok (.aload_n 0, 1) := by decide +kernel
theorem dX12_readLaw_82 : decode cX12_readLaw 82 = .ok (.getfield 42, 3) := by decide +kernel
theorem fl_RX12_42 : Cond.fieldLink RX12 42 RX12 "nClause" "[I" ∈ gW := gW_u tb_6 95 (by rfl) (by decide +kernel)
theorem dX12_readLaw_85 : decode cX12_readLaw 85 = .ok (.iload_n 2, 1) := by decide +kernel
theorem dX12_readLaw_86 : decode cX12_readLaw 86 = .ok (.iload_n 3, 1) := by decide +kernel
theorem dX12_readLaw_87 : decode cX12_readLaw 87 = .ok (.iadd, 1) := by decide +kernel
theorem dX12_readLaw_88 : decode cX12_readLaw 88 = .ok (.iconst 0, 1) := by decide +kernel
theorem dX12_readLaw_89 : decode cX12_readLaw 89 = .ok (.iastore, 1) := by decide +kernel
theorem dX12_readLaw_90 : decode cX12_readLaw 90 = .ok (.iinc 3 1, 3) := by decide +kernel
theorem dX12_readLaw_93 : decode cX12_readLaw 93 = .ok (.goto (-18), 3) := by decide +kernel
theorem dX12_readLaw_96 : decode cX12_readLaw 96 = .ok (.aload_n 0, 1) := by decide +kernel
theorem dX12_readLaw_97 : decode cX12_readLaw 97 = .ok (.getfield 42, 3) := by decide +kernel
theorem dX12_readLaw_100 : decode cX12_readLaw 100 = .ok (.iload_n 2, 1) := by decide +kernel
theorem dX12_readLaw_101 : decode cX12_readLaw 101 = .ok (.iload_n 1, 1) := by decide +kernel
theorem dX12_readLaw_102 : decode cX12_readLaw 102 = .ok (.iastore, 1) := by decide +kernel
theorem dX12_readLaw_103 : decode cX12_readLaw 103 = .ok (.aload_n 0, 1) := by decide +kernel
theorem dX12_readLaw_104 : decode cX12_readLaw 104 = .ok (.dup, 1) := by decide +kernel
theorem dX12_readLaw_105 : decode cX12_readLaw 105 = .ok (.getfield 388, 3) := by decide +kernel
theorem dX12_readLaw_108 : decode cX12_readLaw 108 = .ok (.iconst 1, 1) := by decide +kernel
theorem dX12_readLaw_109 : decode cX12_readLaw 109 = .ok (.iadd, 1) := by decide +kernel
theorem dX12_readLaw_110 : decode cX12_readLaw 110 = .ok (.putfield 388, 3) := by decide +kernel
theorem dX12_readLaw_113 : decode cX12_readLaw 113 = .ok (.aload_n 0, 1) := by decide +kernel
theorem dX12_readLaw_114 : decode cX12_readLaw 114 = .ok (.getfield 42, 3) := by decide +kernel
theorem dX12_readLaw_117 : decode cX12_readLaw 117 = .ok (.iload_n 2, 1) := by decide +kernel
theorem dX12_readLaw_118 : decode cX12_readLaw 118 = .ok (.iconst 3, 1) := by decide +kernel
theorem dX12_readLaw_119 : decode cX12_readLaw 119 = .ok (.iadd, 1) := by decide +kernel
theorem dX12_readLaw_120 : decode cX12_readLaw 120 = .ok (.aload_n 0, 1) := by decide +kernel
theorem dX12_readLaw_121 : decode cX12_readLaw 121 = .ok (.getfield 296, 3) := by decide +kernel
theorem dX12_readLaw_124 : decode cX12_readLaw 124 = .ok (.iastore, 1) := by decide +kernel
theorem dX12_readLaw_125 : decode cX12_readLaw 125 = .ok (.iload_n 1, 1) := by decide +kernel
theorem dX12_readLaw_126 : decode cX12_readLaw 126 = .ok (.iconst 4, 1) := by decide +kernel
theorem dX12_readLaw_127 : decode cX12_readLaw 127 = .ok (.if_icmp .eq 8, 3) := by decide +kernel
theorem dX12_readLaw_130 : decode cX12_readLaw 130 = .ok (.aload_n 0, 1) := by decide +kernel
theorem dX12_readLaw_131 : decode cX12_readLaw 131 = .ok (.iconst 0, 1) := by decide +kernel
theorem dX12_readLaw_132 : decode cX12_readLaw 132 = .ok (.invokevirtual 391, 3) := by decide +kernel
theorem dX12_readLaw_135 : decode cX12_readLaw 135 = .ok (.aload_n 0, 1) := by decide +kernel
theorem dX12_readLaw_136 : decode cX12_readLaw 136 = .ok (.getfield 42, 3) := by decide +kernel
theorem dX12_readLaw_139 : decode cX12_readLaw 139 = .ok (.iload_n 2, 1) := by decide +kernel
theorem dX12_readLaw_140 : decode cX12_readLaw 140 = .ok (.iconst 4, 1) := by decide +kernel
theorem dX12_readLaw_141 : decode cX12_readLaw 141 = .ok (.iadd, 1) := by decide +kernel
theorem dX12_readLaw_142 : decode cX12_readLaw 142 = .ok (.aload_n 0, 1) := by decide +kernel
theorem dX12_readLaw_143 : decode cX12_readLaw 143 = .ok (.getfield 296, 3) := by decide +kernel
theorem dX12_readLaw_146 : decode cX12_readLaw 146 = .ok (.iastore, 1) := by decide +kernel
theorem dX12_readLaw_147 : decode cX12_readLaw 147 = .ok (.aload_n 0, 1) := by decide +kernel
theorem dX12_readLaw_148 : decode cX12_readLaw 148 = .ok (.getfield 42, 3) := by decide +kernel
theorem dX12_readLaw_151 : decode cX12_readLaw 151 = .ok (.iload_n 2, 1) := by decide +kernel
theorem dX12_readLaw_152 : decode cX12_readLaw 152 = .ok (.iconst 5, 1) := by decide +kernel
theorem dX12_readLaw_153 : decode cX12_readLaw 153 = .ok (.iadd, 1) := by decide +kernel
theorem dX12_readLaw_154 : decode cX12_readLaw 154 = .ok (.aload_n 0, 1) := by decide +kernel
theorem dX12_readLaw_155 : decode cX12_readLaw 155 = .ok (.getfield 296, 3) := by decide +kernel
theorem dX12_readLaw_158 : decode cX12_readLaw 158 = .ok (.iastore, 1) := by decide +kernel
theorem dX12_readLaw_159 : decode cX12_readLaw 159 = .ok (.aload_n 0, 1) := by decide +kernel
theorem dX12_readLaw_160 : decode cX12_readLaw 160 = .ok (.getfield 259, 3) := by decide +kernel
theorem dX12_readLaw_163 : decode cX12_readLaw 163 = .ok (.ifCond .ne 22, 3) := by decide +kernel
theorem dX12_readLaw_185 : decode cX12_readLaw 185 = .ok (.aload_n 0, 1) := by decide +kernel
theorem dX12_readLaw_186 : decode cX12_readLaw 186 = .ok (.getfield 42, 3) := by decide +kernel
theorem dX12_readLaw_189 : decode cX12_readLaw 189 = .ok (.iload_n 2, 1) := by decide +kernel
theorem dX12_readLaw_190 : decode cX12_readLaw 190 = .ok (.bipush 6, 2) := by decide +kernel
theorem dX12_readLaw_192 : decode cX12_readLaw 192 = .ok (.iadd, 1) := by decide +kernel
theorem dX12_readLaw_193 : decode cX12_readLaw 193 = .ok (.aload_n 0, 1) := by decide +kernel
theorem dX12_readLaw_194 : decode cX12_readLaw 194 = .ok (.getfield 296, 3) := by decide +kernel
theorem dX12_readLaw_197 : decode cX12_readLaw 197 = .ok (.iastore, 1) := by decide +kernel
theorem dX12_readLaw_198 : decode cX12_readLaw 198 = .ok (.return_, 1) := by decide +kernel
theorem dX12_readLaw_166 : decode cX12_readLaw 166 = .ok (.aload_n 0, 1) := by decide +kernel
theorem dX12_readLaw_167 : decode cX12_readLaw 167 = .ok (.ldc2_w 394, 3) := by decide +kernel
theorem ct_RX12_394 : Cond.constantLong RX12 394 294 ∈ gW := gW_u tb_8 68 (by rfl) (by decide +kernel)
theorem dX12_readLaw_170 : decode cX12_readLaw 170 = .ok (.invokevirtual 315, 3) := by decide +kernel
theorem dX12_readLaw_173 : decode cX12_readLaw 173 = .ok (.ifCond .eq 12, 3) := by decide +kernel
theorem dX12_readLaw_176 : decode cX12_readLaw 176 = .ok (.aload_n 0, 1) := by decide +kernel
theorem dX12_readLaw_177 : decode cX12_readLaw 177 = .ok (.invokevirtual 263, 3) := by decide +kernel
theorem dX12_readLaw_180 : decode cX12_readLaw 180 = .ok (.aload_n 0, 1) := by decide +kernel
theorem dX12_readLaw_181 : decode cX12_readLaw 181 = .ok (.iconst 1, 1) := by decide +kernel
theorem dX12_readLaw_182 : decode cX12_readLaw 182 = .ok (.invokevirtual 391, 3) := by decide +kernel
theorem dX12_readLaw_64 : decode cX12_readLaw 64 = .ok (.return_, 1) := by decide +kernel
