def yX12_draw : MethodName := ⟨RX12, "draw", "(I)I"⟩
abbrev cX12_draw : ByteArray := prog_14_method_133_code
theorem dX12_draw_0 : decode cX12_draw 0 = .ok (.aload_n 0, 1) := by decide +kernel
theorem dX12_draw_1 : decode cX12_draw 1 = .ok (.aload_n 0, 1) := by decide +kernel
theorem dX12_draw_2 : decode cX12_draw 2 = .ok (.getfield 591, 3) := by decide +kernel
theorem fl_RX12_591 : Cond.fieldLink RX12 591 RX12 "state" "J" ∈ gW := gW_t 1328 (by decide +kernel) rfl
theorem dX12_draw_5 : decode cX12_draw 5 = .ok (.ldc2_w 594, 3) := by decide +kernel
theorem ct_RX12_594 : Cond.constantLong RX12 594 1103 ∈ gW := gW_t 2001 (by decide +kernel) rfl
theorem dX12_draw_8 : decode cX12_draw 8 = .ok (.lmul, 1) := by decide +kernel
theorem dX12_draw_9 : decode cX12_draw 9 = .ok (.ldc2_w 596, 3) := by decide +kernel
theorem ct_RX12_596 : Cond.constantLong RX12 596 12345 ∈ gW := gW_t 2002 (by decide +kernel) rfl
theorem dX12_draw_12 : decode cX12_draw 12 = .ok (.ladd, 1) := by decide +kernel
theorem dX12_draw_13 : decode cX12_draw 13 = .ok (.ldc2_w 598, 3) := by decide +kernel
theorem ct_RX12_598 : Cond.constantLong RX12 598 1000003 ∈ gW := gW_t 2003 (by decide +kernel) rfl
theorem dX12_draw_16 : decode cX12_draw 16 = .ok (.lrem, 1) := by decide +kernel
theorem dX12_draw_17 : decode cX12_draw 17 = .ok (.putfield 591, 3) := by decide +kernel
theorem dX12_draw_20 : decode cX12_draw 20 = .ok (.aload_n 0, 1) := by decide +kernel
theorem dX12_draw_21 : decode cX12_draw 21 = .ok (.getfield 591, 3) := by decide +kernel
theorem dX12_draw_24 : decode cX12_draw 24 = .ok (.iload_n 1, 1) := by decide +kernel
theorem dX12_draw_25 : decode cX12_draw 25 = .ok (.i2l, 1) := by decide +kernel
theorem dX12_draw_26 : decode cX12_draw 26 = .ok (.lrem, 1) := by decide +kernel
theorem dX12_draw_27 : decode cX12_draw 27 = .ok (.l2i, 1) := by decide +kernel
theorem dX12_draw_28 : decode cX12_draw 28 = .ok (.ireturn, 1) := by decide +kernel
def yX12_drawn : MethodName := ⟨RX12, "drawn", "(II)I"⟩
abbrev cX12_drawn : ByteArray := prog_14_method_135_code
theorem dX12_drawn_0 : decode cX12_drawn 0 = .ok (.aload_n 0, 1) := by decide +kernel
theorem dX12_drawn_1 : decode cX12_drawn 1 = .ok (.iconst 0, 1) := by decide +kernel
theorem dX12_drawn_2 : decode cX12_drawn 2 = .ok (.putfield 156, 3) := by decide +kernel
theorem dX12_drawn_5 : decode cX12_drawn 5 = .ok (.aload_n 0, 1) := by decide +kernel
theorem dX12_drawn_6 : decode cX12_drawn 6 = .ok (.getfield 153, 3) := by decide +kernel
theorem fl_RX12_153 : Cond.fieldLink RX12 153 RX12 "nDrawn" "I" ∈ gW := gW_t 1331 (by decide +kernel) rfl
theorem dX12_drawn_9 : decode cX12_drawn 9 = .ok (.iconst (-1), 1) := by decide +kernel
theorem dX12_drawn_10 : decode cX12_drawn 10 = .ok (.if_icmp .eq 36, 3) := by decide +kernel
theorem dX12_drawn_46 : decode cX12_drawn 46 = .ok (.iconst (-1), 1) := by decide +kernel
theorem dX12_drawn_47 : decode cX12_drawn 47 = .ok (.ireturn, 1) := by decide +kernel
theorem dX12_drawn_13 : decode cX12_drawn 13 = .ok (.iload_n 2, 1) := by decide +kernel
theorem dX12_drawn_14 : decode cX12_drawn 14 = .ok (.i2l, 1) := by decide +kernel
theorem dX12_drawn_15 : decode cX12_drawn 15 = .ok (.lconst 0, 1) := by decide +kernel
theorem dX12_drawn_16 : decode cX12_drawn 16 = .ok (.ldc2_w 442, 3) := by decide +kernel
theorem dX12_drawn_19 : decode cX12_drawn 19 = .ok (.invokestatic 180, 3) := by decide +kernel
theorem dX12_drawn_22 : decode cX12_drawn 22 = .ok (.ifCond .eq 24, 3) := by decide +kernel
theorem dX12_drawn_25 : decode cX12_drawn 25 = .ok (.iload_n 2, 1) := by decide +kernel
theorem dX12_drawn_26 : decode cX12_drawn 26 = .ok (.iconst 2, 1) := by decide +kernel
theorem dX12_drawn_27 : decode cX12_drawn 27 = .ok (.if_icmp .ge 21, 3) := by decide +kernel
theorem dX12_drawn_30 : decode cX12_drawn 30 = .ok (.iload_n 1, 1) := by decide +kernel
theorem dX12_drawn_31 : decode cX12_drawn 31 = .ok (.i2l, 1) := by decide +kernel
theorem dX12_drawn_32 : decode cX12_drawn 32 = .ok (.lconst 0, 1) := by decide +kernel
theorem dX12_drawn_33 : decode cX12_drawn 33 = .ok (.aload_n 0, 1) := by decide +kernel
theorem dX12_drawn_34 : decode cX12_drawn 34 = .ok (.getfield 153, 3) := by decide +kernel
theorem dX12_drawn_37 : decode cX12_drawn 37 = .ok (.i2l, 1) := by decide +kernel
theorem dX12_drawn_38 : decode cX12_drawn 38 = .ok (.lconst 1, 1) := by decide +kernel
theorem dX12_drawn_39 : decode cX12_drawn 39 = .ok (.lsub, 1) := by decide +kernel
theorem dX12_drawn_40 : decode cX12_drawn 40 = .ok (.invokestatic 180, 3) := by decide +kernel
theorem dX12_drawn_43 : decode cX12_drawn 43 = .ok (.ifCond .ne 5, 3) := by decide +kernel
theorem dX12_drawn_48 : decode cX12_drawn 48 = .ok (.iload_n 2, 1) := by decide +kernel
theorem dX12_drawn_49 : decode cX12_drawn 49 = .ok (.iconst 2, 1) := by decide +kernel
theorem dX12_drawn_50 : decode cX12_drawn 50 = .ok (.if_icmp .ne 10, 3) := by decide +kernel
theorem dX12_drawn_60 : decode cX12_drawn 60 = .ok (.aload_n 0, 1) := by decide +kernel
theorem dX12_drawn_61 : decode cX12_drawn 61 = .ok (.getfield 150, 3) := by decide +kernel
theorem fl_RX12_150 : Cond.fieldLink RX12 150 RX12 "drawn" "[I" ∈ gW := gW_t 1329 (by decide +kernel) rfl
theorem dX12_drawn_64 : decode cX12_drawn 64 = .ok (.iconst 2, 1) := by decide +kernel
theorem dX12_drawn_65 : decode cX12_drawn 65 = .ok (.iload_n 1, 1) := by decide +kernel
theorem dX12_drawn_66 : decode cX12_drawn 66 = .ok (.imul, 1) := by decide +kernel
theorem dX12_drawn_67 : decode cX12_drawn 67 = .ok (.iload_n 2, 1) := by decide +kernel
theorem dX12_drawn_68 : decode cX12_drawn 68 = .ok (.iadd, 1) := by decide +kernel
theorem dX12_drawn_69 : decode cX12_drawn 69 = .ok (.iaload, 1) := by decide +kernel
theorem dX12_drawn_70 : decode cX12_drawn 70 = .ok (.ireturn, 1) := by decide +kernel
theorem dX12_drawn_53 : decode cX12_drawn 53 = .ok (.aload_n 0, 1) := by decide +kernel
theorem dX12_drawn_54 : decode cX12_drawn 54 = .ok (.getfield 605, 3) := by decide +kernel
theorem fl_RX12_605 : Cond.fieldLink RX12 605 RX12 "drawnDay" "I" ∈ gW := gW_t 1330 (by decide +kernel) rfl
theorem dX12_drawn_57 : decode cX12_drawn 57 = .ok (.goto 13, 3) := by decide +kernel
def yX12_dugCells : MethodName := ⟨RX12, "dugCells", "()I"⟩
abbrev cX12_dugCells : ByteArray := prog_14_method_136_code
theorem dX12_dugCells_0 : decode cX12_dugCells 0 = .ok (.iconst 0, 1) := by decide +kernel
theorem dX12_dugCells_1 : decode cX12_dugCells 1 = .ok (.istore_n 1, 1) := by decide +kernel
theorem dX12_dugCells_2 : decode cX12_dugCells 2 = .ok (.iconst 0, 1) := by decide +kernel
theorem dX12_dugCells_3 : decode cX12_dugCells 3 = .ok (.istore_n 2, 1) := by decide +kernel
theorem dX12_dugCells_4 : decode cX12_dugCells 4 = .ok (.iload_n 2, 1) := by decide +kernel
theorem dX12_dugCells_5 : decode cX12_dugCells 5 = .ok (.bipush 40, 2) := by decide +kernel
theorem dX12_dugCells_7 : decode cX12_dugCells 7 = .ok (.if_icmp .ge 21, 3) := by decide +kernel
theorem dX12_dugCells_10 : decode cX12_dugCells 10 = .ok (.iload_n 1, 1) := by decide +kernel
theorem dX12_dugCells_11 : decode cX12_dugCells 11 = .ok (.aload_n 0, 1) := by decide +kernel
theorem dX12_dugCells_12 : decode cX12_dugCells 12 = .ok (.getfield 13, 3) := by decide +kernel
theorem dX12_dugCells_15 : decode cX12_dugCells 15 = .ok (.bipush 33, 2) := by decide +kernel
theorem dX12_dugCells_17 : decode cX12_dugCells 17 = .ok (.iload_n 2, 1) := by decide +kernel
theorem dX12_dugCells_18 : decode cX12_dugCells 18 = .ok (.iadd, 1) := by decide +kernel
theorem dX12_dugCells_19 : decode cX12_dugCells 19 = .ok (.iaload, 1) := by decide +kernel
theorem dX12_dugCells_20 : decode cX12_dugCells 20 = .ok (.iadd, 1) := by decide +kernel
theorem dX12_dugCells_21 : decode cX12_dugCells 21 = .ok (.istore_n 1, 1) := by decide +kernel
theorem dX12_dugCells_22 : decode cX12_dugCells 22 = .ok (.iinc 2 1, 3) := by decide +kernel
theorem dX12_dugCells_25 : decode cX12_dugCells 25 = .ok (.goto (-21), 3) := by decide +kernel
theorem dX12_dugCells_28 : decode cX12_dugCells 28 = .ok (.iload_n 1, 1) := by decide +kernel
theorem dX12_dugCells_29 : decode cX12_dugCells 29 = .ok (.ireturn, 1) := by decide +kernel
def yX12_count : MethodName := ⟨RX12, "count", "(I)I"⟩
abbrev cX12_count : ByteArray := prog_14_method_137_code
theorem dX12_count_0 : decode cX12_count 0 = .ok (.aload_n 0, 1) := by decide +kernel
theorem dX12_count_1 : decode cX12_count 1 = .ok (.iconst 0, 1) := by decide +kernel
theorem dX12_count_2 : decode cX12_count 2 = .ok (.putfield 156, 3) := by decide +kernel
theorem dX12_count_5 : decode cX12_count 5 = .ok (.iload_n 1, 1) := by decide +kernel
theorem dX12_count_6 : decode cX12_count 6 = .ok (.tableswitch 175 0 14 #[74, 81, 88, 95, 100, 107, 114, 121, 126, 131, 138, 145, 152, 159, 167], 74) := by decide +kernel
theorem dX12_count_80 : decode cX12_count 80 = .ok (.aload_n 0, 1) := by decide +kernel
theorem dX12_count_81 : decode cX12_count 81 = .ok (.getfield 13, 3) := by decide +kernel
theorem dX12_count_84 : decode cX12_count 84 = .ok (.iconst 0, 1) := by decide +kernel
theorem dX12_count_85 : decode cX12_count 85 = .ok (.iaload, 1) := by decide +kernel
theorem dX12_count_86 : decode cX12_count 86 = .ok (.ireturn, 1) := by decide +kernel
theorem dX12_count_87 : decode cX12_count 87 = .ok (.aload_n 0, 1) := by decide +kernel
theorem dX12_count_88 : decode cX12_count 88 = .ok (.getfield 13, 3) := by decide +kernel
theorem dX12_count_91 : decode cX12_count 91 = .ok (.iconst 1, 1) := by decide +kernel
theorem dX12_count_92 : decode cX12_count 92 = .ok (.iaload, 1) := by decide +kernel
theorem dX12_count_93 : decode cX12_count 93 = .ok (.ireturn, 1) := by decide +kernel
theorem dX12_count_94 : decode cX12_count 94 = .ok (.aload_n 0, 1) := by decide +kernel
theorem dX12_count_95 : decode cX12_count 95 = .ok (.getfield 13, 3) := by decide +kernel
theorem dX12_count_98 : decode cX12_count 98 = .ok (.iconst 2, 1) := by decide +kernel
theorem dX12_count_99 : decode cX12_count 99 = .ok (.iaload, 1) := by decide +kernel
theorem dX12_count_100 : decode cX12_count 100 = .ok (.ireturn, 1) := by decide +kernel
theorem dX12_count_101 : decode cX12_count 101 = .ok (.aload_n 0, 1) := by decide +kernel
theorem dX12_count_102 : decode cX12_count 102 = .ok (.invokevirtual 608, 3) := by decide +kernel
theorem lk_RX12_608 : Cond.methodLink RX12 608 yX12_dugCells ∈ gW := gW_t 2012 (by decide +kernel) rfl
theorem mI_X12_dugCells : Cond.instanceMethod yX12_dugCells ∈ gW := gW_t 2014 (by decide +kernel) rfl
theorem mS_X12_dugCells : Cond.selects RX12 yX12_dugCells yX12_dugCells ∈ gW := gW_p (q := (yX12_dugCells, 59)) 117 (by decide +kernel)
theorem mC_X12_dugCells : Cond.code yX12_dugCells cX12_dugCells 3 (some .int) ∈ gW := gW_t 2015 (by decide +kernel) rfl
theorem ok_X12_dugCells : okD yX12_dugCells 0 := ⟨by decide +kernel, by decide +kernel, by decide +kernel⟩
theorem dX12_count_105 : decode cX12_count 105 = .ok (.ireturn, 1) := by decide +kernel
theorem dX12_count_106 : decode cX12_count 106 = .ok (.aload_n 0, 1) := by decide +kernel
theorem dX12_count_107 : decode cX12_count 107 = .ok (.getfield 13, 3) := by decide +kernel
theorem dX12_count_110 : decode cX12_count 110 = .ok (.iconst 3, 1) := by decide +kernel
theorem dX12_count_111 : decode cX12_count 111 = .ok (.iaload, 1) := by decide +kernel
theorem dX12_count_112 : decode cX12_count 112 = .ok (.ireturn, 1) := by decide +kernel
theorem dX12_count_113 : decode cX12_count 113 = .ok (.aload_n 0, 1) := by decide +kernel
theorem dX12_count_114 : decode cX12_count 114 = .ok (.getfield 13, 3) := by decide +kernel
theorem dX12_count_117 : decode cX12_count 117 = .ok (.iconst 4, 1) := by decide +kernel
theorem dX12_count_118 : decode cX12_count 118 = .ok (.iaload, 1) := by decide +kernel
theorem dX12_count_119 : decode cX12_count 119 = .ok (.ireturn, 1) := by decide +kernel
theorem dX12_count_120 : decode cX12_count 120 = .ok (.aload_n 0, 1) := by decide +kernel
theorem dX12_count_121 : decode cX12_count 121 = .ok (.getfield 13, 3) := by decide +kernel
theorem dX12_count_124 : decode cX12_count 124 = .ok (.iconst 5, 1) := by decide +kernel
theorem dX12_count_125 : decode cX12_count 125 = .ok (.iaload, 1) := by decide +kernel
theorem dX12_count_126 : decode cX12_count 126 = .ok (.ireturn, 1) := by decide +kernel
theorem dX12_count_127 : decode cX12_count 127 = .ok (.aload_n 0, 1) := by decide +kernel
theorem dX12_count_128 : decode cX12_count 128 = .ok (.getfield 166, 3) := by decide +kernel
theorem dX12_count_131 : decode cX12_count 131 = .ok (.ireturn, 1) := by decide +kernel
theorem dX12_count_132 : decode cX12_count 132 = .ok (.aload_n 0, 1) := by decide +kernel
theorem dX12_count_133 : decode cX12_count 133 = .ok (.getfield 247, 3) := by decide +kernel
theorem dX12_count_136 : decode cX12_count 136 = .ok (.ireturn, 1) := by decide +kernel
theorem dX12_count_137 : decode cX12_count 137 = .ok (.aload_n 0, 1) := by decide +kernel
theorem dX12_count_138 : decode cX12_count 138 = .ok (.getfield 7, 3) := by decide +kernel
theorem dX12_count_141 : decode cX12_count 141 = .ok (.iconst 1, 1) := by decide +kernel
theorem dX12_count_142 : decode cX12_count 142 = .ok (.iaload, 1) := by decide +kernel
theorem dX12_count_143 : decode cX12_count 143 = .ok (.ireturn, 1) := by decide +kernel
theorem dX12_count_144 : decode cX12_count 144 = .ok (.aload_n 0, 1) := by decide +kernel
theorem dX12_count_145 : decode cX12_count 145 = .ok (.getfield 7, 3) := by decide +kernel
theorem dX12_count_148 : decode cX12_count 148 = .ok (.iconst 2, 1) := by decide +kernel
theorem dX12_count_149 : decode cX12_count 149 = .ok (.iaload, 1) := by decide +kernel
theorem dX12_count_150 : decode cX12_count 150 = .ok (.ireturn, 1) := by decide +kernel
theorem dX12_count_151 : decode cX12_count 151 = .ok (.aload_n 0, 1) := by decide +kernel
theorem dX12_count_152 : decode cX12_count 152 = .ok (.getfield 7, 3) := by decide +kernel
theorem dX12_count_155 : decode cX12_count 155 = .ok (.iconst 3, 1) := by decide +kernel
theorem dX12_count_156 : decode cX12_count 156 = .ok (.iaload, 1) := by decide +kernel
theorem dX12_count_157 : decode cX12_count 157 = .ok (.ireturn, 1) := by decide +kernel
theorem dX12_count_158 : decode cX12_count 158 = .ok (.aload_n 0, 1) := by decide +kernel
theorem dX12_count_159 : decode cX12_count 159 = .ok (.getfield 7, 3) := by decide +kernel
theorem dX12_count_162 : decode cX12_count 162 = .ok (.iconst 5, 1) := by decide +kernel
theorem dX12_count_163 : decode cX12_count 163 = .ok (.iaload, 1) := by decide +kernel
theorem dX12_count_164 : decode cX12_count 164 = .ok (.ireturn, 1) := by decide +kernel
theorem dX12_count_165 : decode cX12_count 165 = .ok (.aload_n 0, 1) := by decide +kernel
theorem dX12_count_166 : decode cX12_count 166 = .ok (.getfield 7, 3) := by decide +kernel
theorem dX12_count_169 : decode cX12_count 169 = .ok (.bipush 6, 2) := by decide +kernel
theorem dX12_count_171 : decode cX12_count 171 = .ok (.iaload, 1) := by decide +kernel
theorem dX12_count_172 : decode cX12_count 172 = .ok (.ireturn, 1) := by decide +kernel
theorem dX12_count_173 : decode cX12_count 173 = .ok (.aload_n 0, 1) := by decide +kernel
theorem dX12_count_174 : decode cX12_count 174 = .ok (.getfield 13, 3) := by decide +kernel
theorem dX12_count_177 : decode cX12_count 177 = .ok (.bipush 6, 2) := by decide +kernel
theorem dX12_count_179 : decode cX12_count 179 = .ok (.iaload, 1) := by decide +kernel
theorem dX12_count_180 : decode cX12_count 180 = .ok (.ireturn, 1) := by decide +kernel
theorem dX12_count_181 : decode cX12_count 181 = .ok (.iload_n 1, 1) := by decide +kernel
theorem dX12_count_182 : decode cX12_count 182 = .ok (.i2l, 1) := by decide +kernel
theorem dX12_count_183 : decode cX12_count 183 = .ok (.ldc2_w 611, 3) := by decide +kernel
theorem ct_RX12_611 : Cond.constantLong RX12 611 15 ∈ gW := gW_t 2016 (by decide +kernel) rfl
theorem dX12_count_186 : decode cX12_count 186 = .ok (.ldc2_w 613, 3) := by decide +kernel
theorem ct_RX12_613 : Cond.constantLong RX12 613 17 ∈ gW := gW_t 2017 (by decide +kernel) rfl
theorem dX12_count_189 : decode cX12_count 189 = .ok (.invokestatic 180, 3) := by decide +kernel
theorem dX12_count_192 : decode cX12_count 192 = .ok (.ifCond .eq 18, 3) := by decide +kernel
theorem dX12_count_210 : decode cX12_count 210 = .ok (.iconst (-1), 1) := by decide +kernel
theorem dX12_count_211 : decode cX12_count 211 = .ok (.ireturn, 1) := by decide +kernel
theorem dX12_count_195 : decode cX12_count 195 = .ok (.aload_n 0, 1) := by decide +kernel
theorem dX12_count_196 : decode cX12_count 196 = .ok (.getfield 13, 3) := by decide +kernel
theorem dX12_count_199 : decode cX12_count 199 = .ok (.bipush 7, 2) := by decide +kernel
theorem dX12_count_201 : decode cX12_count 201 = .ok (.iload_n 1, 1) := by decide +kernel
theorem dX12_count_202 : decode cX12_count 202 = .ok (.iadd, 1) := by decide +kernel
theorem dX12_count_203 : decode cX12_count 203 = .ok (.bipush 15, 2) := by decide +kernel
theorem dX12_count_205 : decode cX12_count 205 = .ok (.isub, 1) := by decide +kernel
theorem dX12_count_206 : decode cX12_count 206 = .ok (.iaload, 1) := by decide +kernel
theorem dX12_count_207 : decode cX12_count 207 = .ok (.goto 4, 3) := by decide +kernel
def yX12_status : MethodName := ⟨RX12, "status", "()I"⟩
abbrev cX12_status : ByteArray := prog_14_method_138_code
theorem dX12_status_0 : decode cX12_status 0 = .ok (.aload_n 0, 1) := by decide +kernel
theorem dX12_status_1 : decode cX12_status 1 = .ok (.iconst 0, 1) := by decide +kernel
theorem dX12_status_2 : decode cX12_status 2 = .ok (.putfield 156, 3) := by decide +kernel
theorem dX12_status_5 : decode cX12_status 5 = .ok (.aload_n 0, 1) := by decide +kernel
theorem dX12_status_6 : decode cX12_status 6 = .ok (.getfield 163, 3) := by decide +kernel
theorem dX12_status_9 : decode cX12_status 9 = .ok (.ireturn, 1) := by decide +kernel
def yX12_stopped : MethodName := ⟨RX12, "stopped", "()I"⟩
abbrev cX12_stopped : ByteArray := prog_14_method_132_code
theorem dX12_stopped_0 : decode cX12_stopped 0 = .ok (.aload_n 0, 1) := by decide +kernel
theorem dX12_stopped_1 : decode cX12_stopped 1 = .ok (.iconst 0, 1) := by decide +kernel
theorem dX12_stopped_2 : decode cX12_stopped 2 = .ok (.putfield 156, 3) := by decide +kernel
theorem dX12_stopped_5 : decode cX12_stopped 5 = .ok (.aload_n 0, 1) := by decide +kernel
theorem dX12_stopped_6 : decode cX12_stopped 6 = .ok (.getfield 147, 3) := by decide +kernel
theorem fl_RX12_147 : Cond.fieldLink RX12 147 RX12 "stopped" "I" ∈ gW := gW_t 1326 (by decide +kernel) rfl
theorem dX12_stopped_9 : decode cX12_stopped 9 = .ok (.ireturn, 1) := by decide +kernel
