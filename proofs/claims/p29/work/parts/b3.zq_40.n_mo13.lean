def yX12_law : MethodName := ⟨RX12, "law", "()I"⟩
abbrev cX12_law : ByteArray := prog_14_method_66_code
theorem dX12_law_0 : decode cX12_law 0 = .ok (.aload_n 0, 1) := by decide +kernel
theorem dX12_law_1 : decode cX12_law 1 = .ok (.iconst 0, 1) := by decide +kernel
theorem dX12_law_2 : decode cX12_law 2 = .ok (.putfield 156, 3) := by decide +kernel
theorem dX12_law_5 : decode cX12_law 5 = .ok (.aload_n 0, 1) := by decide +kernel
theorem dX12_law_6 : decode cX12_law 6 = .ok (.getfield 13, 3) := by decide +kernel
theorem dX12_law_9 : decode cX12_law 9 = .ok (.iconst 5, 1) := by decide +kernel
theorem dX12_law_10 : decode cX12_law 10 = .ok (.iaload, 1) := by decide +kernel
theorem dX12_law_11 : decode cX12_law 11 = .ok (.bipush 6, 2) := by decide +kernel
theorem dX12_law_13 : decode cX12_law 13 = .ok (.if_icmp .ne 15, 3) := by decide +kernel
theorem dX12_law_28 : decode cX12_law 28 = .ok (.aload_n 0, 1) := by decide +kernel
theorem dX12_law_29 : decode cX12_law 29 = .ok (.iconst 0, 1) := by decide +kernel
theorem dX12_law_30 : decode cX12_law 30 = .ok (.invokevirtual 396, 3) := by decide +kernel
theorem lk_RX12_396 : Cond.methodLink RX12 396 yX12_beginText ∈ gW := gW_u tb_7 199 (by rfl) (by decide +kernel)
theorem mI_X12_beginText : Cond.instanceMethod yX12_beginText ∈ gW := gW_u tb_7 201 (by rfl) (by decide +kernel)
theorem mS_X12_beginText : Cond.selects RX12 yX12_beginText yX12_beginText ∈ gW := gW_p (q := (yX12_beginText, 59)) 60 (by decide +kernel)
theorem mC_X12_beginText : Cond.code yX12_beginText cX12_beginText 2 none ∈ gW := gW_u tb_7 202 (by rfl) (by decide +kernel)
theorem ok_X12_beginText : okD yX12_beginText 1 := ⟨by decide +kernel, by decide +kernel, by decide +kernel⟩
theorem dX12_law_33 : decode cX12_law 33 = .ok (.aload_n 0, 1) := by decide +kernel
theorem dX12_law_34 : decode cX12_law 34 = .ok (.invokevirtual 399, 3) := by decide +kernel
theorem lk_RX12_399 : Cond.methodLink RX12 399 yX12_readLaw ∈ gW := gW_u tb_7 221 (by rfl) (by decide +kernel)
theorem mI_X12_readLaw : Cond.instanceMethod yX12_readLaw ∈ gW := gW_u tb_7 223 (by rfl) (by decide +kernel)
theorem mS_X12_readLaw : Cond.selects RX12 yX12_readLaw yX12_readLaw ∈ gW := gW_p (q := (yX12_readLaw, 59)) 63 (by decide +kernel)
theorem mC_X12_readLaw : Cond.code yX12_readLaw cX12_readLaw 4 none ∈ gW := gW_u tb_7 224 (by rfl) (by decide +kernel)
theorem ok_X12_readLaw : okD yX12_readLaw 0 := ⟨by decide +kernel, by decide +kernel, by decide +kernel⟩
theorem dX12_law_37 : decode cX12_law 37 = .ok (.aload_n 0, 1) := by decide +kernel
theorem dX12_law_38 : decode cX12_law 38 = .ok (.getfield 259, 3) := by decide +kernel
theorem dX12_law_41 : decode cX12_law 41 = .ok (.ifCond .ne 23, 3) := by decide +kernel
theorem dX12_law_44 : decode cX12_law 44 = .ok (.aload_n 0, 1) := by decide +kernel
theorem dX12_law_45 : decode cX12_law 45 = .ok (.bipush 59, 2) := by decide +kernel
theorem dX12_law_47 : decode cX12_law 47 = .ok (.invokevirtual 328, 3) := by decide +kernel
theorem dX12_law_50 : decode cX12_law 50 = .ok (.ifCond .eq 14, 3) := by decide +kernel
theorem dX12_law_53 : decode cX12_law 53 = .ok (.aload_n 0, 1) := by decide +kernel
theorem dX12_law_54 : decode cX12_law 54 = .ok (.invokevirtual 263, 3) := by decide +kernel
theorem dX12_law_57 : decode cX12_law 57 = .ok (.aload_n 0, 1) := by decide +kernel
theorem dX12_law_58 : decode cX12_law 58 = .ok (.invokevirtual 399, 3) := by decide +kernel
theorem dX12_law_61 : decode cX12_law 61 = .ok (.goto (-24), 3) := by decide +kernel
theorem dX12_law_64 : decode cX12_law 64 = .ok (.aload_n 0, 1) := by decide +kernel
theorem dX12_law_65 : decode cX12_law 65 = .ok (.invokevirtual 402, 3) := by decide +kernel
theorem lk_RX12_402 : Cond.methodLink RX12 402 yX12_endText ∈ gW := gW_u tb_8 69 (by rfl) (by decide +kernel)
theorem mI_X12_endText : Cond.instanceMethod yX12_endText ∈ gW := gW_u tb_8 71 (by rfl) (by decide +kernel)
theorem mS_X12_endText : Cond.selects RX12 yX12_endText yX12_endText ∈ gW := gW_p (q := (yX12_endText, 59)) 82 (by decide +kernel)
theorem mC_X12_endText : Cond.code yX12_endText cX12_endText 1 none ∈ gW := gW_u tb_8 72 (by rfl) (by decide +kernel)
theorem ok_X12_endText : okD yX12_endText 0 := ⟨by decide +kernel, by decide +kernel, by decide +kernel⟩
theorem dX12_law_68 : decode cX12_law 68 = .ok (.aload_n 0, 1) := by decide +kernel
theorem dX12_law_69 : decode cX12_law 69 = .ok (.getfield 259, 3) := by decide +kernel
theorem dX12_law_72 : decode cX12_law 72 = .ok (.ifCond .eq 10, 3) := by decide +kernel
theorem dX12_law_82 : decode cX12_law 82 = .ok (.sipush 250, 3) := by decide +kernel
theorem dX12_law_85 : decode cX12_law 85 = .ok (.sipush 900, 3) := by decide +kernel
theorem dX12_law_88 : decode cX12_law 88 = .ok (.aload_n 0, 1) := by decide +kernel
theorem dX12_law_89 : decode cX12_law 89 = .ok (.getfield 13, 3) := by decide +kernel
theorem dX12_law_92 : decode cX12_law 92 = .ok (.iconst 5, 1) := by decide +kernel
theorem dX12_law_93 : decode cX12_law 93 = .ok (.iaload, 1) := by decide +kernel
theorem dX12_law_94 : decode cX12_law 94 = .ok (.imul, 1) := by decide +kernel
theorem dX12_law_95 : decode cX12_law 95 = .ok (.iadd, 1) := by decide +kernel
theorem dX12_law_96 : decode cX12_law 96 = .ok (.istore_n 1, 1) := by decide +kernel
theorem dX12_law_97 : decode cX12_law 97 = .ok (.aload_n 0, 1) := by decide +kernel
theorem dX12_law_98 : decode cX12_law 98 = .ok (.getfield 13, 3) := by decide +kernel
theorem dX12_law_101 : decode cX12_law 101 = .ok (.iload_n 1, 1) := by decide +kernel
theorem dX12_law_102 : decode cX12_law 102 = .ok (.iconst 1, 1) := by decide +kernel
theorem dX12_law_103 : decode cX12_law 103 = .ok (.iadd, 1) := by decide +kernel
theorem dX12_law_104 : decode cX12_law 104 = .ok (.aload_n 0, 1) := by decide +kernel
theorem dX12_law_105 : decode cX12_law 105 = .ok (.getfield 388, 3) := by decide +kernel
theorem dX12_law_108 : decode cX12_law 108 = .ok (.iastore, 1) := by decide +kernel
theorem dX12_law_109 : decode cX12_law 109 = .ok (.iconst 0, 1) := by decide +kernel
theorem dX12_law_110 : decode cX12_law 110 = .ok (.istore_n 2, 1) := by decide +kernel
theorem dX12_law_111 : decode cX12_law 111 = .ok (.iload_n 2, 1) := by decide +kernel
theorem dX12_law_112 : decode cX12_law 112 = .ok (.bipush 8, 2) := by decide +kernel
theorem dX12_law_114 : decode cX12_law 114 = .ok (.aload_n 0, 1) := by decide +kernel
theorem dX12_law_115 : decode cX12_law 115 = .ok (.getfield 388, 3) := by decide +kernel
theorem dX12_law_118 : decode cX12_law 118 = .ok (.imul, 1) := by decide +kernel
theorem dX12_law_119 : decode cX12_law 119 = .ok (.if_icmp .ge 25, 3) := by decide +kernel
theorem dX12_law_122 : decode cX12_law 122 = .ok (.aload_n 0, 1) := by decide +kernel
theorem dX12_law_123 : decode cX12_law 123 = .ok (.getfield 13, 3) := by decide +kernel
theorem dX12_law_126 : decode cX12_law 126 = .ok (.iload_n 1, 1) := by decide +kernel
theorem dX12_law_127 : decode cX12_law 127 = .ok (.iconst 2, 1) := by decide +kernel
theorem dX12_law_128 : decode cX12_law 128 = .ok (.iadd, 1) := by decide +kernel
theorem dX12_law_129 : decode cX12_law 129 = .ok (.iload_n 2, 1) := by decide +kernel
theorem dX12_law_130 : decode cX12_law 130 = .ok (.iadd, 1) := by decide +kernel
theorem dX12_law_131 : decode cX12_law 131 = .ok (.aload_n 0, 1) := by decide +kernel
theorem dX12_law_132 : decode cX12_law 132 = .ok (.getfield 42, 3) := by decide +kernel
theorem dX12_law_135 : decode cX12_law 135 = .ok (.iload_n 2, 1) := by decide +kernel
theorem dX12_law_136 : decode cX12_law 136 = .ok (.iaload, 1) := by decide +kernel
theorem dX12_law_137 : decode cX12_law 137 = .ok (.iastore, 1) := by decide +kernel
theorem dX12_law_138 : decode cX12_law 138 = .ok (.iinc 2 1, 3) := by decide +kernel
theorem dX12_law_141 : decode cX12_law 141 = .ok (.goto (-30), 3) := by decide +kernel
theorem dX12_law_144 : decode cX12_law 144 = .ok (.iconst 0, 1) := by decide +kernel
theorem dX12_law_145 : decode cX12_law 145 = .ok (.istore_n 2, 1) := by decide +kernel
theorem dX12_law_146 : decode cX12_law 146 = .ok (.iload_n 2, 1) := by decide +kernel
theorem dX12_law_147 : decode cX12_law 147 = .ok (.aload_n 0, 1) := by decide +kernel
theorem dX12_law_148 : decode cX12_law 148 = .ok (.getfield 296, 3) := by decide +kernel
theorem dX12_law_151 : decode cX12_law 151 = .ok (.if_icmp .ge 49, 3) := by decide +kernel
theorem dX12_law_154 : decode cX12_law 154 = .ok (.aload_n 0, 1) := by decide +kernel
theorem dX12_law_155 : decode cX12_law 155 = .ok (.getfield 13, 3) := by decide +kernel
theorem dX12_law_158 : decode cX12_law 158 = .ok (.iload_n 1, 1) := by decide +kernel
theorem dX12_law_159 : decode cX12_law 159 = .ok (.bipush 98, 2) := by decide +kernel
theorem dX12_law_161 : decode cX12_law 161 = .ok (.iadd, 1) := by decide +kernel
theorem dX12_law_162 : decode cX12_law 162 = .ok (.iconst 2, 1) := by decide +kernel
theorem dX12_law_163 : decode cX12_law 163 = .ok (.iload_n 2, 1) := by decide +kernel
theorem dX12_law_164 : decode cX12_law 164 = .ok (.imul, 1) := by decide +kernel
theorem dX12_law_165 : decode cX12_law 165 = .ok (.iadd, 1) := by decide +kernel
theorem dX12_law_166 : decode cX12_law 166 = .ok (.aload_n 0, 1) := by decide +kernel
theorem dX12_law_167 : decode cX12_law 167 = .ok (.getfield 45, 3) := by decide +kernel
theorem dX12_law_170 : decode cX12_law 170 = .ok (.iload_n 2, 1) := by decide +kernel
theorem dX12_law_171 : decode cX12_law 171 = .ok (.iaload, 1) := by decide +kernel
theorem dX12_law_172 : decode cX12_law 172 = .ok (.iastore, 1) := by decide +kernel
theorem dX12_law_173 : decode cX12_law 173 = .ok (.aload_n 0, 1) := by decide +kernel
theorem dX12_law_174 : decode cX12_law 174 = .ok (.getfield 13, 3) := by decide +kernel
theorem dX12_law_177 : decode cX12_law 177 = .ok (.iload_n 1, 1) := by decide +kernel
theorem dX12_law_178 : decode cX12_law 178 = .ok (.bipush 98, 2) := by decide +kernel
theorem dX12_law_180 : decode cX12_law 180 = .ok (.iadd, 1) := by decide +kernel
theorem dX12_law_181 : decode cX12_law 181 = .ok (.iconst 2, 1) := by decide +kernel
theorem dX12_law_182 : decode cX12_law 182 = .ok (.iload_n 2, 1) := by decide +kernel
theorem dX12_law_183 : decode cX12_law 183 = .ok (.imul, 1) := by decide +kernel
theorem dX12_law_184 : decode cX12_law 184 = .ok (.iadd, 1) := by decide +kernel
theorem dX12_law_185 : decode cX12_law 185 = .ok (.iconst 1, 1) := by decide +kernel
theorem dX12_law_186 : decode cX12_law 186 = .ok (.iadd, 1) := by decide +kernel
theorem dX12_law_187 : decode cX12_law 187 = .ok (.aload_n 0, 1) := by decide +kernel
theorem dX12_law_188 : decode cX12_law 188 = .ok (.getfield 48, 3) := by decide +kernel
theorem dX12_law_191 : decode cX12_law 191 = .ok (.iload_n 2, 1) := by decide +kernel
theorem dX12_law_192 : decode cX12_law 192 = .ok (.iaload, 1) := by decide +kernel
theorem dX12_law_193 : decode cX12_law 193 = .ok (.iastore, 1) := by decide +kernel
theorem dX12_law_194 : decode cX12_law 194 = .ok (.iinc 2 1, 3) := by decide +kernel
theorem dX12_law_197 : decode cX12_law 197 = .ok (.goto (-51), 3) := by decide +kernel
theorem dX12_law_200 : decode cX12_law 200 = .ok (.aload_n 0, 1) := by decide +kernel
theorem dX12_law_201 : decode cX12_law 201 = .ok (.getfield 13, 3) := by decide +kernel
theorem dX12_law_204 : decode cX12_law 204 = .ok (.iconst 5, 1) := by decide +kernel
theorem dX12_law_205 : decode cX12_law 205 = .ok (.dup2, 1) := by decide +kernel
theorem dX12_law_206 : decode cX12_law 206 = .ok (.iaload, 1) := by decide +kernel
theorem dX12_law_207 : decode cX12_law 207 = .ok (.iconst 1, 1) := by decide +kernel
theorem dX12_law_208 : decode cX12_law 208 = .ok (.iadd, 1) := by decide +kernel
theorem dX12_law_209 : decode cX12_law 209 = .ok (.iastore, 1) := by decide +kernel
theorem dX12_law_210 : decode cX12_law 210 = .ok (.aload_n 0, 1) := by decide +kernel
theorem dX12_law_211 : decode cX12_law 211 = .ok (.aload_n 0, 1) := by decide +kernel
theorem dX12_law_212 : decode cX12_law 212 = .ok (.getfield 13, 3) := by decide +kernel
theorem dX12_law_215 : decode cX12_law 215 = .ok (.iconst 5, 1) := by decide +kernel
theorem dX12_law_216 : decode cX12_law 216 = .ok (.iaload, 1) := by decide +kernel
theorem dX12_law_217 : decode cX12_law 217 = .ok (.iconst 1, 1) := by decide +kernel
theorem dX12_law_218 : decode cX12_law 218 = .ok (.isub, 1) := by decide +kernel
theorem dX12_law_219 : decode cX12_law 219 = .ok (.invokevirtual 169, 3) := by decide +kernel
theorem dX12_law_222 : decode cX12_law 222 = .ok (.ireturn, 1) := by decide +kernel
theorem dX12_law_75 : decode cX12_law 75 = .ok (.aload_n 0, 1) := by decide +kernel
theorem dX12_law_76 : decode cX12_law 76 = .ok (.bipush (-6), 2) := by decide +kernel
theorem dX12_law_78 : decode cX12_law 78 = .ok (.invokevirtual 169, 3) := by decide +kernel
theorem dX12_law_81 : decode cX12_law 81 = .ok (.ireturn, 1) := by decide +kernel
theorem dX12_law_16 : decode cX12_law 16 = .ok (.aload_n 0, 1) := by decide +kernel
theorem dX12_law_17 : decode cX12_law 17 = .ok (.iconst 0, 1) := by decide +kernel
theorem dX12_law_18 : decode cX12_law 18 = .ok (.putfield 247, 3) := by decide +kernel
theorem dX12_law_21 : decode cX12_law 21 = .ok (.aload_n 0, 1) := by decide +kernel
theorem dX12_law_22 : decode cX12_law 22 = .ok (.bipush (-5), 2) := by decide +kernel
theorem dX12_law_24 : decode cX12_law 24 = .ok (.invokevirtual 169, 3) := by decide +kernel
theorem dX12_law_27 : decode cX12_law 27 = .ok (.ireturn, 1) := by decide +kernel
def yX12_sumOf : MethodName := ⟨RX12, "sumOf", "(I)I"⟩
abbrev cX12_sumOf : ByteArray := prog_14_method_127_code
theorem dX12_sumOf_0 : decode cX12_sumOf 0 = .ok (.aload_n 0, 1) := by decide +kernel
theorem dX12_sumOf_1 : decode cX12_sumOf 1 = .ok (.getfield 567, 3) := by decide +kernel
theorem fl_RX12_567 : Cond.fieldLink RX12 567 RX12 "off" "Z" ∈ gW := gW_u tb_6 127 (by rfl) (by decide +kernel)
theorem dX12_sumOf_4 : decode cX12_sumOf 4 = .ok (.ifCond .ne 20, 3) := by decide +kernel
theorem dX12_sumOf_24 : decode cX12_sumOf 24 = .ok (.iconst (-1), 1) := by decide +kernel
theorem dX12_sumOf_25 : decode cX12_sumOf 25 = .ok (.ireturn, 1) := by decide +kernel
theorem dX12_sumOf_7 : decode cX12_sumOf 7 = .ok (.aload_n 0, 1) := by decide +kernel
theorem dX12_sumOf_8 : decode cX12_sumOf 8 = .ok (.getfield 144, 3) := by decide +kernel
theorem dX12_sumOf_11 : decode cX12_sumOf 11 = .ok (.iload_n 1, 1) := by decide +kernel
theorem dX12_sumOf_12 : decode cX12_sumOf 12 = .ok (.iaload, 1) := by decide +kernel
theorem dX12_sumOf_13 : decode cX12_sumOf 13 = .ok (.aload_n 0, 1) := by decide +kernel
theorem dX12_sumOf_14 : decode cX12_sumOf 14 = .ok (.getfield 144, 3) := by decide +kernel
theorem dX12_sumOf_17 : decode cX12_sumOf 17 = .ok (.iload_n 1, 1) := by decide +kernel
theorem dX12_sumOf_18 : decode cX12_sumOf 18 = .ok (.iconst 1, 1) := by decide +kernel
theorem dX12_sumOf_19 : decode cX12_sumOf 19 = .ok (.iadd, 1) := by decide +kernel
theorem dX12_sumOf_20 : decode cX12_sumOf 20 = .ok (.iaload, 1) := by decide +kernel
theorem dX12_sumOf_21 : decode cX12_sumOf 21 = .ok (.if_icmp .ne 5, 3) := by decide +kernel
theorem dX12_sumOf_26 : decode cX12_sumOf 26 = .ok (.aload_n 0, 1) := by decide +kernel
theorem dX12_sumOf_27 : decode cX12_sumOf 27 = .ok (.iconst 1, 1) := by decide +kernel
theorem dX12_sumOf_28 : decode cX12_sumOf 28 = .ok (.putfield 334, 3) := by decide +kernel
theorem dX12_sumOf_31 : decode cX12_sumOf 31 = .ok (.aload_n 0, 1) := by decide +kernel
theorem dX12_sumOf_32 : decode cX12_sumOf 32 = .ok (.aload_n 0, 1) := by decide +kernel
theorem dX12_sumOf_33 : decode cX12_sumOf 33 = .ok (.getfield 144, 3) := by decide +kernel
theorem dX12_sumOf_36 : decode cX12_sumOf 36 = .ok (.iload_n 1, 1) := by decide +kernel
theorem dX12_sumOf_37 : decode cX12_sumOf 37 = .ok (.iaload, 1) := by decide +kernel
theorem dX12_sumOf_38 : decode cX12_sumOf 38 = .ok (.aload_n 0, 1) := by decide +kernel
theorem dX12_sumOf_39 : decode cX12_sumOf 39 = .ok (.getfield 144, 3) := by decide +kernel
theorem dX12_sumOf_42 : decode cX12_sumOf 42 = .ok (.iload_n 1, 1) := by decide +kernel
theorem dX12_sumOf_43 : decode cX12_sumOf 43 = .ok (.iconst 1, 1) := by decide +kernel
theorem dX12_sumOf_44 : decode cX12_sumOf 44 = .ok (.iadd, 1) := by decide +kernel
theorem dX12_sumOf_45 : decode cX12_sumOf 45 = .ok (.iaload, 1) := by decide +kernel
theorem dX12_sumOf_46 : decode cX12_sumOf 46 = .ok (.invokevirtual 425, 3) := by decide +kernel
theorem dX12_sumOf_49 : decode cX12_sumOf 49 = .ok (.aload_n 0, 1) := by decide +kernel
theorem dX12_sumOf_50 : decode cX12_sumOf 50 = .ok (.iconst 0, 1) := by decide +kernel
theorem dX12_sumOf_51 : decode cX12_sumOf 51 = .ok (.putfield 334, 3) := by decide +kernel
theorem dX12_sumOf_54 : decode cX12_sumOf 54 = .ok (.aload_n 0, 1) := by decide +kernel
theorem dX12_sumOf_55 : decode cX12_sumOf 55 = .ok (.aload_n 0, 1) := by decide +kernel
theorem dX12_sumOf_56 : decode cX12_sumOf 56 = .ok (.getfield 408, 3) := by decide +kernel
theorem dX12_sumOf_59 : decode cX12_sumOf 59 = .ok (.putfield 567, 3) := by decide +kernel
theorem dX12_sumOf_62 : decode cX12_sumOf 62 = .ok (.aload_n 0, 1) := by decide +kernel
theorem dX12_sumOf_63 : decode cX12_sumOf 63 = .ok (.getfield 422, 3) := by decide +kernel
theorem dX12_sumOf_66 : decode cX12_sumOf 66 = .ok (.l2i, 1) := by decide +kernel
theorem dX12_sumOf_67 : decode cX12_sumOf 67 = .ok (.ireturn, 1) := by decide +kernel
def yX12_readOrder : MethodName := ⟨RX12, "readOrder", "()V"⟩
abbrev cX12_readOrder : ByteArray := prog_14_method_126_code
theorem dX12_readOrder_0 : decode cX12_readOrder 0 = .ok (.iconst (-1), 1) := by decide +kernel
theorem dX12_readOrder_1 : decode cX12_readOrder 1 = .ok (.istore_n 1, 1) := by decide +kernel
theorem dX12_readOrder_2 : decode cX12_readOrder 2 = .ok (.iconst 0, 1) := by decide +kernel
theorem dX12_readOrder_3 : decode cX12_readOrder 3 = .ok (.istore_n 2, 1) := by decide +kernel
theorem dX12_readOrder_4 : decode cX12_readOrder 4 = .ok (.iload_n 2, 1) := by decide +kernel
theorem dX12_readOrder_5 : decode cX12_readOrder 5 = .ok (.iconst 4, 1) := by decide +kernel
theorem dX12_readOrder_6 : decode cX12_readOrder 6 = .ok (.if_icmp .ge 28, 3) := by decide +kernel
theorem dX12_readOrder_9 : decode cX12_readOrder 9 = .ok (.aload_n 0, 1) := by decide +kernel
theorem dX12_readOrder_10 : decode cX12_readOrder 10 = .ok (.aload_n 0, 1) := by decide +kernel
theorem dX12_readOrder_11 : decode cX12_readOrder 11 = .ok (.getfield 141, 3) := by decide +kernel
theorem fl_RX12_141 : Cond.fieldLink RX12 141 RX12 "acts" "[J" ∈ gW := gW_u tb_6 122 (by rfl) (by decide +kernel)
theorem dX12_readOrder_14 : decode cX12_readOrder 14 = .ok (.iload_n 2, 1) := by decide +kernel
theorem dX12_readOrder_15 : decode cX12_readOrder 15 = .ok (.laload, 1) := by decide +kernel
theorem dX12_readOrder_16 : decode cX12_readOrder 16 = .ok (.invokevirtual 315, 3) := by decide +kernel
theorem dX12_readOrder_19 : decode cX12_readOrder 19 = .ok (.ifCond .eq 7, 3) := by decide +kernel
theorem dX12_readOrder_26 : decode cX12_readOrder 26 = .ok (.iload_n 1, 1) := by decide +kernel
theorem dX12_readOrder_27 : decode cX12_readOrder 27 = .ok (.istore_n 1, 1) := by decide +kernel
theorem dX12_readOrder_28 : decode cX12_readOrder 28 = .ok (.iinc 2 1, 3) := by decide +kernel
theorem dX12_readOrder_31 : decode cX12_readOrder 31 = .ok (.goto (-27), 3) := by decide +kernel
theorem dX12_readOrder_22 : decode cX12_readOrder 22 = .ok (.iload_n 2, 1) := by decide +kernel
theorem dX12_readOrder_23 : decode cX12_readOrder 23 = .ok (.goto 4, 3) := by decide +kernel
theorem dX12_readOrder_34 : decode cX12_readOrder 34 = .ok (.aload_n 0, 1) := by decide +kernel
theorem dX12_readOrder_35 : decode cX12_readOrder 35 = .ok (.iload_n 1, 1) := by decide +kernel
theorem dX12_readOrder_36 : decode cX12_readOrder 36 = .ok (.iconst (-1), 1) := by decide +kernel
theorem dX12_readOrder_37 : decode cX12_readOrder 37 = .ok (.if_icmp .eq 16, 3) := by decide +kernel
theorem dX12_readOrder_53 : decode cX12_readOrder 53 = .ok (.iconst 0, 1) := by decide +kernel
theorem dX12_readOrder_40 : decode cX12_readOrder 40 = .ok (.aload_n 0, 1) := by decide +kernel
theorem dX12_readOrder_41 : decode cX12_readOrder 41 = .ok (.getfield 388, 3) := by decide +kernel
theorem dX12_readOrder_44 : decode cX12_readOrder 44 = .ok (.bipush 12, 2) := by decide +kernel
theorem dX12_readOrder_46 : decode cX12_readOrder 46 = .ok (.if_icmp .ge 7, 3) := by decide +kernel
theorem dX12_readOrder_49 : decode cX12_readOrder 49 = .ok (.iconst 1, 1) := by decide +kernel
theorem dX12_readOrder_50 : decode cX12_readOrder 50 = .ok (.goto 4, 3) := by decide +kernel
theorem dX12_readOrder_54 : decode cX12_readOrder 54 = .ok (.invokevirtual 292, 3) := by decide +kernel
theorem dX12_readOrder_57 : decode cX12_readOrder 57 = .ok (.aload_n 0, 1) := by decide +kernel
theorem dX12_readOrder_58 : decode cX12_readOrder 58 = .ok (.getfield 259, 3) := by decide +kernel
theorem dX12_readOrder_61 : decode cX12_readOrder 61 = .ok (.ifCond .eq 4, 3) := by decide +kernel
theorem dX12_readOrder_65 : decode cX12_readOrder 65 = .ok (.bipush 8, 2) := by decide +kernel
theorem dX12_readOrder_67 : decode cX12_readOrder 67 = .ok (.aload_n 0, 1) := by decide +kernel
theorem dX12_readOrder_68 : decode cX12_readOrder 68 = .ok (.getfield 388, 3) := by decide +kernel
theorem dX12_readOrder_71 : decode cX12_readOrder 71 = .ok (.imul, 1) := by decide +kernel
theorem dX12_readOrder_72 : decode cX12_readOrder 72 = .ok (.istore_n 2, 1) := by decide +kernel
theorem dX12_readOrder_73 : decode cX12_readOrder 73 = .ok (.aload_n 0, 1) := by decide +kernel
theorem dX12_readOrder_74 : decode cX12_readOrder 74 = .ok (.dup, 1) := by decide +kernel
theorem dX12_readOrder_75 : decode cX12_readOrder 75 = .ok (.getfield 388, 3) := by decide +kernel
theorem dX12_readOrder_78 : decode cX12_readOrder 78 = .ok (.iconst 1, 1) := by decide +kernel
theorem dX12_readOrder_79 : decode cX12_readOrder 79 = .ok (.iadd, 1) := by decide +kernel
theorem dX12_readOrder_80 : decode cX12_readOrder 80 = .ok (.putfield 388, 3) := by decide +kernel
theorem dX12_readOrder_83 : decode cX12_readOrder 83 = .ok (.iconst 0, 1) := by decide +kernel
theorem dX12_readOrder_84 : decode cX12_readOrder 84 = .ok (.istore_n 3, 1) := by decide +kernel
theorem dX12_readOrder_85 : decode cX12_readOrder 85 = .ok (.iload_n 3, 1) := by decide +kernel
theorem dX12_readOrder_86 : decode cX12_readOrder 86 = .ok (.bipush 8, 2) := by decide +kernel
theorem dX12_readOrder_88 : decode cX12_readOrder 88 = .ok (.if_icmp .ge 18, 3) := by decide +kernel
theorem dX12_readOrder_91 : decode cX12_readOrder 91 = .ok (.aload_n 0, 1) := by decide +kernel
theorem dX12_readOrder_92 : decode cX12_readOrder 92 = .ok (.getfield 144, 3) := by decide +kernel
theorem dX12_readOrder_95 : decode cX12_readOrder 95 = .ok (.iload_n 2, 1) := by decide +kernel
theorem dX12_readOrder_96 : decode cX12_readOrder 96 = .ok (.iload_n 3, 1) := by decide +kernel
theorem dX12_readOrder_97 : decode cX12_readOrder 97 = .ok (.iadd, 1) := by decide +kernel
theorem dX12_readOrder_98 : decode cX12_readOrder 98 = .ok (.iconst 0, 1) := by decide +kernel
theorem dX12_readOrder_99 : decode cX12_readOrder 99 = .ok (.iastore, 1) := by decide +kernel
theorem dX12_readOrder_100 : decode cX12_readOrder 100 = .ok (.iinc 3 1, 3) := by decide +kernel
theorem dX12_readOrder_103 : decode cX12_readOrder 103 = .ok (.goto (-18), 3) := by decide +kernel
theorem dX12_readOrder_106 : decode cX12_readOrder 106 = .ok (.aload_n 0, 1) := by decide +kernel
theorem dX12_readOrder_107 : decode cX12_readOrder 107 = .ok (.getfield 144, 3) := by decide +kernel
theorem dX12_readOrder_110 : decode cX12_readOrder 110 = .ok (.iload_n 2, 1) := by decide +kernel
theorem dX12_readOrder_111 : decode cX12_readOrder 111 = .ok (.iload_n 1, 1) := by decide +kernel
theorem dX12_readOrder_112 : decode cX12_readOrder 112 = .ok (.iastore, 1) := by decide +kernel
theorem dX12_readOrder_113 : decode cX12_readOrder 113 = .ok (.aload_n 0, 1) := by decide +kernel
theorem dX12_readOrder_114 : decode cX12_readOrder 114 = .ok (.iload_n 2, 1) := by decide +kernel
theorem dX12_readOrder_115 : decode cX12_readOrder 115 = .ok (.iconst 1, 1) := by decide +kernel
theorem dX12_readOrder_116 : decode cX12_readOrder 116 = .ok (.iadd, 1) := by decide +kernel
theorem dX12_readOrder_117 : decode cX12_readOrder 117 = .ok (.invokevirtual 558, 3) := by decide +kernel
theorem lk_RX12_558 : Cond.methodLink RX12 558 yX12_readSum ∈ gW := gW_u tb_9 45 (by rfl) (by decide +kernel)
theorem mI_X12_readSum : Cond.instanceMethod yX12_readSum ∈ gW := gW_u tb_9 47 (by rfl) (by decide +kernel)
theorem mS_X12_readSum : Cond.selects RX12 yX12_readSum yX12_readSum ∈ gW := gW_p (q := (yX12_readSum, 59)) 111 (by decide +kernel)
theorem mC_X12_readSum : Cond.code yX12_readSum cX12_readSum 2 none ∈ gW := gW_u tb_9 48 (by rfl) (by decide +kernel)
theorem ok_X12_readSum : okD yX12_readSum 1 := ⟨by decide +kernel, by decide +kernel, by decide +kernel⟩
theorem dX12_readOrder_120 : decode cX12_readOrder 120 = .ok (.iload_n 1, 1) := by decide +kernel
theorem dX12_readOrder_121 : decode cX12_readOrder 121 = .ok (.ifCond .eq 8, 3) := by decide +kernel
theorem dX12_readOrder_129 : decode cX12_readOrder 129 = .ok (.aload_n 0, 1) := by decide +kernel
theorem dX12_readOrder_130 : decode cX12_readOrder 130 = .ok (.getfield 259, 3) := by decide +kernel
theorem dX12_readOrder_133 : decode cX12_readOrder 133 = .ok (.ifCond .ne 24, 3) := by decide +kernel
theorem dX12_readOrder_136 : decode cX12_readOrder 136 = .ok (.aload_n 0, 1) := by decide +kernel
theorem dX12_readOrder_137 : decode cX12_readOrder 137 = .ok (.aload_n 0, 1) := by decide +kernel
theorem dX12_readOrder_138 : decode cX12_readOrder 138 = .ok (.iload_n 1, 1) := by decide +kernel
theorem dX12_readOrder_139 : decode cX12_readOrder 139 = .ok (.ifCond .ne 9, 3) := by decide +kernel
theorem dX12_readOrder_142 : decode cX12_readOrder 142 = .ok (.ldc2_w 561, 3) := by decide +kernel
theorem ct_RX12_561 : Cond.constantLong RX12 561 89 ∈ gW := gW_u tb_9 49 (by rfl) (by decide +kernel)
theorem dX12_readOrder_145 : decode cX12_readOrder 145 = .ok (.goto 6, 3) := by decide +kernel
theorem dX12_readOrder_151 : decode cX12_readOrder 151 = .ok (.invokevirtual 315, 3) := by decide +kernel
theorem dX12_readOrder_154 : decode cX12_readOrder 154 = .ok (.invokevirtual 292, 3) := by decide +kernel
theorem dX12_readOrder_157 : decode cX12_readOrder 157 = .ok (.aload_n 0, 1) := by decide +kernel
theorem dX12_readOrder_158 : decode cX12_readOrder 158 = .ok (.iload_n 2, 1) := by decide +kernel
theorem dX12_readOrder_159 : decode cX12_readOrder 159 = .ok (.iconst 3, 1) := by decide +kernel
theorem dX12_readOrder_160 : decode cX12_readOrder 160 = .ok (.iadd, 1) := by decide +kernel
theorem dX12_readOrder_161 : decode cX12_readOrder 161 = .ok (.invokevirtual 558, 3) := by decide +kernel
theorem dX12_readOrder_124 : decode cX12_readOrder 124 = .ok (.iload_n 1, 1) := by decide +kernel
theorem dX12_readOrder_125 : decode cX12_readOrder 125 = .ok (.iconst 3, 1) := by decide +kernel
theorem dX12_readOrder_126 : decode cX12_readOrder 126 = .ok (.if_icmp .ne 38, 3) := by decide +kernel
theorem dX12_readOrder_148 : decode cX12_readOrder 148 = .ok (.ldc2_w 563, 3) := by decide +kernel
theorem ct_RX12_563 : Cond.constantLong RX12 563 302 ∈ gW := gW_u tb_9 50 (by rfl) (by decide +kernel)
theorem dX12_readOrder_164 : decode cX12_readOrder 164 = .ok (.aload_n 0, 1) := by decide +kernel
theorem dX12_readOrder_165 : decode cX12_readOrder 165 = .ok (.getfield 144, 3) := by decide +kernel
theorem dX12_readOrder_168 : decode cX12_readOrder 168 = .ok (.iload_n 2, 1) := by decide +kernel
theorem dX12_readOrder_169 : decode cX12_readOrder 169 = .ok (.bipush 7, 2) := by decide +kernel
theorem dX12_readOrder_171 : decode cX12_readOrder 171 = .ok (.iadd, 1) := by decide +kernel
theorem dX12_readOrder_172 : decode cX12_readOrder 172 = .ok (.iconst 1, 1) := by decide +kernel
theorem dX12_readOrder_173 : decode cX12_readOrder 173 = .ok (.iastore, 1) := by decide +kernel
theorem dX12_readOrder_174 : decode cX12_readOrder 174 = .ok (.aload_n 0, 1) := by decide +kernel
theorem dX12_readOrder_175 : decode cX12_readOrder 175 = .ok (.getfield 259, 3) := by decide +kernel
theorem dX12_readOrder_178 : decode cX12_readOrder 178 = .ok (.ifCond .ne 34, 3) := by decide +kernel
theorem dX12_readOrder_181 : decode cX12_readOrder 181 = .ok (.aload_n 0, 1) := by decide +kernel
theorem dX12_readOrder_182 : decode cX12_readOrder 182 = .ok (.ldc2_w 565, 3) := by decide +kernel
theorem ct_RX12_565 : Cond.constantLong RX12 565 21279923 ∈ gW := gW_u tb_9 51 (by rfl) (by decide +kernel)
theorem dX12_readOrder_185 : decode cX12_readOrder 185 = .ok (.invokevirtual 315, 3) := by decide +kernel
theorem dX12_readOrder_188 : decode cX12_readOrder 188 = .ok (.ifCond .eq 24, 3) := by decide +kernel
theorem dX12_readOrder_191 : decode cX12_readOrder 191 = .ok (.aload_n 0, 1) := by decide +kernel
theorem dX12_readOrder_192 : decode cX12_readOrder 192 = .ok (.invokevirtual 263, 3) := by decide +kernel
theorem dX12_readOrder_195 : decode cX12_readOrder 195 = .ok (.aload_n 0, 1) := by decide +kernel
theorem dX12_readOrder_196 : decode cX12_readOrder 196 = .ok (.getfield 144, 3) := by decide +kernel
theorem dX12_readOrder_199 : decode cX12_readOrder 199 = .ok (.iload_n 2, 1) := by decide +kernel
theorem dX12_readOrder_200 : decode cX12_readOrder 200 = .ok (.bipush 7, 2) := by decide +kernel
theorem dX12_readOrder_202 : decode cX12_readOrder 202 = .ok (.iadd, 1) := by decide +kernel
theorem dX12_readOrder_203 : decode cX12_readOrder 203 = .ok (.aload_n 0, 1) := by decide +kernel
theorem dX12_readOrder_204 : decode cX12_readOrder 204 = .ok (.lconst 1, 1) := by decide +kernel
theorem dX12_readOrder_205 : decode cX12_readOrder 205 = .ok (.ldc2_w 233, 3) := by decide +kernel
theorem dX12_readOrder_208 : decode cX12_readOrder 208 = .ok (.invokevirtual 352, 3) := by decide +kernel
theorem dX12_readOrder_211 : decode cX12_readOrder 211 = .ok (.iastore, 1) := by decide +kernel
theorem dX12_readOrder_212 : decode cX12_readOrder 212 = .ok (.aload_n 0, 1) := by decide +kernel
theorem dX12_readOrder_213 : decode cX12_readOrder 213 = .ok (.getfield 144, 3) := by decide +kernel
theorem dX12_readOrder_216 : decode cX12_readOrder 216 = .ok (.iload_n 2, 1) := by decide +kernel
theorem dX12_readOrder_217 : decode cX12_readOrder 217 = .ok (.iconst 5, 1) := by decide +kernel
theorem dX12_readOrder_218 : decode cX12_readOrder 218 = .ok (.iadd, 1) := by decide +kernel
theorem dX12_readOrder_219 : decode cX12_readOrder 219 = .ok (.aload_n 0, 1) := by decide +kernel
theorem dX12_readOrder_220 : decode cX12_readOrder 220 = .ok (.getfield 296, 3) := by decide +kernel
theorem dX12_readOrder_223 : decode cX12_readOrder 223 = .ok (.iastore, 1) := by decide +kernel
theorem dX12_readOrder_224 : decode cX12_readOrder 224 = .ok (.aload_n 0, 1) := by decide +kernel
theorem dX12_readOrder_225 : decode cX12_readOrder 225 = .ok (.getfield 259, 3) := by decide +kernel
theorem dX12_readOrder_228 : decode cX12_readOrder 228 = .ok (.ifCond .ne 22, 3) := by decide +kernel
theorem dX12_readOrder_250 : decode cX12_readOrder 250 = .ok (.aload_n 0, 1) := by decide +kernel
theorem dX12_readOrder_251 : decode cX12_readOrder 251 = .ok (.getfield 144, 3) := by decide +kernel
theorem dX12_readOrder_254 : decode cX12_readOrder 254 = .ok (.iload_n 2, 1) := by decide +kernel
theorem dX12_readOrder_255 : decode cX12_readOrder 255 = .ok (.bipush 6, 2) := by decide +kernel
theorem dX12_readOrder_257 : decode cX12_readOrder 257 = .ok (.iadd, 1) := by decide +kernel
theorem dX12_readOrder_258 : decode cX12_readOrder 258 = .ok (.aload_n 0, 1) := by decide +kernel
theorem dX12_readOrder_259 : decode cX12_readOrder 259 = .ok (.getfield 296, 3) := by decide +kernel
theorem dX12_readOrder_262 : decode cX12_readOrder 262 = .ok (.iastore, 1) := by decide +kernel
theorem dX12_readOrder_263 : decode cX12_readOrder 263 = .ok (.return_, 1) := by decide +kernel
theorem dX12_readOrder_231 : decode cX12_readOrder 231 = .ok (.aload_n 0, 1) := by decide +kernel
theorem dX12_readOrder_232 : decode cX12_readOrder 232 = .ok (.ldc2_w 394, 3) := by decide +kernel
theorem dX12_readOrder_235 : decode cX12_readOrder 235 = .ok (.invokevirtual 315, 3) := by decide +kernel
theorem dX12_readOrder_238 : decode cX12_readOrder 238 = .ok (.ifCond .eq 12, 3) := by decide +kernel
theorem dX12_readOrder_241 : decode cX12_readOrder 241 = .ok (.aload_n 0, 1) := by decide +kernel
theorem dX12_readOrder_242 : decode cX12_readOrder 242 = .ok (.invokevirtual 263, 3) := by decide +kernel
theorem dX12_readOrder_245 : decode cX12_readOrder 245 = .ok (.aload_n 0, 1) := by decide +kernel
theorem dX12_readOrder_246 : decode cX12_readOrder 246 = .ok (.iconst 1, 1) := by decide +kernel
theorem dX12_readOrder_247 : decode cX12_readOrder 247 = .ok (.invokevirtual 391, 3) := by decide +kernel
theorem dX12_readOrder_64 : decode cX12_readOrder 64 = .ok (.return_, 1) := by decide +kernel
