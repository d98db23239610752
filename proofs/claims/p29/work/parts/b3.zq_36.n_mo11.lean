def yX12_tongue : MethodName := ⟨RX12, "tongue", "(I)I"⟩
abbrev cX12_tongue : ByteArray := prog_14_method_116_code
theorem dX12_tongue_0 : decode cX12_tongue 0 = .ok (.aload_n 0, 1) := by decide +kernel
theorem dX12_tongue_1 : decode cX12_tongue 1 = .ok (.iconst 0, 1) := by decide +kernel
theorem dX12_tongue_2 : decode cX12_tongue 2 = .ok (.putfield 156, 3) := by decide +kernel
theorem dX12_tongue_5 : decode cX12_tongue 5 = .ok (.iload_n 1, 1) := by decide +kernel
theorem dX12_tongue_6 : decode cX12_tongue 6 = .ok (.i2l, 1) := by decide +kernel
theorem dX12_tongue_7 : decode cX12_tongue 7 = .ok (.lconst 0, 1) := by decide +kernel
theorem dX12_tongue_8 : decode cX12_tongue 8 = .ok (.lconst 1, 1) := by decide +kernel
theorem dX12_tongue_9 : decode cX12_tongue 9 = .ok (.invokestatic 180, 3) := by decide +kernel
theorem dX12_tongue_12 : decode cX12_tongue 12 = .ok (.ifCond .ne 5, 3) := by decide +kernel
theorem dX12_tongue_17 : decode cX12_tongue 17 = .ok (.ldc_w 505, 3) := by decide +kernel
theorem dX12_tongue_20 : decode cX12_tongue 20 = .ok (.istore_n 2, 1) := by decide +kernel
theorem dX12_tongue_21 : decode cX12_tongue 21 = .ok (.iconst (-1), 1) := by decide +kernel
theorem dX12_tongue_22 : decode cX12_tongue 22 = .ok (.istore_n 3, 1) := by decide +kernel
theorem dX12_tongue_23 : decode cX12_tongue 23 = .ok (.iconst 0, 1) := by decide +kernel
theorem dX12_tongue_24 : decode cX12_tongue 24 = .ok (.istore 4, 2) := by decide +kernel
theorem dX12_tongue_26 : decode cX12_tongue 26 = .ok (.iload 4, 2) := by decide +kernel
theorem dX12_tongue_28 : decode cX12_tongue 28 = .ok (.bipush 64, 2) := by decide +kernel
theorem dX12_tongue_30 : decode cX12_tongue 30 = .ok (.if_icmp .ge 139, 3) := by decide +kernel
theorem dX12_tongue_33 : decode cX12_tongue 33 = .ok (.iload 4, 2) := by decide +kernel
theorem dX12_tongue_35 : decode cX12_tongue 35 = .ok (.i2l, 1) := by decide +kernel
theorem dX12_tongue_36 : decode cX12_tongue 36 = .ok (.invokestatic 527, 3) := by decide +kernel
theorem dX12_tongue_39 : decode cX12_tongue 39 = .ok (.iload_n 2, 1) := by decide +kernel
theorem dX12_tongue_40 : decode cX12_tongue 40 = .ok (.if_icmp .ge 7, 3) := by decide +kernel
theorem dX12_tongue_47 : decode cX12_tongue 47 = .ok (.iconst 0, 1) := by decide +kernel
theorem dX12_tongue_43 : decode cX12_tongue 43 = .ok (.iconst 1, 1) := by decide +kernel
theorem dX12_tongue_44 : decode cX12_tongue 44 = .ok (.goto 4, 3) := by decide +kernel
theorem dX12_tongue_48 : decode cX12_tongue 48 = .ok (.istore 5, 2) := by decide +kernel
theorem dX12_tongue_50 : decode cX12_tongue 50 = .ok (.iconst 0, 1) := by decide +kernel
theorem dX12_tongue_51 : decode cX12_tongue 51 = .ok (.istore 6, 2) := by decide +kernel
theorem dX12_tongue_53 : decode cX12_tongue 53 = .ok (.iload 6, 2) := by decide +kernel
theorem dX12_tongue_55 : decode cX12_tongue 55 = .ok (.aload_n 0, 1) := by decide +kernel
theorem dX12_tongue_56 : decode cX12_tongue 56 = .ok (.getfield 13, 3) := by decide +kernel
theorem dX12_tongue_59 : decode cX12_tongue 59 = .ok (.iconst 4, 1) := by decide +kernel
theorem dX12_tongue_60 : decode cX12_tongue 60 = .ok (.iaload, 1) := by decide +kernel
theorem dX12_tongue_61 : decode cX12_tongue 61 = .ok (.if_icmp .ge 74, 3) := by decide +kernel
theorem dX12_tongue_64 : decode cX12_tongue 64 = .ok (.iload 5, 2) := by decide +kernel
theorem dX12_tongue_66 : decode cX12_tongue 66 = .ok (.ifCond .eq 69, 3) := by decide +kernel
theorem dX12_tongue_69 : decode cX12_tongue 69 = .ok (.iload 4, 2) := by decide +kernel
theorem dX12_tongue_71 : decode cX12_tongue 71 = .ok (.aload_n 0, 1) := by decide +kernel
theorem dX12_tongue_72 : decode cX12_tongue 72 = .ok (.getfield 13, 3) := by decide +kernel
theorem dX12_tongue_75 : decode cX12_tongue 75 = .ok (.sipush 226, 3) := by decide +kernel
theorem dX12_tongue_78 : decode cX12_tongue 78 = .ok (.iconst 2, 1) := by decide +kernel
theorem dX12_tongue_79 : decode cX12_tongue 79 = .ok (.iload 6, 2) := by decide +kernel
theorem dX12_tongue_81 : decode cX12_tongue 81 = .ok (.imul, 1) := by decide +kernel
theorem dX12_tongue_82 : decode cX12_tongue 82 = .ok (.iadd, 1) := by decide +kernel
theorem dX12_tongue_83 : decode cX12_tongue 83 = .ok (.iaload, 1) := by decide +kernel
theorem dX12_tongue_84 : decode cX12_tongue 84 = .ok (.iconst (-1), 1) := by decide +kernel
theorem dX12_tongue_85 : decode cX12_tongue 85 = .ok (.ixor, 1) := by decide +kernel
theorem dX12_tongue_86 : decode cX12_tongue 86 = .ok (.iand, 1) := by decide +kernel
theorem dX12_tongue_87 : decode cX12_tongue 87 = .ok (.ifCond .ne 7, 3) := by decide +kernel
theorem dX12_tongue_94 : decode cX12_tongue 94 = .ok (.iconst 0, 1) := by decide +kernel
theorem dX12_tongue_90 : decode cX12_tongue 90 = .ok (.iconst 1, 1) := by decide +kernel
theorem dX12_tongue_91 : decode cX12_tongue 91 = .ok (.goto 4, 3) := by decide +kernel
theorem dX12_tongue_95 : decode cX12_tongue 95 = .ok (.aload_n 0, 1) := by decide +kernel
theorem dX12_tongue_96 : decode cX12_tongue 96 = .ok (.getfield 13, 3) := by decide +kernel
theorem dX12_tongue_99 : decode cX12_tongue 99 = .ok (.sipush 226, 3) := by decide +kernel
theorem dX12_tongue_102 : decode cX12_tongue 102 = .ok (.iconst 2, 1) := by decide +kernel
theorem dX12_tongue_103 : decode cX12_tongue 103 = .ok (.iload 6, 2) := by decide +kernel
theorem dX12_tongue_105 : decode cX12_tongue 105 = .ok (.imul, 1) := by decide +kernel
theorem dX12_tongue_106 : decode cX12_tongue 106 = .ok (.iadd, 1) := by decide +kernel
theorem dX12_tongue_107 : decode cX12_tongue 107 = .ok (.iconst 1, 1) := by decide +kernel
theorem dX12_tongue_108 : decode cX12_tongue 108 = .ok (.iadd, 1) := by decide +kernel
theorem dX12_tongue_109 : decode cX12_tongue 109 = .ok (.iaload, 1) := by decide +kernel
theorem dX12_tongue_110 : decode cX12_tongue 110 = .ok (.iconst 1, 1) := by decide +kernel
theorem dX12_tongue_111 : decode cX12_tongue 111 = .ok (.if_icmp .ne 7, 3) := by decide +kernel
theorem dX12_tongue_118 : decode cX12_tongue 118 = .ok (.iconst 0, 1) := by decide +kernel
theorem dX12_tongue_119 : decode cX12_tongue 119 = .ok (.if_icmp .ne 7, 3) := by decide +kernel
theorem dX12_tongue_126 : decode cX12_tongue 126 = .ok (.iconst 0, 1) := by decide +kernel
theorem dX12_tongue_127 : decode cX12_tongue 127 = .ok (.istore 5, 2) := by decide +kernel
theorem dX12_tongue_129 : decode cX12_tongue 129 = .ok (.iinc 6 1, 3) := by decide +kernel
theorem dX12_tongue_132 : decode cX12_tongue 132 = .ok (.goto (-79), 3) := by decide +kernel
theorem dX12_tongue_122 : decode cX12_tongue 122 = .ok (.iconst 1, 1) := by decide +kernel
theorem dX12_tongue_123 : decode cX12_tongue 123 = .ok (.goto 4, 3) := by decide +kernel
theorem dX12_tongue_114 : decode cX12_tongue 114 = .ok (.iconst 1, 1) := by decide +kernel
theorem dX12_tongue_115 : decode cX12_tongue 115 = .ok (.goto 4, 3) := by decide +kernel
theorem dX12_tongue_135 : decode cX12_tongue 135 = .ok (.iload 5, 2) := by decide +kernel
theorem dX12_tongue_137 : decode cX12_tongue 137 = .ok (.ifCond .eq 8, 3) := by decide +kernel
theorem dX12_tongue_145 : decode cX12_tongue 145 = .ok (.iload_n 3, 1) := by decide +kernel
theorem dX12_tongue_140 : decode cX12_tongue 140 = .ok (.iload 4, 2) := by decide +kernel
theorem dX12_tongue_142 : decode cX12_tongue 142 = .ok (.goto 4, 3) := by decide +kernel
theorem dX12_tongue_146 : decode cX12_tongue 146 = .ok (.istore_n 3, 1) := by decide +kernel
theorem dX12_tongue_147 : decode cX12_tongue 147 = .ok (.iload 5, 2) := by decide +kernel
theorem dX12_tongue_149 : decode cX12_tongue 149 = .ok (.ifCond .eq 12, 3) := by decide +kernel
theorem dX12_tongue_161 : decode cX12_tongue 161 = .ok (.iload_n 2, 1) := by decide +kernel
theorem dX12_tongue_162 : decode cX12_tongue 162 = .ok (.istore_n 2, 1) := by decide +kernel
theorem dX12_tongue_163 : decode cX12_tongue 163 = .ok (.iinc 4 1, 3) := by decide +kernel
theorem dX12_tongue_166 : decode cX12_tongue 166 = .ok (.goto (-140), 3) := by decide +kernel
theorem dX12_tongue_152 : decode cX12_tongue 152 = .ok (.iload 4, 2) := by decide +kernel
theorem dX12_tongue_154 : decode cX12_tongue 154 = .ok (.i2l, 1) := by decide +kernel
theorem dX12_tongue_155 : decode cX12_tongue 155 = .ok (.invokestatic 527, 3) := by decide +kernel
theorem dX12_tongue_158 : decode cX12_tongue 158 = .ok (.goto 4, 3) := by decide +kernel
theorem dX12_tongue_169 : decode cX12_tongue 169 = .ok (.iload_n 3, 1) := by decide +kernel
theorem dX12_tongue_170 : decode cX12_tongue 170 = .ok (.iconst (-1), 1) := by decide +kernel
theorem dX12_tongue_171 : decode cX12_tongue 171 = .ok (.if_icmp .eq 8, 3) := by decide +kernel
theorem dX12_tongue_179 : decode cX12_tongue 179 = .ok (.iload_n 3, 1) := by decide +kernel
theorem dX12_tongue_180 : decode cX12_tongue 180 = .ok (.goto 4, 3) := by decide +kernel
theorem dX12_tongue_184 : decode cX12_tongue 184 = .ok (.ireturn, 1) := by decide +kernel
theorem dX12_tongue_174 : decode cX12_tongue 174 = .ok (.iload_n 1, 1) := by decide +kernel
theorem dX12_tongue_175 : decode cX12_tongue 175 = .ok (.iconst 1, 1) := by decide +kernel
theorem dX12_tongue_176 : decode cX12_tongue 176 = .ok (.if_icmp .ne 7, 3) := by decide +kernel
theorem dX12_tongue_183 : decode cX12_tongue 183 = .ok (.iload_n 2, 1) := by decide +kernel
theorem dX12_tongue_15 : decode cX12_tongue 15 = .ok (.iconst (-1), 1) := by decide +kernel
theorem dX12_tongue_16 : decode cX12_tongue 16 = .ok (.ireturn, 1) := by decide +kernel
def yX12_areBeside : MethodName := ⟨RX12, "areBeside", "(II)Z"⟩
abbrev cX12_areBeside : ByteArray := prog_14_method_117_code
theorem dX12_areBeside_0 : decode cX12_areBeside 0 = .ok (.iload_n 0, 1) := by decide +kernel
theorem dX12_areBeside_1 : decode cX12_areBeside 1 = .ok (.bipush 8, 2) := by decide +kernel
theorem dX12_areBeside_3 : decode cX12_areBeside 3 = .ok (.irem, 1) := by decide +kernel
theorem dX12_areBeside_4 : decode cX12_areBeside 4 = .ok (.iload_n 1, 1) := by decide +kernel
theorem dX12_areBeside_5 : decode cX12_areBeside 5 = .ok (.bipush 8, 2) := by decide +kernel
theorem dX12_areBeside_7 : decode cX12_areBeside 7 = .ok (.irem, 1) := by decide +kernel
theorem dX12_areBeside_8 : decode cX12_areBeside 8 = .ok (.invokestatic 453, 3) := by decide +kernel
theorem dX12_areBeside_11 : decode cX12_areBeside 11 = .ok (.iload_n 0, 1) := by decide +kernel
theorem dX12_areBeside_12 : decode cX12_areBeside 12 = .ok (.bipush 8, 2) := by decide +kernel
theorem dX12_areBeside_14 : decode cX12_areBeside 14 = .ok (.idiv, 1) := by decide +kernel
theorem dX12_areBeside_15 : decode cX12_areBeside 15 = .ok (.iload_n 1, 1) := by decide +kernel
theorem dX12_areBeside_16 : decode cX12_areBeside 16 = .ok (.bipush 8, 2) := by decide +kernel
theorem dX12_areBeside_18 : decode cX12_areBeside 18 = .ok (.idiv, 1) := by decide +kernel
theorem dX12_areBeside_19 : decode cX12_areBeside 19 = .ok (.invokestatic 453, 3) := by decide +kernel
theorem dX12_areBeside_22 : decode cX12_areBeside 22 = .ok (.iadd, 1) := by decide +kernel
theorem dX12_areBeside_23 : decode cX12_areBeside 23 = .ok (.iconst 1, 1) := by decide +kernel
theorem dX12_areBeside_24 : decode cX12_areBeside 24 = .ok (.if_icmp .ne 7, 3) := by decide +kernel
theorem dX12_areBeside_31 : decode cX12_areBeside 31 = .ok (.iconst 0, 1) := by decide +kernel
theorem dX12_areBeside_32 : decode cX12_areBeside 32 = .ok (.ireturn, 1) := by decide +kernel
theorem dX12_areBeside_27 : decode cX12_areBeside 27 = .ok (.iconst 1, 1) := by decide +kernel
theorem dX12_areBeside_28 : decode cX12_areBeside 28 = .ok (.goto 4, 3) := by decide +kernel
def yX12_veinOf : MethodName := ⟨RX12, "veinOf", "(I)J"⟩
abbrev cX12_veinOf : ByteArray := prog_14_method_118_code
theorem dX12_veinOf_0 : decode cX12_veinOf 0 = .ok (.lconst 1, 1) := by decide +kernel
theorem dX12_veinOf_1 : decode cX12_veinOf 1 = .ok (.iload_n 1, 1) := by decide +kernel
theorem dX12_veinOf_2 : decode cX12_veinOf 2 = .ok (.lshl, 1) := by decide +kernel
theorem dX12_veinOf_3 : decode cX12_veinOf 3 = .ok (.lstore_n 2, 1) := by decide +kernel
theorem dX12_veinOf_4 : decode cX12_veinOf 4 = .ok (.iconst 1, 1) := by decide +kernel
theorem dX12_veinOf_5 : decode cX12_veinOf 5 = .ok (.istore 4, 2) := by decide +kernel
theorem dX12_veinOf_7 : decode cX12_veinOf 7 = .ok (.iload 4, 2) := by decide +kernel
theorem dX12_veinOf_9 : decode cX12_veinOf 9 = .ok (.ifCond .eq 104, 3) := by decide +kernel
theorem dX12_veinOf_12 : decode cX12_veinOf 12 = .ok (.lload_n 2, 1) := by decide +kernel
theorem dX12_veinOf_13 : decode cX12_veinOf 13 = .ok (.lstore 5, 2) := by decide +kernel
theorem dX12_veinOf_15 : decode cX12_veinOf 15 = .ok (.iconst 0, 1) := by decide +kernel
theorem dX12_veinOf_16 : decode cX12_veinOf 16 = .ok (.istore 7, 2) := by decide +kernel
theorem dX12_veinOf_18 : decode cX12_veinOf 18 = .ok (.iload 7, 2) := by decide +kernel
theorem dX12_veinOf_20 : decode cX12_veinOf 20 = .ok (.bipush 40, 2) := by decide +kernel
theorem dX12_veinOf_22 : decode cX12_veinOf 22 = .ok (.if_icmp .ge 71, 3) := by decide +kernel
theorem dX12_veinOf_25 : decode cX12_veinOf 25 = .ok (.iconst 0, 1) := by decide +kernel
theorem dX12_veinOf_26 : decode cX12_veinOf 26 = .ok (.istore 8, 2) := by decide +kernel
theorem dX12_veinOf_28 : decode cX12_veinOf 28 = .ok (.iload 8, 2) := by decide +kernel
theorem dX12_veinOf_30 : decode cX12_veinOf 30 = .ok (.bipush 40, 2) := by decide +kernel
theorem dX12_veinOf_32 : decode cX12_veinOf 32 = .ok (.if_icmp .ge 55, 3) := by decide +kernel
theorem dX12_veinOf_35 : decode cX12_veinOf 35 = .ok (.aload_n 0, 1) := by decide +kernel
theorem dX12_veinOf_36 : decode cX12_veinOf 36 = .ok (.getfield 13, 3) := by decide +kernel
theorem dX12_veinOf_39 : decode cX12_veinOf 39 = .ok (.bipush 113, 2) := by decide +kernel
theorem dX12_veinOf_41 : decode cX12_veinOf 41 = .ok (.iload 7, 2) := by decide +kernel
theorem dX12_veinOf_43 : decode cX12_veinOf 43 = .ok (.iadd, 1) := by decide +kernel
theorem dX12_veinOf_44 : decode cX12_veinOf 44 = .ok (.iaload, 1) := by decide +kernel
theorem dX12_veinOf_45 : decode cX12_veinOf 45 = .ok (.iconst 3, 1) := by decide +kernel
theorem dX12_veinOf_46 : decode cX12_veinOf 46 = .ok (.if_icmp .ne 41, 3) := by decide +kernel
theorem dX12_veinOf_49 : decode cX12_veinOf 49 = .ok (.lload 5, 2) := by decide +kernel
theorem dX12_veinOf_51 : decode cX12_veinOf 51 = .ok (.lload_n 2, 1) := by decide +kernel
theorem dX12_veinOf_52 : decode cX12_veinOf 52 = .ok (.iload 8, 2) := by decide +kernel
theorem dX12_veinOf_54 : decode cX12_veinOf 54 = .ok (.invokestatic 159, 3) := by decide +kernel
theorem dX12_veinOf_57 : decode cX12_veinOf 57 = .ok (.ifCond .eq 20, 3) := by decide +kernel
theorem dX12_veinOf_77 : decode cX12_veinOf 77 = .ok (.lconst 0, 1) := by decide +kernel
theorem dX12_veinOf_78 : decode cX12_veinOf 78 = .ok (.lor, 1) := by decide +kernel
theorem dX12_veinOf_79 : decode cX12_veinOf 79 = .ok (.lstore 5, 2) := by decide +kernel
theorem dX12_veinOf_81 : decode cX12_veinOf 81 = .ok (.iinc 8 1, 3) := by decide +kernel
theorem dX12_veinOf_84 : decode cX12_veinOf 84 = .ok (.goto (-56), 3) := by decide +kernel
theorem dX12_veinOf_60 : decode cX12_veinOf 60 = .ok (.iload 7, 2) := by decide +kernel
theorem dX12_veinOf_62 : decode cX12_veinOf 62 = .ok (.iload 8, 2) := by decide +kernel
theorem dX12_veinOf_64 : decode cX12_veinOf 64 = .ok (.invokestatic 542, 3) := by decide +kernel
theorem lk_RX12_542 : Cond.methodLink RX12 542 yX12_areBeside ∈ gW := gW_u tb_7 134 (by rfl) (by decide +kernel)
theorem mT_X12_areBeside : Cond.static yX12_areBeside ∈ gW := gW_u tb_7 135 (by rfl) (by decide +kernel)
theorem mC_X12_areBeside : Cond.code yX12_areBeside cX12_areBeside 2 (some .boolean) ∈ gW := gW_u tb_7 136 (by rfl) (by decide +kernel)
theorem ok_X12_areBeside : okD yX12_areBeside 2 := ⟨by decide +kernel, by decide +kernel, by decide +kernel⟩
theorem dX12_veinOf_67 : decode cX12_veinOf 67 = .ok (.ifCond .eq 10, 3) := by decide +kernel
theorem dX12_veinOf_70 : decode cX12_veinOf 70 = .ok (.lconst 1, 1) := by decide +kernel
theorem dX12_veinOf_71 : decode cX12_veinOf 71 = .ok (.iload 7, 2) := by decide +kernel
theorem dX12_veinOf_73 : decode cX12_veinOf 73 = .ok (.lshl, 1) := by decide +kernel
theorem dX12_veinOf_74 : decode cX12_veinOf 74 = .ok (.goto 4, 3) := by decide +kernel
theorem dX12_veinOf_87 : decode cX12_veinOf 87 = .ok (.iinc 7 1, 3) := by decide +kernel
theorem dX12_veinOf_90 : decode cX12_veinOf 90 = .ok (.goto (-72), 3) := by decide +kernel
theorem dX12_veinOf_93 : decode cX12_veinOf 93 = .ok (.lload 5, 2) := by decide +kernel
theorem dX12_veinOf_95 : decode cX12_veinOf 95 = .ok (.lload_n 2, 1) := by decide +kernel
theorem dX12_veinOf_96 : decode cX12_veinOf 96 = .ok (.lcmp, 1) := by decide +kernel
theorem dX12_veinOf_97 : decode cX12_veinOf 97 = .ok (.ifCond .eq 7, 3) := by decide +kernel
theorem dX12_veinOf_104 : decode cX12_veinOf 104 = .ok (.iconst 0, 1) := by decide +kernel
theorem dX12_veinOf_105 : decode cX12_veinOf 105 = .ok (.istore 4, 2) := by decide +kernel
theorem dX12_veinOf_107 : decode cX12_veinOf 107 = .ok (.lload 5, 2) := by decide +kernel
theorem dX12_veinOf_109 : decode cX12_veinOf 109 = .ok (.lstore_n 2, 1) := by decide +kernel
theorem dX12_veinOf_110 : decode cX12_veinOf 110 = .ok (.goto (-103), 3) := by decide +kernel
theorem dX12_veinOf_100 : decode cX12_veinOf 100 = .ok (.iconst 1, 1) := by decide +kernel
theorem dX12_veinOf_101 : decode cX12_veinOf 101 = .ok (.goto 4, 3) := by decide +kernel
theorem dX12_veinOf_113 : decode cX12_veinOf 113 = .ok (.lload_n 2, 1) := by decide +kernel
theorem dX12_veinOf_114 : decode cX12_veinOf 114 = .ok (.lreturn, 1) := by decide +kernel
def yX12_waterOf : MethodName := ⟨RX12, "waterOf", "(J)I"⟩
abbrev cX12_waterOf : ByteArray := prog_14_method_119_code
theorem dX12_waterOf_0 : decode cX12_waterOf 0 = .ok (.iconst 0, 1) := by decide +kernel
theorem dX12_waterOf_1 : decode cX12_waterOf 1 = .ok (.istore_n 3, 1) := by decide +kernel
theorem dX12_waterOf_2 : decode cX12_waterOf 2 = .ok (.iconst 0, 1) := by decide +kernel
theorem dX12_waterOf_3 : decode cX12_waterOf 3 = .ok (.istore 4, 2) := by decide +kernel
theorem dX12_waterOf_5 : decode cX12_waterOf 5 = .ok (.iload 4, 2) := by decide +kernel
theorem dX12_waterOf_7 : decode cX12_waterOf 7 = .ok (.bipush 40, 2) := by decide +kernel
theorem dX12_waterOf_9 : decode cX12_waterOf 9 = .ok (.if_icmp .ge 35, 3) := by decide +kernel
theorem dX12_waterOf_12 : decode cX12_waterOf 12 = .ok (.iload_n 3, 1) := by decide +kernel
theorem dX12_waterOf_13 : decode cX12_waterOf 13 = .ok (.lload_n 1, 1) := by decide +kernel
theorem dX12_waterOf_14 : decode cX12_waterOf 14 = .ok (.iload 4, 2) := by decide +kernel
theorem dX12_waterOf_16 : decode cX12_waterOf 16 = .ok (.invokestatic 159, 3) := by decide +kernel
theorem dX12_waterOf_19 : decode cX12_waterOf 19 = .ok (.ifCond .eq 16, 3) := by decide +kernel
theorem dX12_waterOf_35 : decode cX12_waterOf 35 = .ok (.iconst 0, 1) := by decide +kernel
theorem dX12_waterOf_36 : decode cX12_waterOf 36 = .ok (.iadd, 1) := by decide +kernel
theorem dX12_waterOf_37 : decode cX12_waterOf 37 = .ok (.istore_n 3, 1) := by decide +kernel
theorem dX12_waterOf_38 : decode cX12_waterOf 38 = .ok (.iinc 4 1, 3) := by decide +kernel
theorem dX12_waterOf_41 : decode cX12_waterOf 41 = .ok (.goto (-36), 3) := by decide +kernel
theorem dX12_waterOf_22 : decode cX12_waterOf 22 = .ok (.aload_n 0, 1) := by decide +kernel
theorem dX12_waterOf_23 : decode cX12_waterOf 23 = .ok (.getfield 13, 3) := by decide +kernel
theorem dX12_waterOf_26 : decode cX12_waterOf 26 = .ok (.bipush 73, 2) := by decide +kernel
theorem dX12_waterOf_28 : decode cX12_waterOf 28 = .ok (.iload 4, 2) := by decide +kernel
theorem dX12_waterOf_30 : decode cX12_waterOf 30 = .ok (.iadd, 1) := by decide +kernel
theorem dX12_waterOf_31 : decode cX12_waterOf 31 = .ok (.iaload, 1) := by decide +kernel
theorem dX12_waterOf_32 : decode cX12_waterOf 32 = .ok (.goto 4, 3) := by decide +kernel
theorem dX12_waterOf_44 : decode cX12_waterOf 44 = .ok (.iload_n 3, 1) := by decide +kernel
theorem dX12_waterOf_45 : decode cX12_waterOf 45 = .ok (.ireturn, 1) := by decide +kernel
def yX12_shaftsIn : MethodName := ⟨RX12, "shaftsIn", "(J)I"⟩
abbrev cX12_shaftsIn : ByteArray := prog_14_method_120_code
theorem dX12_shaftsIn_0 : decode cX12_shaftsIn 0 = .ok (.iconst 0, 1) := by decide +kernel
theorem dX12_shaftsIn_1 : decode cX12_shaftsIn 1 = .ok (.istore_n 3, 1) := by decide +kernel
theorem dX12_shaftsIn_2 : decode cX12_shaftsIn 2 = .ok (.iconst 0, 1) := by decide +kernel
theorem dX12_shaftsIn_3 : decode cX12_shaftsIn 3 = .ok (.istore 4, 2) := by decide +kernel
theorem dX12_shaftsIn_5 : decode cX12_shaftsIn 5 = .ok (.iload 4, 2) := by decide +kernel
theorem dX12_shaftsIn_7 : decode cX12_shaftsIn 7 = .ok (.aload_n 0, 1) := by decide +kernel
theorem dX12_shaftsIn_8 : decode cX12_shaftsIn 8 = .ok (.getfield 13, 3) := by decide +kernel
theorem dX12_shaftsIn_11 : decode cX12_shaftsIn 11 = .ok (.iconst 0, 1) := by decide +kernel
theorem dX12_shaftsIn_12 : decode cX12_shaftsIn 12 = .ok (.iaload, 1) := by decide +kernel
theorem dX12_shaftsIn_13 : decode cX12_shaftsIn 13 = .ok (.if_icmp .ge 34, 3) := by decide +kernel
theorem dX12_shaftsIn_16 : decode cX12_shaftsIn 16 = .ok (.iload_n 3, 1) := by decide +kernel
theorem dX12_shaftsIn_17 : decode cX12_shaftsIn 17 = .ok (.lload_n 1, 1) := by decide +kernel
theorem dX12_shaftsIn_18 : decode cX12_shaftsIn 18 = .ok (.aload_n 0, 1) := by decide +kernel
theorem dX12_shaftsIn_19 : decode cX12_shaftsIn 19 = .ok (.getfield 13, 3) := by decide +kernel
theorem dX12_shaftsIn_22 : decode cX12_shaftsIn 22 = .ok (.bipush 10, 2) := by decide +kernel
theorem dX12_shaftsIn_24 : decode cX12_shaftsIn 24 = .ok (.iload 4, 2) := by decide +kernel
theorem dX12_shaftsIn_26 : decode cX12_shaftsIn 26 = .ok (.iadd, 1) := by decide +kernel
theorem dX12_shaftsIn_27 : decode cX12_shaftsIn 27 = .ok (.iaload, 1) := by decide +kernel
theorem dX12_shaftsIn_28 : decode cX12_shaftsIn 28 = .ok (.invokestatic 159, 3) := by decide +kernel
theorem dX12_shaftsIn_31 : decode cX12_shaftsIn 31 = .ok (.ifCond .eq 7, 3) := by decide +kernel
theorem dX12_shaftsIn_38 : decode cX12_shaftsIn 38 = .ok (.iconst 0, 1) := by decide +kernel
theorem dX12_shaftsIn_39 : decode cX12_shaftsIn 39 = .ok (.iadd, 1) := by decide +kernel
theorem dX12_shaftsIn_40 : decode cX12_shaftsIn 40 = .ok (.istore_n 3, 1) := by decide +kernel
theorem dX12_shaftsIn_41 : decode cX12_shaftsIn 41 = .ok (.iinc 4 1, 3) := by decide +kernel
theorem dX12_shaftsIn_44 : decode cX12_shaftsIn 44 = .ok (.goto (-39), 3) := by decide +kernel
theorem dX12_shaftsIn_34 : decode cX12_shaftsIn 34 = .ok (.iconst 1, 1) := by decide +kernel
theorem dX12_shaftsIn_35 : decode cX12_shaftsIn 35 = .ok (.goto 4, 3) := by decide +kernel
theorem dX12_shaftsIn_47 : decode cX12_shaftsIn 47 = .ok (.iload_n 3, 1) := by decide +kernel
theorem dX12_shaftsIn_48 : decode cX12_shaftsIn 48 = .ok (.ireturn, 1) := by decide +kernel
def yX12_hasOf : MethodName := ⟨RX12, "hasOf", "(I)I"⟩
abbrev cX12_hasOf : ByteArray := prog_14_method_121_code
theorem dX12_hasOf_0 : decode cX12_hasOf 0 = .ok (.aload_n 0, 1) := by decide +kernel
theorem dX12_hasOf_1 : decode cX12_hasOf 1 = .ok (.iload_n 1, 1) := by decide +kernel
theorem dX12_hasOf_2 : decode cX12_hasOf 2 = .ok (.invokevirtual 227, 3) := by decide +kernel
theorem dX12_hasOf_5 : decode cX12_hasOf 5 = .ok (.ifCond .ne 5, 3) := by decide +kernel
theorem dX12_hasOf_10 : decode cX12_hasOf 10 = .ok (.aload_n 0, 1) := by decide +kernel
theorem dX12_hasOf_11 : decode cX12_hasOf 11 = .ok (.aload_n 0, 1) := by decide +kernel
theorem dX12_hasOf_12 : decode cX12_hasOf 12 = .ok (.getfield 13, 3) := by decide +kernel
theorem dX12_hasOf_15 : decode cX12_hasOf 15 = .ok (.bipush 10, 2) := by decide +kernel
theorem dX12_hasOf_17 : decode cX12_hasOf 17 = .ok (.iload_n 1, 1) := by decide +kernel
theorem dX12_hasOf_18 : decode cX12_hasOf 18 = .ok (.iadd, 1) := by decide +kernel
theorem dX12_hasOf_19 : decode cX12_hasOf 19 = .ok (.iaload, 1) := by decide +kernel
theorem dX12_hasOf_20 : decode cX12_hasOf 20 = .ok (.invokevirtual 545, 3) := by decide +kernel
theorem lk_RX12_545 : Cond.methodLink RX12 545 yX12_veinOf ∈ gW := gW_u tb_7 127 (by rfl) (by decide +kernel)
theorem mI_X12_veinOf : Cond.instanceMethod yX12_veinOf ∈ gW := gW_u tb_7 129 (by rfl) (by decide +kernel)
theorem mS_X12_veinOf : Cond.selects RX12 yX12_veinOf yX12_veinOf ∈ gW := gW_p (q := (yX12_veinOf, 59)) 55 (by decide +kernel)
theorem mC_X12_veinOf : Cond.code yX12_veinOf cX12_veinOf 9 (some .long) ∈ gW := gW_u tb_7 130 (by rfl) (by decide +kernel)
theorem ok_X12_veinOf : okD yX12_veinOf 1 := ⟨by decide +kernel, by decide +kernel, by decide +kernel⟩
theorem dX12_hasOf_23 : decode cX12_hasOf 23 = .ok (.lstore_n 2, 1) := by decide +kernel
theorem dX12_hasOf_24 : decode cX12_hasOf 24 = .ok (.aload_n 0, 1) := by decide +kernel
theorem dX12_hasOf_25 : decode cX12_hasOf 25 = .ok (.lload_n 2, 1) := by decide +kernel
theorem dX12_hasOf_26 : decode cX12_hasOf 26 = .ok (.invokevirtual 548, 3) := by decide +kernel
theorem lk_RX12_548 : Cond.methodLink RX12 548 yX12_waterOf ∈ gW := gW_u tb_7 140 (by rfl) (by decide +kernel)
theorem mI_X12_waterOf : Cond.instanceMethod yX12_waterOf ∈ gW := gW_u tb_7 142 (by rfl) (by decide +kernel)
theorem mS_X12_waterOf : Cond.selects RX12 yX12_waterOf yX12_waterOf ∈ gW := gW_p (q := (yX12_waterOf, 59)) 56 (by decide +kernel)
theorem mC_X12_waterOf : Cond.code yX12_waterOf cX12_waterOf 5 (some .int) ∈ gW := gW_u tb_7 143 (by rfl) (by decide +kernel)
theorem ok_X12_waterOf : okD yX12_waterOf 1 := ⟨by decide +kernel, by decide +kernel, by decide +kernel⟩
theorem dX12_hasOf_29 : decode cX12_hasOf 29 = .ok (.aload_n 0, 1) := by decide +kernel
theorem dX12_hasOf_30 : decode cX12_hasOf 30 = .ok (.lload_n 2, 1) := by decide +kernel
theorem dX12_hasOf_31 : decode cX12_hasOf 31 = .ok (.invokevirtual 551, 3) := by decide +kernel
theorem lk_RX12_551 : Cond.methodLink RX12 551 yX12_shaftsIn ∈ gW := gW_u tb_7 144 (by rfl) (by decide +kernel)
theorem mI_X12_shaftsIn : Cond.instanceMethod yX12_shaftsIn ∈ gW := gW_u tb_7 146 (by rfl) (by decide +kernel)
theorem mS_X12_shaftsIn : Cond.selects RX12 yX12_shaftsIn yX12_shaftsIn ∈ gW := gW_p (q := (yX12_shaftsIn, 59)) 57 (by decide +kernel)
theorem mC_X12_shaftsIn : Cond.code yX12_shaftsIn cX12_shaftsIn 5 (some .int) ∈ gW := gW_u tb_7 147 (by rfl) (by decide +kernel)
theorem ok_X12_shaftsIn : okD yX12_shaftsIn 1 := ⟨by decide +kernel, by decide +kernel, by decide +kernel⟩
theorem dX12_hasOf_34 : decode cX12_hasOf 34 = .ok (.idiv, 1) := by decide +kernel
theorem dX12_hasOf_35 : decode cX12_hasOf 35 = .ok (.ireturn, 1) := by decide +kernel
theorem dX12_hasOf_8 : decode cX12_hasOf 8 = .ok (.iconst 0, 1) := by decide +kernel
theorem dX12_hasOf_9 : decode cX12_hasOf 9 = .ok (.ireturn, 1) := by decide +kernel
def yX12_vein : MethodName := ⟨RX12, "vein", "(II)J"⟩
abbrev cX12_vein : ByteArray := prog_14_method_122_code
theorem dX12_vein_0 : decode cX12_vein 0 = .ok (.aload_n 0, 1) := by decide +kernel
theorem dX12_vein_1 : decode cX12_vein 1 = .ok (.iconst 0, 1) := by decide +kernel
theorem dX12_vein_2 : decode cX12_vein 2 = .ok (.putfield 156, 3) := by decide +kernel
theorem dX12_vein_5 : decode cX12_vein 5 = .ok (.iload_n 1, 1) := by decide +kernel
theorem dX12_vein_6 : decode cX12_vein 6 = .ok (.invokestatic 197, 3) := by decide +kernel
theorem dX12_vein_9 : decode cX12_vein 9 = .ok (.ifCond .eq 28, 3) := by decide +kernel
theorem dX12_vein_37 : decode cX12_vein 37 = .ok (.ldc2_w 286, 3) := by decide +kernel
theorem dX12_vein_40 : decode cX12_vein 40 = .ok (.lreturn, 1) := by decide +kernel
theorem dX12_vein_12 : decode cX12_vein 12 = .ok (.aload_n 0, 1) := by decide +kernel
theorem dX12_vein_13 : decode cX12_vein 13 = .ok (.getfield 13, 3) := by decide +kernel
theorem dX12_vein_16 : decode cX12_vein 16 = .ok (.bipush 113, 2) := by decide +kernel
theorem dX12_vein_18 : decode cX12_vein 18 = .ok (.iload_n 1, 1) := by decide +kernel
theorem dX12_vein_19 : decode cX12_vein 19 = .ok (.iadd, 1) := by decide +kernel
theorem dX12_vein_20 : decode cX12_vein 20 = .ok (.iaload, 1) := by decide +kernel
theorem dX12_vein_21 : decode cX12_vein 21 = .ok (.iconst 3, 1) := by decide +kernel
theorem dX12_vein_22 : decode cX12_vein 22 = .ok (.if_icmp .ne 15, 3) := by decide +kernel
theorem dX12_vein_25 : decode cX12_vein 25 = .ok (.iload_n 2, 1) := by decide +kernel
theorem dX12_vein_26 : decode cX12_vein 26 = .ok (.i2l, 1) := by decide +kernel
theorem dX12_vein_27 : decode cX12_vein 27 = .ok (.lconst 0, 1) := by decide +kernel
theorem dX12_vein_28 : decode cX12_vein 28 = .ok (.ldc2_w 442, 3) := by decide +kernel
theorem dX12_vein_31 : decode cX12_vein 31 = .ok (.invokestatic 180, 3) := by decide +kernel
theorem dX12_vein_34 : decode cX12_vein 34 = .ok (.ifCond .ne 7, 3) := by decide +kernel
theorem dX12_vein_41 : decode cX12_vein 41 = .ok (.aload_n 0, 1) := by decide +kernel
theorem dX12_vein_42 : decode cX12_vein 42 = .ok (.iload_n 1, 1) := by decide +kernel
theorem dX12_vein_43 : decode cX12_vein 43 = .ok (.invokevirtual 545, 3) := by decide +kernel
theorem dX12_vein_46 : decode cX12_vein 46 = .ok (.lstore_n 3, 1) := by decide +kernel
theorem dX12_vein_47 : decode cX12_vein 47 = .ok (.iload_n 2, 1) := by decide +kernel
theorem dX12_vein_48 : decode cX12_vein 48 = .ok (.ifCond .ne 7, 3) := by decide +kernel
theorem dX12_vein_55 : decode cX12_vein 55 = .ok (.iload_n 2, 1) := by decide +kernel
theorem dX12_vein_56 : decode cX12_vein 56 = .ok (.iconst 1, 1) := by decide +kernel
theorem dX12_vein_57 : decode cX12_vein 57 = .ok (.if_icmp .ne 12, 3) := by decide +kernel
theorem dX12_vein_69 : decode cX12_vein 69 = .ok (.aload_n 0, 1) := by decide +kernel
theorem dX12_vein_70 : decode cX12_vein 70 = .ok (.lload_n 3, 1) := by decide +kernel
theorem dX12_vein_71 : decode cX12_vein 71 = .ok (.invokevirtual 551, 3) := by decide +kernel
theorem dX12_vein_74 : decode cX12_vein 74 = .ok (.i2l, 1) := by decide +kernel
theorem dX12_vein_75 : decode cX12_vein 75 = .ok (.lreturn, 1) := by decide +kernel
theorem dX12_vein_60 : decode cX12_vein 60 = .ok (.aload_n 0, 1) := by decide +kernel
theorem dX12_vein_61 : decode cX12_vein 61 = .ok (.lload_n 3, 1) := by decide +kernel
theorem dX12_vein_62 : decode cX12_vein 62 = .ok (.invokevirtual 548, 3) := by decide +kernel
theorem dX12_vein_65 : decode cX12_vein 65 = .ok (.i2l, 1) := by decide +kernel
theorem dX12_vein_66 : decode cX12_vein 66 = .ok (.goto 9, 3) := by decide +kernel
theorem dX12_vein_51 : decode cX12_vein 51 = .ok (.lload_n 3, 1) := by decide +kernel
theorem dX12_vein_52 : decode cX12_vein 52 = .ok (.goto 23, 3) := by decide +kernel
def yX12_of : MethodName := ⟨RX12, "of", "(II)I"⟩
abbrev cX12_of : ByteArray := prog_14_method_29_code
theorem dX12_of_0 : decode cX12_of 0 = .ok (.aload_n 0, 1) := by decide +kernel
theorem dX12_of_1 : decode cX12_of 1 = .ok (.iconst 0, 1) := by decide +kernel
theorem dX12_of_2 : decode cX12_of 2 = .ok (.putfield 156, 3) := by decide +kernel
theorem dX12_of_5 : decode cX12_of 5 = .ok (.aload_n 0, 1) := by decide +kernel
theorem dX12_of_6 : decode cX12_of 6 = .ok (.iload_n 1, 1) := by decide +kernel
theorem dX12_of_7 : decode cX12_of 7 = .ok (.invokevirtual 221, 3) := by decide +kernel
theorem dX12_of_10 : decode cX12_of 10 = .ok (.ifCond .ne 5, 3) := by decide +kernel
theorem dX12_of_15 : decode cX12_of 15 = .ok (.iload_n 2, 1) := by decide +kernel
theorem dX12_of_16 : decode cX12_of 16 = .ok (.tableswitch 90 0 4 #[36, 46, 56, 70, 84], 36) := by decide +kernel
theorem dX12_of_52 : decode cX12_of 52 = .ok (.aload_n 0, 1) := by decide +kernel
theorem dX12_of_53 : decode cX12_of 53 = .ok (.getfield 13, 3) := by decide +kernel
theorem dX12_of_56 : decode cX12_of 56 = .ok (.bipush 10, 2) := by decide +kernel
theorem dX12_of_58 : decode cX12_of 58 = .ok (.iload_n 1, 1) := by decide +kernel
theorem dX12_of_59 : decode cX12_of 59 = .ok (.iadd, 1) := by decide +kernel
theorem dX12_of_60 : decode cX12_of 60 = .ok (.iaload, 1) := by decide +kernel
theorem dX12_of_61 : decode cX12_of 61 = .ok (.ireturn, 1) := by decide +kernel
theorem dX12_of_62 : decode cX12_of 62 = .ok (.aload_n 0, 1) := by decide +kernel
theorem dX12_of_63 : decode cX12_of 63 = .ok (.getfield 13, 3) := by decide +kernel
theorem dX12_of_66 : decode cX12_of 66 = .ok (.bipush 16, 2) := by decide +kernel
theorem dX12_of_68 : decode cX12_of 68 = .ok (.iload_n 1, 1) := by decide +kernel
theorem dX12_of_69 : decode cX12_of 69 = .ok (.iadd, 1) := by decide +kernel
theorem dX12_of_70 : decode cX12_of 70 = .ok (.iaload, 1) := by decide +kernel
theorem dX12_of_71 : decode cX12_of 71 = .ok (.ireturn, 1) := by decide +kernel
theorem dX12_of_72 : decode cX12_of 72 = .ok (.aload_n 0, 1) := by decide +kernel
theorem dX12_of_73 : decode cX12_of 73 = .ok (.iload_n 1, 1) := by decide +kernel
theorem dX12_of_74 : decode cX12_of 74 = .ok (.invokevirtual 224, 3) := by decide +kernel
theorem dX12_of_77 : decode cX12_of 77 = .ok (.ifCond .eq 7, 3) := by decide +kernel
theorem dX12_of_84 : decode cX12_of 84 = .ok (.iconst 0, 1) := by decide +kernel
theorem dX12_of_85 : decode cX12_of 85 = .ok (.ireturn, 1) := by decide +kernel
theorem dX12_of_80 : decode cX12_of 80 = .ok (.iconst 1, 1) := by decide +kernel
theorem dX12_of_81 : decode cX12_of 81 = .ok (.goto 4, 3) := by decide +kernel
theorem dX12_of_86 : decode cX12_of 86 = .ok (.aload_n 0, 1) := by decide +kernel
theorem dX12_of_87 : decode cX12_of 87 = .ok (.iload_n 1, 1) := by decide +kernel
theorem dX12_of_88 : decode cX12_of 88 = .ok (.invokevirtual 227, 3) := by decide +kernel
theorem dX12_of_91 : decode cX12_of 91 = .ok (.ifCond .eq 7, 3) := by decide +kernel
theorem dX12_of_98 : decode cX12_of 98 = .ok (.iconst 0, 1) := by decide +kernel
theorem dX12_of_99 : decode cX12_of 99 = .ok (.ireturn, 1) := by decide +kernel
theorem dX12_of_94 : decode cX12_of 94 = .ok (.iconst 1, 1) := by decide +kernel
theorem dX12_of_95 : decode cX12_of 95 = .ok (.goto 4, 3) := by decide +kernel
theorem dX12_of_100 : decode cX12_of 100 = .ok (.aload_n 0, 1) := by decide +kernel
theorem dX12_of_101 : decode cX12_of 101 = .ok (.iload_n 1, 1) := by decide +kernel
theorem dX12_of_102 : decode cX12_of 102 = .ok (.invokevirtual 230, 3) := by decide +kernel
theorem lk_RX12_230 : Cond.methodLink RX12 230 yX12_hasOf ∈ gW := gW_u tb_7 123 (by rfl) (by decide +kernel)
theorem mI_X12_hasOf : Cond.instanceMethod yX12_hasOf ∈ gW := gW_u tb_7 125 (by rfl) (by decide +kernel)
theorem mS_X12_hasOf : Cond.selects RX12 yX12_hasOf yX12_hasOf ∈ gW := gW_p (q := (yX12_hasOf, 59)) 54 (by decide +kernel)
theorem mC_X12_hasOf : Cond.code yX12_hasOf cX12_hasOf 4 (some .int) ∈ gW := gW_u tb_7 126 (by rfl) (by decide +kernel)
theorem ok_X12_hasOf : okD yX12_hasOf 1 := ⟨by decide +kernel, by decide +kernel, by decide +kernel⟩
theorem dX12_of_105 : decode cX12_of 105 = .ok (.ireturn, 1) := by decide +kernel
theorem dX12_of_106 : decode cX12_of 106 = .ok (.iconst (-1), 1) := by decide +kernel
theorem dX12_of_107 : decode cX12_of 107 = .ok (.ireturn, 1) := by decide +kernel
theorem dX12_of_13 : decode cX12_of 13 = .ok (.iconst (-1), 1) := by decide +kernel
theorem dX12_of_14 : decode cX12_of 14 = .ok (.ireturn, 1) := by decide +kernel
def yX12_time : MethodName := ⟨RX12, "time", "(III)J"⟩
abbrev cX12_time : ByteArray := prog_14_method_123_code
theorem dX12_time_0 : decode cX12_time 0 = .ok (.aload_n 0, 1) := by decide +kernel
theorem dX12_time_1 : decode cX12_time 1 = .ok (.iconst 0, 1) := by decide +kernel
theorem dX12_time_2 : decode cX12_time 2 = .ok (.putfield 156, 3) := by decide +kernel
theorem dX12_time_5 : decode cX12_time 5 = .ok (.aload_n 0, 1) := by decide +kernel
theorem dX12_time_6 : decode cX12_time 6 = .ok (.iload_n 1, 1) := by decide +kernel
theorem dX12_time_7 : decode cX12_time 7 = .ok (.invokevirtual 221, 3) := by decide +kernel
theorem dX12_time_10 : decode cX12_time 10 = .ok (.ifCond .eq 22, 3) := by decide +kernel
theorem dX12_time_32 : decode cX12_time 32 = .ok (.ldc2_w 286, 3) := by decide +kernel
theorem dX12_time_35 : decode cX12_time 35 = .ok (.lreturn, 1) := by decide +kernel
theorem dX12_time_13 : decode cX12_time 13 = .ok (.iload_n 2, 1) := by decide +kernel
theorem dX12_time_14 : decode cX12_time 14 = .ok (.invokestatic 197, 3) := by decide +kernel
theorem dX12_time_17 : decode cX12_time 17 = .ok (.ifCond .eq 15, 3) := by decide +kernel
theorem dX12_time_20 : decode cX12_time 20 = .ok (.iload_n 3, 1) := by decide +kernel
theorem dX12_time_21 : decode cX12_time 21 = .ok (.i2l, 1) := by decide +kernel
theorem dX12_time_22 : decode cX12_time 22 = .ok (.lconst 0, 1) := by decide +kernel
theorem dX12_time_23 : decode cX12_time 23 = .ok (.ldc2_w 554, 3) := by decide +kernel
theorem ct_RX12_554 : Cond.constantLong RX12 554 200 ∈ gW := gW_u tb_9 31 (by rfl) (by decide +kernel)
theorem dX12_time_26 : decode cX12_time 26 = .ok (.invokestatic 180, 3) := by decide +kernel
theorem dX12_time_29 : decode cX12_time 29 = .ok (.ifCond .ne 7, 3) := by decide +kernel
theorem dX12_time_36 : decode cX12_time 36 = .ok (.aload_n 0, 1) := by decide +kernel
theorem dX12_time_37 : decode cX12_time 37 = .ok (.iload_n 1, 1) := by decide +kernel
theorem dX12_time_38 : decode cX12_time 38 = .ok (.iload_n 2, 1) := by decide +kernel
theorem dX12_time_39 : decode cX12_time 39 = .ok (.invokevirtual 510, 3) := by decide +kernel
theorem dX12_time_42 : decode cX12_time 42 = .ok (.istore 4, 2) := by decide +kernel
theorem dX12_time_44 : decode cX12_time 44 = .ok (.iload 4, 2) := by decide +kernel
theorem dX12_time_46 : decode cX12_time 46 = .ok (.ldc_w 505, 3) := by decide +kernel
theorem dX12_time_49 : decode cX12_time 49 = .ok (.if_icmp .eq 9, 3) := by decide +kernel
theorem dX12_time_58 : decode cX12_time 58 = .ok (.iload 4, 2) := by decide +kernel
theorem dX12_time_60 : decode cX12_time 60 = .ok (.ldc_w 505, 3) := by decide +kernel
theorem dX12_time_63 : decode cX12_time 63 = .ok (.if_icmp .ne 9, 3) := by decide +kernel
theorem dX12_time_66 : decode cX12_time 66 = .ok (.ldc2_w 286, 3) := by decide +kernel
theorem dX12_time_69 : decode cX12_time 69 = .ok (.goto 4, 3) := by decide +kernel
theorem dX12_time_73 : decode cX12_time 73 = .ok (.lreturn, 1) := by decide +kernel
theorem dX12_time_52 : decode cX12_time 52 = .ok (.iload 4, 2) := by decide +kernel
theorem dX12_time_54 : decode cX12_time 54 = .ok (.iload_n 3, 1) := by decide +kernel
theorem dX12_time_55 : decode cX12_time 55 = .ok (.if_icmp .le 19, 3) := by decide +kernel
theorem dX12_time_74 : decode cX12_time 74 = .ok (.iconst 0, 1) := by decide +kernel
theorem dX12_time_75 : decode cX12_time 75 = .ok (.istore 5, 2) := by decide +kernel
theorem dX12_time_77 : decode cX12_time 77 = .ok (.iload 5, 2) := by decide +kernel
theorem dX12_time_79 : decode cX12_time 79 = .ok (.sipush 202, 3) := by decide +kernel
theorem dX12_time_82 : decode cX12_time 82 = .ok (.if_icmp .ge 17, 3) := by decide +kernel
theorem dX12_time_85 : decode cX12_time 85 = .ok (.aload_n 0, 1) := by decide +kernel
theorem dX12_time_86 : decode cX12_time 86 = .ok (.getfield 130, 3) := by decide +kernel
theorem fl_RX12_130 : Cond.fieldLink RX12 130 RX12 "parts" "[J" ∈ gW := gW_u tb_6 121 (by rfl) (by decide +kernel)
theorem dX12_time_89 : decode cX12_time 89 = .ok (.iload 5, 2) := by decide +kernel
theorem dX12_time_91 : decode cX12_time 91 = .ok (.lconst 0, 1) := by decide +kernel
theorem dX12_time_92 : decode cX12_time 92 = .ok (.lastore, 1) := by decide +kernel
theorem dX12_time_93 : decode cX12_time 93 = .ok (.iinc 5 1, 3) := by decide +kernel
theorem dX12_time_96 : decode cX12_time 96 = .ok (.goto (-19), 3) := by decide +kernel
theorem dX12_time_99 : decode cX12_time 99 = .ok (.aload_n 0, 1) := by decide +kernel
theorem dX12_time_100 : decode cX12_time 100 = .ok (.getfield 130, 3) := by decide +kernel
theorem dX12_time_103 : decode cX12_time 103 = .ok (.iconst 0, 1) := by decide +kernel
theorem dX12_time_104 : decode cX12_time 104 = .ok (.ldc2_w 556, 3) := by decide +kernel
theorem ct_RX12_556 : Cond.constantLong RX12 556 1000000000000 ∈ gW := gW_u tb_9 32 (by rfl) (by decide +kernel)
theorem dX12_time_107 : decode cX12_time 107 = .ok (.lastore, 1) := by decide +kernel
theorem dX12_time_108 : decode cX12_time 108 = .ok (.aload_n 0, 1) := by decide +kernel
theorem dX12_time_109 : decode cX12_time 109 = .ok (.getfield 13, 3) := by decide +kernel
theorem dX12_time_112 : decode cX12_time 112 = .ok (.bipush 8, 2) := by decide +kernel
theorem dX12_time_114 : decode cX12_time 114 = .ok (.iaload, 1) := by decide +kernel
theorem dX12_time_115 : decode cX12_time 115 = .ok (.istore 5, 2) := by decide +kernel
theorem dX12_time_117 : decode cX12_time 117 = .ok (.iconst 0, 1) := by decide +kernel
theorem dX12_time_118 : decode cX12_time 118 = .ok (.istore 6, 2) := by decide +kernel
theorem dX12_time_120 : decode cX12_time 120 = .ok (.iload 6, 2) := by decide +kernel
theorem dX12_time_122 : decode cX12_time 122 = .ok (.iload_n 3, 1) := by decide +kernel
theorem dX12_time_123 : decode cX12_time 123 = .ok (.if_icmp .ge 77, 3) := by decide +kernel
theorem dX12_time_126 : decode cX12_time 126 = .ok (.iload 4, 2) := by decide +kernel
theorem dX12_time_128 : decode cX12_time 128 = .ok (.iconst 1, 1) := by decide +kernel
theorem dX12_time_129 : decode cX12_time 129 = .ok (.isub, 1) := by decide +kernel
theorem dX12_time_130 : decode cX12_time 130 = .ok (.istore 7, 2) := by decide +kernel
theorem dX12_time_132 : decode cX12_time 132 = .ok (.iload 7, 2) := by decide +kernel
theorem dX12_time_134 : decode cX12_time 134 = .ok (.ifCond .lt 60, 3) := by decide +kernel
theorem dX12_time_137 : decode cX12_time 137 = .ok (.aload_n 0, 1) := by decide +kernel
theorem dX12_time_138 : decode cX12_time 138 = .ok (.getfield 130, 3) := by decide +kernel
theorem dX12_time_141 : decode cX12_time 141 = .ok (.iload 7, 2) := by decide +kernel
theorem dX12_time_143 : decode cX12_time 143 = .ok (.laload, 1) := by decide +kernel
theorem dX12_time_144 : decode cX12_time 144 = .ok (.lstore 8, 2) := by decide +kernel
theorem dX12_time_146 : decode cX12_time 146 = .ok (.aload_n 0, 1) := by decide +kernel
theorem dX12_time_147 : decode cX12_time 147 = .ok (.getfield 130, 3) := by decide +kernel
theorem dX12_time_150 : decode cX12_time 150 = .ok (.iload 7, 2) := by decide +kernel
theorem dX12_time_152 : decode cX12_time 152 = .ok (.lload 8, 2) := by decide +kernel
theorem dX12_time_154 : decode cX12_time 154 = .ok (.iload 5, 2) := by decide +kernel
theorem dX12_time_156 : decode cX12_time 156 = .ok (.i2l, 1) := by decide +kernel
theorem dX12_time_157 : decode cX12_time 157 = .ok (.lmul, 1) := by decide +kernel
theorem dX12_time_158 : decode cX12_time 158 = .ok (.ldc2_w 245, 3) := by decide +kernel
theorem dX12_time_161 : decode cX12_time 161 = .ok (.ldiv, 1) := by decide +kernel
theorem dX12_time_162 : decode cX12_time 162 = .ok (.lastore, 1) := by decide +kernel
theorem dX12_time_163 : decode cX12_time 163 = .ok (.aload_n 0, 1) := by decide +kernel
theorem dX12_time_164 : decode cX12_time 164 = .ok (.getfield 130, 3) := by decide +kernel
theorem dX12_time_167 : decode cX12_time 167 = .ok (.iload 7, 2) := by decide +kernel
theorem dX12_time_169 : decode cX12_time 169 = .ok (.iconst 1, 1) := by decide +kernel
theorem dX12_time_170 : decode cX12_time 170 = .ok (.iadd, 1) := by decide +kernel
theorem dX12_time_171 : decode cX12_time 171 = .ok (.dup2, 1) := by decide +kernel
theorem dX12_time_172 : decode cX12_time 172 = .ok (.laload, 1) := by decide +kernel
theorem dX12_time_173 : decode cX12_time 173 = .ok (.lload 8, 2) := by decide +kernel
theorem dX12_time_175 : decode cX12_time 175 = .ok (.bipush 10, 2) := by decide +kernel
theorem dX12_time_177 : decode cX12_time 177 = .ok (.iload 5, 2) := by decide +kernel
theorem dX12_time_179 : decode cX12_time 179 = .ok (.isub, 1) := by decide +kernel
theorem dX12_time_180 : decode cX12_time 180 = .ok (.i2l, 1) := by decide +kernel
theorem dX12_time_181 : decode cX12_time 181 = .ok (.lmul, 1) := by decide +kernel
theorem dX12_time_182 : decode cX12_time 182 = .ok (.ldc2_w 245, 3) := by decide +kernel
theorem dX12_time_185 : decode cX12_time 185 = .ok (.ldiv, 1) := by decide +kernel
theorem dX12_time_186 : decode cX12_time 186 = .ok (.ladd, 1) := by decide +kernel
theorem dX12_time_187 : decode cX12_time 187 = .ok (.lastore, 1) := by decide +kernel
theorem dX12_time_188 : decode cX12_time 188 = .ok (.iinc 7 (-1), 3) := by decide +kernel
theorem dX12_time_191 : decode cX12_time 191 = .ok (.goto (-59), 3) := by decide +kernel
theorem dX12_time_194 : decode cX12_time 194 = .ok (.iinc 6 1, 3) := by decide +kernel
theorem dX12_time_197 : decode cX12_time 197 = .ok (.goto (-77), 3) := by decide +kernel
theorem dX12_time_200 : decode cX12_time 200 = .ok (.aload_n 0, 1) := by decide +kernel
theorem dX12_time_201 : decode cX12_time 201 = .ok (.getfield 130, 3) := by decide +kernel
theorem dX12_time_204 : decode cX12_time 204 = .ok (.iload 4, 2) := by decide +kernel
theorem dX12_time_206 : decode cX12_time 206 = .ok (.laload, 1) := by decide +kernel
theorem dX12_time_207 : decode cX12_time 207 = .ok (.lreturn, 1) := by decide +kernel
theorem dX12_time_72 : decode cX12_time 72 = .ok (.lconst 0, 1) := by decide +kernel
def yX12_compare : MethodName := ⟨RX12, "compare", "(I)I"⟩
abbrev cX12_compare : ByteArray := prog_14_method_124_code
theorem dX12_compare_0 : decode cX12_compare 0 = .ok (.aload_n 0, 1) := by decide +kernel
theorem dX12_compare_1 : decode cX12_compare 1 = .ok (.iconst 0, 1) := by decide +kernel
theorem dX12_compare_2 : decode cX12_compare 2 = .ok (.putfield 156, 3) := by decide +kernel
theorem dX12_compare_5 : decode cX12_compare 5 = .ok (.aload_n 0, 1) := by decide +kernel
theorem dX12_compare_6 : decode cX12_compare 6 = .ok (.iload_n 1, 1) := by decide +kernel
theorem dX12_compare_7 : decode cX12_compare 7 = .ok (.invokevirtual 405, 3) := by decide +kernel
theorem dX12_compare_10 : decode cX12_compare 10 = .ok (.ifCond .ne 5, 3) := by decide +kernel
theorem dX12_compare_15 : decode cX12_compare 15 = .ok (.aload_n 0, 1) := by decide +kernel
theorem dX12_compare_16 : decode cX12_compare 16 = .ok (.getfield 13, 3) := by decide +kernel
theorem dX12_compare_19 : decode cX12_compare 19 = .ok (.bipush 6, 2) := by decide +kernel
theorem dX12_compare_21 : decode cX12_compare 21 = .ok (.iaload, 1) := by decide +kernel
theorem dX12_compare_22 : decode cX12_compare 22 = .ok (.istore_n 2, 1) := by decide +kernel
theorem dX12_compare_23 : decode cX12_compare 23 = .ok (.aload_n 0, 1) := by decide +kernel
theorem dX12_compare_24 : decode cX12_compare 24 = .ok (.getfield 13, 3) := by decide +kernel
theorem dX12_compare_27 : decode cX12_compare 27 = .ok (.bipush 6, 2) := by decide +kernel
theorem dX12_compare_29 : decode cX12_compare 29 = .ok (.iload_n 1, 1) := by decide +kernel
theorem dX12_compare_30 : decode cX12_compare 30 = .ok (.iastore, 1) := by decide +kernel
theorem dX12_compare_31 : decode cX12_compare 31 = .ok (.iconst 0, 1) := by decide +kernel
theorem dX12_compare_32 : decode cX12_compare 32 = .ok (.istore_n 3, 1) := by decide +kernel
theorem dX12_compare_33 : decode cX12_compare 33 = .ok (.iconst 0, 1) := by decide +kernel
theorem dX12_compare_34 : decode cX12_compare 34 = .ok (.istore 4, 2) := by decide +kernel
theorem dX12_compare_36 : decode cX12_compare 36 = .ok (.iload 4, 2) := by decide +kernel
theorem dX12_compare_38 : decode cX12_compare 38 = .ok (.aload_n 0, 1) := by decide +kernel
theorem dX12_compare_39 : decode cX12_compare 39 = .ok (.getfield 13, 3) := by decide +kernel
theorem dX12_compare_42 : decode cX12_compare 42 = .ok (.iconst 1, 1) := by decide +kernel
theorem dX12_compare_43 : decode cX12_compare 43 = .ok (.iaload, 1) := by decide +kernel
theorem dX12_compare_44 : decode cX12_compare 44 = .ok (.if_icmp .ge 21, 3) := by decide +kernel
theorem dX12_compare_47 : decode cX12_compare 47 = .ok (.iload_n 3, 1) := by decide +kernel
theorem dX12_compare_48 : decode cX12_compare 48 = .ok (.aload_n 0, 1) := by decide +kernel
theorem dX12_compare_49 : decode cX12_compare 49 = .ok (.iload 4, 2) := by decide +kernel
theorem dX12_compare_51 : decode cX12_compare 51 = .ok (.invokevirtual 468, 3) := by decide +kernel
theorem dX12_compare_54 : decode cX12_compare 54 = .ok (.invokestatic 527, 3) := by decide +kernel
theorem dX12_compare_57 : decode cX12_compare 57 = .ok (.iadd, 1) := by decide +kernel
theorem dX12_compare_58 : decode cX12_compare 58 = .ok (.istore_n 3, 1) := by decide +kernel
theorem dX12_compare_59 : decode cX12_compare 59 = .ok (.iinc 4 1, 3) := by decide +kernel
theorem dX12_compare_62 : decode cX12_compare 62 = .ok (.goto (-26), 3) := by decide +kernel
theorem dX12_compare_65 : decode cX12_compare 65 = .ok (.aload_n 0, 1) := by decide +kernel
theorem dX12_compare_66 : decode cX12_compare 66 = .ok (.getfield 13, 3) := by decide +kernel
theorem dX12_compare_69 : decode cX12_compare 69 = .ok (.bipush 6, 2) := by decide +kernel
theorem dX12_compare_71 : decode cX12_compare 71 = .ok (.iload_n 2, 1) := by decide +kernel
theorem dX12_compare_72 : decode cX12_compare 72 = .ok (.iastore, 1) := by decide +kernel
theorem dX12_compare_73 : decode cX12_compare 73 = .ok (.iload_n 3, 1) := by decide +kernel
theorem dX12_compare_74 : decode cX12_compare 74 = .ok (.ireturn, 1) := by decide +kernel
theorem dX12_compare_13 : decode cX12_compare 13 = .ok (.iconst (-1), 1) := by decide +kernel
theorem dX12_compare_14 : decode cX12_compare 14 = .ok (.ireturn, 1) := by decide +kernel
