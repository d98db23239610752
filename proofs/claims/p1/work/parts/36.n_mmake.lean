def yX12_next : MethodName := ⟨RX12, "next", "(I)I"⟩
abbrev cX12_next : ByteArray := prog_14_method_114_code
theorem dX12_next_0 : decode cX12_next 0 = .ok (.aload_n 0, 1) := by decide +kernel
theorem dX12_next_1 : decode cX12_next 1 = .ok (.iconst 0, 1) := by decide +kernel
theorem dX12_next_2 : decode cX12_next 2 = .ok (.putfield 156, 3) := by decide +kernel
theorem dX12_next_5 : decode cX12_next 5 = .ok (.iload_n 1, 1) := by decide +kernel
theorem dX12_next_6 : decode cX12_next 6 = .ok (.i2l, 1) := by decide +kernel
theorem dX12_next_7 : decode cX12_next 7 = .ok (.lconst 0, 1) := by decide +kernel
theorem dX12_next_8 : decode cX12_next 8 = .ok (.lconst 1, 1) := by decide +kernel
theorem dX12_next_9 : decode cX12_next 9 = .ok (.invokestatic 180, 3) := by decide +kernel
theorem dX12_next_12 : decode cX12_next 12 = .ok (.ifCond .ne 5, 3) := by decide +kernel
theorem dX12_next_17 : decode cX12_next 17 = .ok (.ldc_w 505, 3) := by decide +kernel
theorem dX12_next_20 : decode cX12_next 20 = .ok (.istore_n 2, 1) := by decide +kernel
theorem dX12_next_21 : decode cX12_next 21 = .ok (.iconst (-1), 1) := by decide +kernel
theorem dX12_next_22 : decode cX12_next 22 = .ok (.istore_n 3, 1) := by decide +kernel
theorem dX12_next_23 : decode cX12_next 23 = .ok (.iconst 0, 1) := by decide +kernel
theorem dX12_next_24 : decode cX12_next 24 = .ok (.istore 4, 2) := by decide +kernel
theorem dX12_next_26 : decode cX12_next 26 = .ok (.iload 4, 2) := by decide +kernel
theorem dX12_next_28 : decode cX12_next 28 = .ok (.bipush 8, 2) := by decide +kernel
theorem dX12_next_30 : decode cX12_next 30 = .ok (.if_icmp .ge 144, 3) := by decide +kernel
theorem dX12_next_33 : decode cX12_next 33 = .ok (.iconst 0, 1) := by decide +kernel
theorem dX12_next_34 : decode cX12_next 34 = .ok (.istore 5, 2) := by decide +kernel
theorem dX12_next_36 : decode cX12_next 36 = .ok (.iload 5, 2) := by decide +kernel
theorem dX12_next_38 : decode cX12_next 38 = .ok (.bipush 100, 2) := by decide +kernel
theorem dX12_next_40 : decode cX12_next 40 = .ok (.if_icmp .ge 17, 3) := by decide +kernel
theorem dX12_next_43 : decode cX12_next 43 = .ok (.aload_n 0, 1) := by decide +kernel
theorem dX12_next_44 : decode cX12_next 44 = .ok (.getfield 127, 3) := by decide +kernel
theorem fl_RX12_127 : Cond.fieldLink RX12 127 RX12 "alike" "[I" ∈ gW := gW_t 1320 (by decide +kernel) rfl
theorem dX12_next_47 : decode cX12_next 47 = .ok (.iload 5, 2) := by decide +kernel
theorem dX12_next_49 : decode cX12_next 49 = .ok (.iconst 0, 1) := by decide +kernel
theorem dX12_next_50 : decode cX12_next 50 = .ok (.iastore, 1) := by decide +kernel
theorem dX12_next_51 : decode cX12_next 51 = .ok (.iinc 5 1, 3) := by decide +kernel
theorem dX12_next_54 : decode cX12_next 54 = .ok (.goto (-18), 3) := by decide +kernel
theorem dX12_next_57 : decode cX12_next 57 = .ok (.iconst 0, 1) := by decide +kernel
theorem dX12_next_58 : decode cX12_next 58 = .ok (.istore 5, 2) := by decide +kernel
theorem dX12_next_60 : decode cX12_next 60 = .ok (.iconst 0, 1) := by decide +kernel
theorem dX12_next_61 : decode cX12_next 61 = .ok (.istore 6, 2) := by decide +kernel
theorem dX12_next_63 : decode cX12_next 63 = .ok (.iload 6, 2) := by decide +kernel
theorem dX12_next_65 : decode cX12_next 65 = .ok (.bipush 40, 2) := by decide +kernel
theorem dX12_next_67 : decode cX12_next 67 = .ok (.if_icmp .ge 65, 3) := by decide +kernel
theorem dX12_next_70 : decode cX12_next 70 = .ok (.aload_n 0, 1) := by decide +kernel
theorem dX12_next_71 : decode cX12_next 71 = .ok (.iload 6, 2) := by decide +kernel
theorem dX12_next_73 : decode cX12_next 73 = .ok (.invokevirtual 537, 3) := by decide +kernel
theorem dX12_next_76 : decode cX12_next 76 = .ok (.ifCond .eq 50, 3) := by decide +kernel
theorem dX12_next_79 : decode cX12_next 79 = .ok (.aload_n 0, 1) := by decide +kernel
theorem dX12_next_80 : decode cX12_next 80 = .ok (.iload 6, 2) := by decide +kernel
theorem dX12_next_82 : decode cX12_next 82 = .ok (.iload 4, 2) := by decide +kernel
theorem dX12_next_84 : decode cX12_next 84 = .ok (.invokevirtual 534, 3) := by decide +kernel
theorem lk_RX12_534 : Cond.methodLink RX12 534 yX12_soundOf ∈ gW := gW_t 1926 (by decide +kernel) rfl
theorem mI_X12_soundOf : Cond.instanceMethod yX12_soundOf ∈ gW := gW_t 1928 (by decide +kernel) rfl
theorem mS_X12_soundOf : Cond.selects RX12 yX12_soundOf yX12_soundOf ∈ gW := gW_p (q := (yX12_soundOf, 59)) 109 (by decide +kernel)
theorem mC_X12_soundOf : Cond.code yX12_soundOf cX12_soundOf 3 (some .int) ∈ gW := gW_t 1929 (by decide +kernel) rfl
theorem ok_X12_soundOf : okD yX12_soundOf 2 := ⟨by decide +kernel, by decide +kernel, by decide +kernel⟩
theorem dX12_next_87 : decode cX12_next 87 = .ok (.istore 7, 2) := by decide +kernel
theorem dX12_next_89 : decode cX12_next 89 = .ok (.aload_n 0, 1) := by decide +kernel
theorem dX12_next_90 : decode cX12_next 90 = .ok (.getfield 127, 3) := by decide +kernel
theorem dX12_next_93 : decode cX12_next 93 = .ok (.iload 7, 2) := by decide +kernel
theorem dX12_next_95 : decode cX12_next 95 = .ok (.dup2, 1) := by decide +kernel
theorem dX12_next_96 : decode cX12_next 96 = .ok (.iaload, 1) := by decide +kernel
theorem dX12_next_97 : decode cX12_next 97 = .ok (.iconst 1, 1) := by decide +kernel
theorem dX12_next_98 : decode cX12_next 98 = .ok (.iadd, 1) := by decide +kernel
theorem dX12_next_99 : decode cX12_next 99 = .ok (.iastore, 1) := by decide +kernel
theorem dX12_next_100 : decode cX12_next 100 = .ok (.aload_n 0, 1) := by decide +kernel
theorem dX12_next_101 : decode cX12_next 101 = .ok (.getfield 127, 3) := by decide +kernel
theorem dX12_next_104 : decode cX12_next 104 = .ok (.iload 7, 2) := by decide +kernel
theorem dX12_next_106 : decode cX12_next 106 = .ok (.iaload, 1) := by decide +kernel
theorem dX12_next_107 : decode cX12_next 107 = .ok (.iload 5, 2) := by decide +kernel
theorem dX12_next_109 : decode cX12_next 109 = .ok (.if_icmp .le 13, 3) := by decide +kernel
theorem dX12_next_122 : decode cX12_next 122 = .ok (.iload 5, 2) := by decide +kernel
theorem dX12_next_124 : decode cX12_next 124 = .ok (.istore 5, 2) := by decide +kernel
theorem dX12_next_126 : decode cX12_next 126 = .ok (.iinc 6 1, 3) := by decide +kernel
theorem dX12_next_129 : decode cX12_next 129 = .ok (.goto (-66), 3) := by decide +kernel
theorem dX12_next_112 : decode cX12_next 112 = .ok (.aload_n 0, 1) := by decide +kernel
theorem dX12_next_113 : decode cX12_next 113 = .ok (.getfield 127, 3) := by decide +kernel
theorem dX12_next_116 : decode cX12_next 116 = .ok (.iload 7, 2) := by decide +kernel
theorem dX12_next_118 : decode cX12_next 118 = .ok (.iaload, 1) := by decide +kernel
theorem dX12_next_119 : decode cX12_next 119 = .ok (.goto 5, 3) := by decide +kernel
theorem dX12_next_132 : decode cX12_next 132 = .ok (.iload 5, 2) := by decide +kernel
theorem dX12_next_134 : decode cX12_next 134 = .ok (.ifCond .le 14, 3) := by decide +kernel
theorem dX12_next_137 : decode cX12_next 137 = .ok (.iload 5, 2) := by decide +kernel
theorem dX12_next_139 : decode cX12_next 139 = .ok (.iload_n 2, 1) := by decide +kernel
theorem dX12_next_140 : decode cX12_next 140 = .ok (.if_icmp .ge 8, 3) := by decide +kernel
theorem dX12_next_143 : decode cX12_next 143 = .ok (.iload 4, 2) := by decide +kernel
theorem dX12_next_145 : decode cX12_next 145 = .ok (.goto 4, 3) := by decide +kernel
theorem dX12_next_149 : decode cX12_next 149 = .ok (.istore_n 3, 1) := by decide +kernel
theorem dX12_next_150 : decode cX12_next 150 = .ok (.iload 5, 2) := by decide +kernel
theorem dX12_next_152 : decode cX12_next 152 = .ok (.ifCond .le 14, 3) := by decide +kernel
theorem dX12_next_155 : decode cX12_next 155 = .ok (.iload 5, 2) := by decide +kernel
theorem dX12_next_157 : decode cX12_next 157 = .ok (.iload_n 2, 1) := by decide +kernel
theorem dX12_next_158 : decode cX12_next 158 = .ok (.if_icmp .ge 8, 3) := by decide +kernel
theorem dX12_next_161 : decode cX12_next 161 = .ok (.iload 5, 2) := by decide +kernel
theorem dX12_next_163 : decode cX12_next 163 = .ok (.goto 4, 3) := by decide +kernel
theorem dX12_next_167 : decode cX12_next 167 = .ok (.istore_n 2, 1) := by decide +kernel
theorem dX12_next_168 : decode cX12_next 168 = .ok (.iinc 4 1, 3) := by decide +kernel
theorem dX12_next_171 : decode cX12_next 171 = .ok (.goto (-145), 3) := by decide +kernel
theorem dX12_next_148 : decode cX12_next 148 = .ok (.iload_n 3, 1) := by decide +kernel
theorem dX12_next_166 : decode cX12_next 166 = .ok (.iload_n 2, 1) := by decide +kernel
theorem dX12_next_174 : decode cX12_next 174 = .ok (.iload_n 3, 1) := by decide +kernel
theorem dX12_next_175 : decode cX12_next 175 = .ok (.iconst (-1), 1) := by decide +kernel
theorem dX12_next_176 : decode cX12_next 176 = .ok (.if_icmp .eq 7, 3) := by decide +kernel
theorem dX12_next_179 : decode cX12_next 179 = .ok (.iload_n 1, 1) := by decide +kernel
theorem dX12_next_180 : decode cX12_next 180 = .ok (.ifCond .ne 7, 3) := by decide +kernel
theorem dX12_next_187 : decode cX12_next 187 = .ok (.iload_n 2, 1) := by decide +kernel
theorem dX12_next_188 : decode cX12_next 188 = .ok (.ireturn, 1) := by decide +kernel
theorem dX12_next_183 : decode cX12_next 183 = .ok (.iload_n 3, 1) := by decide +kernel
theorem dX12_next_184 : decode cX12_next 184 = .ok (.goto 4, 3) := by decide +kernel
theorem dX12_next_15 : decode cX12_next 15 = .ok (.iconst (-1), 1) := by decide +kernel
theorem dX12_next_16 : decode cX12_next 16 = .ok (.ireturn, 1) := by decide +kernel
def yX12_init : MethodName := ⟨RX12, "<init>", "()V"⟩
abbrev cX12_init : ByteArray := prog_14_method_1_code
theorem dX12_init_0 : decode cX12_init 0 = .ok (.aload_n 0, 1) := by decide +kernel
theorem dX12_init_1 : decode cX12_init 1 = .ok (.invokespecial 1, 3) := by decide +kernel
theorem lk_RX12_1 : Cond.methodLink RX12 1 objectInit ∈ gW := gW_t 1250 (by decide +kernel) rfl
theorem ob_i : Cond.instanceMethod objectInit ∈ gW := gW_t 29 (by decide +kernel) rfl
theorem ob_c : Cond.code objectInit ⟨#[0xb1]⟩ 1 none ∈ gW := gW_t 30 (by decide +kernel) rfl
theorem dX12_init_4 : decode cX12_init 4 = .ok (.aload_n 0, 1) := by decide +kernel
theorem dX12_init_5 : decode cX12_init 5 = .ok (.bipush 7, 2) := by decide +kernel
theorem dX12_init_7 : decode cX12_init 7 = .ok (.newarray .int, 2) := by decide +kernel
theorem dX12_init_9 : decode cX12_init 9 = .ok (.putfield 7, 3) := by decide +kernel
theorem dX12_init_12 : decode cX12_init 12 = .ok (.aload_n 0, 1) := by decide +kernel
theorem dX12_init_13 : decode cX12_init 13 = .ok (.sipush 5650, 3) := by decide +kernel
theorem dX12_init_16 : decode cX12_init 16 = .ok (.newarray .int, 2) := by decide +kernel
theorem dX12_init_18 : decode cX12_init 18 = .ok (.putfield 13, 3) := by decide +kernel
theorem dX12_init_21 : decode cX12_init 21 = .ok (.aload_n 0, 1) := by decide +kernel
theorem dX12_init_22 : decode cX12_init 22 = .ok (.sipush 11300, 3) := by decide +kernel
theorem dX12_init_25 : decode cX12_init 25 = .ok (.newarray .int, 2) := by decide +kernel
theorem dX12_init_27 : decode cX12_init 27 = .ok (.putfield 16, 3) := by decide +kernel
theorem dX12_init_30 : decode cX12_init 30 = .ok (.aload_n 0, 1) := by decide +kernel
theorem dX12_init_31 : decode cX12_init 31 = .ok (.iconst 2, 1) := by decide +kernel
theorem dX12_init_32 : decode cX12_init 32 = .ok (.newarray .boolean, 2) := by decide +kernel
theorem dX12_init_34 : decode cX12_init 34 = .ok (.putfield 19, 3) := by decide +kernel
theorem dX12_init_37 : decode cX12_init 37 = .ok (.aload_n 0, 1) := by decide +kernel
theorem dX12_init_38 : decode cX12_init 38 = .ok (.sipush 1908, 3) := by decide +kernel
theorem dX12_init_41 : decode cX12_init 41 = .ok (.newarray .int, 2) := by decide +kernel
theorem dX12_init_43 : decode cX12_init 43 = .ok (.putfield 23, 3) := by decide +kernel
theorem fl_RX12_23 : Cond.fieldLink RX12 23 RX12 "undos" "[I" ∈ gW := gW_t 1279 (by decide +kernel) rfl
theorem dX12_init_46 : decode cX12_init 46 = .ok (.aload_n 0, 1) := by decide +kernel
theorem dX12_init_47 : decode cX12_init 47 = .ok (.bipush 16, 2) := by decide +kernel
theorem dX12_init_49 : decode cX12_init 49 = .ok (.newarray .int, 2) := by decide +kernel
theorem dX12_init_51 : decode cX12_init 51 = .ok (.putfield 26, 3) := by decide +kernel
theorem fl_RX12_26 : Cond.fieldLink RX12 26 RX12 "sorts" "[I" ∈ gW := gW_t 1280 (by decide +kernel) rfl
theorem dX12_init_54 : decode cX12_init 54 = .ok (.aload_n 0, 1) := by decide +kernel
theorem dX12_init_55 : decode cX12_init 55 = .ok (.sipush 1696, 3) := by decide +kernel
theorem dX12_init_58 : decode cX12_init 58 = .ok (.newarray .int, 2) := by decide +kernel
theorem dX12_init_60 : decode cX12_init 60 = .ok (.putfield 29, 3) := by decide +kernel
theorem fl_RX12_29 : Cond.fieldLink RX12 29 RX12 "undosBefore" "[I" ∈ gW := gW_t 1282 (by decide +kernel) rfl
theorem dX12_init_63 : decode cX12_init 63 = .ok (.aload_n 0, 1) := by decide +kernel
theorem dX12_init_64 : decode cX12_init 64 = .ok (.bipush 16, 2) := by decide +kernel
theorem dX12_init_66 : decode cX12_init 66 = .ok (.newarray .int, 2) := by decide +kernel
theorem dX12_init_68 : decode cX12_init 68 = .ok (.putfield 32, 3) := by decide +kernel
theorem fl_RX12_32 : Cond.fieldLink RX12 32 RX12 "sortsBefore" "[I" ∈ gW := gW_t 1283 (by decide +kernel) rfl
theorem dX12_init_71 : decode cX12_init 71 = .ok (.aload_n 0, 1) := by decide +kernel
theorem dX12_init_72 : decode cX12_init 72 = .ok (.sipush 400, 3) := by decide +kernel
theorem dX12_init_75 : decode cX12_init 75 = .ok (.newarray .int, 2) := by decide +kernel
theorem dX12_init_77 : decode cX12_init 77 = .ok (.putfield 35, 3) := by decide +kernel
theorem dX12_init_80 : decode cX12_init 80 = .ok (.aload_n 0, 1) := by decide +kernel
theorem dX12_init_81 : decode cX12_init 81 = .ok (.iconst (-1), 1) := by decide +kernel
theorem dX12_init_82 : decode cX12_init 82 = .ok (.putfield 38, 3) := by decide +kernel
theorem dX12_init_85 : decode cX12_init 85 = .ok (.aload_n 0, 1) := by decide +kernel
theorem dX12_init_86 : decode cX12_init 86 = .ok (.bipush 96, 2) := by decide +kernel
theorem dX12_init_88 : decode cX12_init 88 = .ok (.newarray .int, 2) := by decide +kernel
theorem dX12_init_90 : decode cX12_init 90 = .ok (.putfield 42, 3) := by decide +kernel
theorem fl_RX12_42 : Cond.fieldLink RX12 42 RX12 "nClause" "[I" ∈ gW := gW_t 1295 (by decide +kernel) rfl
theorem dX12_init_93 : decode cX12_init 93 = .ok (.aload_n 0, 1) := by decide +kernel
theorem dX12_init_94 : decode cX12_init 94 = .ok (.sipush 400, 3) := by decide +kernel
theorem dX12_init_97 : decode cX12_init 97 = .ok (.newarray .int, 2) := by decide +kernel
theorem dX12_init_99 : decode cX12_init 99 = .ok (.putfield 45, 3) := by decide +kernel
theorem fl_RX12_45 : Cond.fieldLink RX12 45 RX12 "nOp" "[I" ∈ gW := gW_t 1297 (by decide +kernel) rfl
theorem dX12_init_102 : decode cX12_init 102 = .ok (.aload_n 0, 1) := by decide +kernel
theorem dX12_init_103 : decode cX12_init 103 = .ok (.sipush 400, 3) := by decide +kernel
theorem dX12_init_106 : decode cX12_init 106 = .ok (.newarray .int, 2) := by decide +kernel
theorem dX12_init_108 : decode cX12_init 108 = .ok (.putfield 48, 3) := by decide +kernel
theorem fl_RX12_48 : Cond.fieldLink RX12 48 RX12 "nArg" "[I" ∈ gW := gW_t 1298 (by decide +kernel) rfl
theorem dX12_init_111 : decode cX12_init 111 = .ok (.aload_n 0, 1) := by decide +kernel
theorem dX12_init_112 : decode cX12_init 112 = .ok (.sipush 400, 3) := by decide +kernel
theorem dX12_init_115 : decode cX12_init 115 = .ok (.newarray .int, 2) := by decide +kernel
theorem dX12_init_117 : decode cX12_init 117 = .ok (.putfield 51, 3) := by decide +kernel
theorem fl_RX12_51 : Cond.fieldLink RX12 51 RX12 "pile" "[I" ∈ gW := gW_t 1300 (by decide +kernel) rfl
theorem dX12_init_120 : decode cX12_init 120 = .ok (.aload_n 0, 1) := by decide +kernel
theorem dX12_init_121 : decode cX12_init 121 = .ok (.sipush 400, 3) := by decide +kernel
theorem dX12_init_124 : decode cX12_init 124 = .ok (.newarray .int, 2) := by decide +kernel
theorem dX12_init_126 : decode cX12_init 126 = .ok (.putfield 54, 3) := by decide +kernel
theorem fl_RX12_54 : Cond.fieldLink RX12 54 RX12 "pileAt" "[I" ∈ gW := gW_t 1301 (by decide +kernel) rfl
theorem dX12_init_129 : decode cX12_init 129 = .ok (.aload_n 0, 1) := by decide +kernel
theorem dX12_init_130 : decode cX12_init 130 = .ok (.bipush 9, 2) := by decide +kernel
theorem dX12_init_132 : decode cX12_init 132 = .ok (.newarray .long, 2) := by decide +kernel
theorem dX12_init_134 : decode cX12_init 134 = .ok (.dup, 1) := by decide +kernel
theorem dX12_init_135 : decode cX12_init 135 = .ok (.iconst 0, 1) := by decide +kernel
theorem dX12_init_136 : decode cX12_init 136 = .ok (.ldc2_w 57, 3) := by decide +kernel
theorem ct_RX12_57 : Cond.constantLong RX12 57 103820 ∈ gW := gW_t 1251 (by decide +kernel) rfl
theorem dX12_init_139 : decode cX12_init 139 = .ok (.lastore, 1) := by decide +kernel
theorem dX12_init_140 : decode cX12_init 140 = .ok (.dup, 1) := by decide +kernel
theorem dX12_init_141 : decode cX12_init 141 = .ok (.iconst 1, 1) := by decide +kernel
theorem dX12_init_142 : decode cX12_init 142 = .ok (.ldc2_w 59, 3) := by decide +kernel
theorem ct_RX12_59 : Cond.constantLong RX12 59 116807086 ∈ gW := gW_t 1252 (by decide +kernel) rfl
theorem dX12_init_145 : decode cX12_init 145 = .ok (.lastore, 1) := by decide +kernel
theorem dX12_init_146 : decode cX12_init 146 = .ok (.dup, 1) := by decide +kernel
theorem dX12_init_147 : decode cX12_init 147 = .ok (.iconst 2, 1) := by decide +kernel
theorem dX12_init_148 : decode cX12_init 148 = .ok (.ldc2_w 61, 3) := by decide +kernel
theorem ct_RX12_61 : Cond.constantLong RX12 61 4375176 ∈ gW := gW_t 1253 (by decide +kernel) rfl
theorem dX12_init_151 : decode cX12_init 151 = .ok (.lastore, 1) := by decide +kernel
theorem dX12_init_152 : decode cX12_init 152 = .ok (.dup, 1) := by decide +kernel
theorem dX12_init_153 : decode cX12_init 153 = .ok (.iconst 3, 1) := by decide +kernel
theorem dX12_init_154 : decode cX12_init 154 = .ok (.ldc2_w 63, 3) := by decide +kernel
theorem ct_RX12_63 : Cond.constantLong RX12 63 370116 ∈ gW := gW_t 1254 (by decide +kernel) rfl
theorem dX12_init_157 : decode cX12_init 157 = .ok (.lastore, 1) := by decide +kernel
theorem dX12_init_158 : decode cX12_init 158 = .ok (.dup, 1) := by decide +kernel
theorem dX12_init_159 : decode cX12_init 159 = .ok (.iconst 4, 1) := by decide +kernel
theorem dX12_init_160 : decode cX12_init 160 = .ok (.ldc2_w 65, 3) := by decide +kernel
theorem ct_RX12_65 : Cond.constantLong RX12 65 263748 ∈ gW := gW_t 1255 (by decide +kernel) rfl
theorem dX12_init_163 : decode cX12_init 163 = .ok (.lastore, 1) := by decide +kernel
theorem dX12_init_164 : decode cX12_init 164 = .ok (.dup, 1) := by decide +kernel
theorem dX12_init_165 : decode cX12_init 165 = .ok (.iconst 5, 1) := by decide +kernel
theorem dX12_init_166 : decode cX12_init 166 = .ok (.ldc2_w 67, 3) := by decide +kernel
theorem ct_RX12_67 : Cond.constantLong RX12 67 24170674 ∈ gW := gW_t 1256 (by decide +kernel) rfl
theorem dX12_init_169 : decode cX12_init 169 = .ok (.lastore, 1) := by decide +kernel
theorem dX12_init_170 : decode cX12_init 170 = .ok (.dup, 1) := by decide +kernel
theorem dX12_init_171 : decode cX12_init 171 = .ok (.bipush 6, 2) := by decide +kernel
theorem dX12_init_173 : decode cX12_init 173 = .ok (.ldc2_w 69, 3) := by decide +kernel
theorem ct_RX12_69 : Cond.constantLong RX12 69 20186324 ∈ gW := gW_t 1257 (by decide +kernel) rfl
theorem dX12_init_176 : decode cX12_init 176 = .ok (.lastore, 1) := by decide +kernel
theorem dX12_init_177 : decode cX12_init 177 = .ok (.dup, 1) := by decide +kernel
theorem dX12_init_178 : decode cX12_init 178 = .ok (.bipush 7, 2) := by decide +kernel
theorem dX12_init_180 : decode cX12_init 180 = .ok (.ldc2_w 71, 3) := by decide +kernel
theorem ct_RX12_71 : Cond.constantLong RX12 71 4153 ∈ gW := gW_t 1258 (by decide +kernel) rfl
theorem dX12_init_183 : decode cX12_init 183 = .ok (.lastore, 1) := by decide +kernel
theorem dX12_init_184 : decode cX12_init 184 = .ok (.dup, 1) := by decide +kernel
theorem dX12_init_185 : decode cX12_init 185 = .ok (.bipush 8, 2) := by decide +kernel
theorem dX12_init_187 : decode cX12_init 187 = .ok (.ldc2_w 73, 3) := by decide +kernel
theorem ct_RX12_73 : Cond.constantLong RX12 73 441828 ∈ gW := gW_t 1259 (by decide +kernel) rfl
theorem dX12_init_190 : decode cX12_init 190 = .ok (.lastore, 1) := by decide +kernel
theorem dX12_init_191 : decode cX12_init 191 = .ok (.putfield 75, 3) := by decide +kernel
theorem fl_RX12_75 : Cond.fieldLink RX12 75 RX12 "words" "[J" ∈ gW := gW_t 1304 (by decide +kernel) rfl
theorem dX12_init_194 : decode cX12_init 194 = .ok (.aload_n 0, 1) := by decide +kernel
theorem dX12_init_195 : decode cX12_init 195 = .ok (.bipush 6, 2) := by decide +kernel
theorem dX12_init_197 : decode cX12_init 197 = .ok (.newarray .long, 2) := by decide +kernel
theorem dX12_init_199 : decode cX12_init 199 = .ok (.dup, 1) := by decide +kernel
theorem dX12_init_200 : decode cX12_init 200 = .ok (.iconst 0, 1) := by decide +kernel
theorem dX12_init_201 : decode cX12_init 201 = .ok (.ldc2_w 71, 3) := by decide +kernel
theorem dX12_init_204 : decode cX12_init 204 = .ok (.lastore, 1) := by decide +kernel
theorem dX12_init_205 : decode cX12_init 205 = .ok (.dup, 1) := by decide +kernel
theorem dX12_init_206 : decode cX12_init 206 = .ok (.iconst 1, 1) := by decide +kernel
theorem dX12_init_207 : decode cX12_init 207 = .ok (.ldc2_w 79, 3) := by decide +kernel
theorem ct_RX12_79 : Cond.constantLong RX12 79 146885 ∈ gW := gW_t 1260 (by decide +kernel) rfl
theorem dX12_init_210 : decode cX12_init 210 = .ok (.lastore, 1) := by decide +kernel
theorem dX12_init_211 : decode cX12_init 211 = .ok (.dup, 1) := by decide +kernel
theorem dX12_init_212 : decode cX12_init 212 = .ok (.iconst 2, 1) := by decide +kernel
theorem dX12_init_213 : decode cX12_init 213 = .ok (.ldc2_w 81, 3) := by decide +kernel
theorem ct_RX12_81 : Cond.constantLong RX12 81 404362868 ∈ gW := gW_t 1261 (by decide +kernel) rfl
theorem dX12_init_216 : decode cX12_init 216 = .ok (.lastore, 1) := by decide +kernel
theorem dX12_init_217 : decode cX12_init 217 = .ok (.dup, 1) := by decide +kernel
theorem dX12_init_218 : decode cX12_init 218 = .ok (.iconst 3, 1) := by decide +kernel
theorem dX12_init_219 : decode cX12_init 219 = .ok (.ldc2_w 83, 3) := by decide +kernel
theorem ct_RX12_83 : Cond.constantLong RX12 83 52 ∈ gW := gW_t 1262 (by decide +kernel) rfl
theorem dX12_init_222 : decode cX12_init 222 = .ok (.lastore, 1) := by decide +kernel
theorem dX12_init_223 : decode cX12_init 223 = .ok (.dup, 1) := by decide +kernel
theorem dX12_init_224 : decode cX12_init 224 = .ok (.iconst 4, 1) := by decide +kernel
theorem dX12_init_225 : decode cX12_init 225 = .ok (.ldc2_w 85, 3) := by decide +kernel
theorem ct_RX12_85 : Cond.constantLong RX12 85 2855638675 ∈ gW := gW_t 1263 (by decide +kernel) rfl
theorem dX12_init_228 : decode cX12_init 228 = .ok (.lastore, 1) := by decide +kernel
theorem dX12_init_229 : decode cX12_init 229 = .ok (.dup, 1) := by decide +kernel
theorem dX12_init_230 : decode cX12_init 230 = .ok (.iconst 5, 1) := by decide +kernel
theorem dX12_init_231 : decode cX12_init 231 = .ok (.ldc2_w 59, 3) := by decide +kernel
theorem dX12_init_234 : decode cX12_init 234 = .ok (.lastore, 1) := by decide +kernel
theorem dX12_init_235 : decode cX12_init 235 = .ok (.putfield 87, 3) := by decide +kernel
theorem fl_RX12_87 : Cond.fieldLink RX12 87 RX12 "orderWords" "[J" ∈ gW := gW_t 1305 (by decide +kernel) rfl
theorem dX12_init_238 : decode cX12_init 238 = .ok (.aload_n 0, 1) := by decide +kernel
theorem dX12_init_239 : decode cX12_init 239 = .ok (.iconst 5, 1) := by decide +kernel
theorem dX12_init_240 : decode cX12_init 240 = .ok (.newarray .long, 2) := by decide +kernel
theorem dX12_init_242 : decode cX12_init 242 = .ok (.dup, 1) := by decide +kernel
theorem dX12_init_243 : decode cX12_init 243 = .ok (.iconst 0, 1) := by decide +kernel
theorem dX12_init_244 : decode cX12_init 244 = .ok (.ldc2_w 90, 3) := by decide +kernel
theorem ct_RX12_90 : Cond.constantLong RX12 90 624435 ∈ gW := gW_t 1264 (by decide +kernel) rfl
theorem dX12_init_247 : decode cX12_init 247 = .ok (.lastore, 1) := by decide +kernel
theorem dX12_init_248 : decode cX12_init 248 = .ok (.dup, 1) := by decide +kernel
theorem dX12_init_249 : decode cX12_init 249 = .ok (.iconst 1, 1) := by decide +kernel
theorem dX12_init_250 : decode cX12_init 250 = .ok (.ldc2_w 92, 3) := by decide +kernel
theorem ct_RX12_92 : Cond.constantLong RX12 92 13094067 ∈ gW := gW_t 1265 (by decide +kernel) rfl
theorem dX12_init_253 : decode cX12_init 253 = .ok (.lastore, 1) := by decide +kernel
theorem dX12_init_254 : decode cX12_init 254 = .ok (.dup, 1) := by decide +kernel
theorem dX12_init_255 : decode cX12_init 255 = .ok (.iconst 2, 1) := by decide +kernel
theorem dX12_init_256 : decode cX12_init 256 = .ok (.ldc2_w 94, 3) := by decide +kernel
theorem ct_RX12_94 : Cond.constantLong RX12 94 140531 ∈ gW := gW_t 1266 (by decide +kernel) rfl
theorem dX12_init_259 : decode cX12_init 259 = .ok (.lastore, 1) := by decide +kernel
theorem dX12_init_260 : decode cX12_init 260 = .ok (.dup, 1) := by decide +kernel
theorem dX12_init_261 : decode cX12_init 261 = .ok (.iconst 3, 1) := by decide +kernel
theorem dX12_init_262 : decode cX12_init 262 = .ok (.ldc2_w 96, 3) := by decide +kernel
theorem ct_RX12_96 : Cond.constantLong RX12 96 7657651 ∈ gW := gW_t 1267 (by decide +kernel) rfl
theorem dX12_init_265 : decode cX12_init 265 = .ok (.lastore, 1) := by decide +kernel
theorem dX12_init_266 : decode cX12_init 266 = .ok (.dup, 1) := by decide +kernel
theorem dX12_init_267 : decode cX12_init 267 = .ok (.iconst 4, 1) := by decide +kernel
theorem dX12_init_268 : decode cX12_init 268 = .ok (.ldc2_w 98, 3) := by decide +kernel
theorem ct_RX12_98 : Cond.constantLong RX12 98 538561715 ∈ gW := gW_t 1268 (by decide +kernel) rfl
theorem dX12_init_271 : decode cX12_init 271 = .ok (.lastore, 1) := by decide +kernel
theorem dX12_init_272 : decode cX12_init 272 = .ok (.putfield 100, 3) := by decide +kernel
theorem dX12_init_275 : decode cX12_init 275 = .ok (.aload_n 0, 1) := by decide +kernel
theorem dX12_init_276 : decode cX12_init 276 = .ok (.bipush 13, 2) := by decide +kernel
theorem dX12_init_278 : decode cX12_init 278 = .ok (.newarray .long, 2) := by decide +kernel
theorem dX12_init_280 : decode cX12_init 280 = .ok (.putfield 103, 3) := by decide +kernel
theorem fl_RX12_103 : Cond.fieldLink RX12 103 RX12 "set" "[J" ∈ gW := gW_t 1308 (by decide +kernel) rfl
theorem dX12_init_283 : decode cX12_init 283 = .ok (.aload_n 0, 1) := by decide +kernel
theorem dX12_init_284 : decode cX12_init 284 = .ok (.bipush 13, 2) := by decide +kernel
theorem dX12_init_286 : decode cX12_init 286 = .ok (.newarray .long, 2) := by decide +kernel
theorem dX12_init_288 : decode cX12_init 288 = .ok (.putfield 106, 3) := by decide +kernel
theorem fl_RX12_106 : Cond.fieldLink RX12 106 RX12 "now" "[J" ∈ gW := gW_t 1309 (by decide +kernel) rfl
theorem dX12_init_291 : decode cX12_init 291 = .ok (.aload_n 0, 1) := by decide +kernel
theorem dX12_init_292 : decode cX12_init 292 = .ok (.sipush 400, 3) := by decide +kernel
theorem dX12_init_295 : decode cX12_init 295 = .ok (.newarray .long, 2) := by decide +kernel
theorem dX12_init_297 : decode cX12_init 297 = .ok (.putfield 109, 3) := by decide +kernel
theorem fl_RX12_109 : Cond.fieldLink RX12 109 RX12 "rest" "[J" ∈ gW := gW_t 1310 (by decide +kernel) rfl
theorem dX12_init_300 : decode cX12_init 300 = .ok (.aload_n 0, 1) := by decide +kernel
theorem dX12_init_301 : decode cX12_init 301 = .ok (.bipush 40, 2) := by decide +kernel
theorem dX12_init_303 : decode cX12_init 303 = .ok (.newarray .int, 2) := by decide +kernel
theorem dX12_init_305 : decode cX12_init 305 = .ok (.putfield 112, 3) := by decide +kernel
theorem fl_RX12_112 : Cond.fieldLink RX12 112 RX12 "days" "[I" ∈ gW := gW_t 1314 (by decide +kernel) rfl
theorem dX12_init_308 : decode cX12_init 308 = .ok (.aload_n 0, 1) := by decide +kernel
theorem dX12_init_309 : decode cX12_init 309 = .ok (.bipush 6, 2) := by decide +kernel
theorem dX12_init_311 : decode cX12_init 311 = .ok (.newarray .int, 2) := by decide +kernel
theorem dX12_init_313 : decode cX12_init 313 = .ok (.putfield 115, 3) := by decide +kernel
theorem fl_RX12_115 : Cond.fieldLink RX12 115 RX12 "goals" "[I" ∈ gW := gW_t 1315 (by decide +kernel) rfl
theorem dX12_init_316 : decode cX12_init 316 = .ok (.aload_n 0, 1) := by decide +kernel
theorem dX12_init_317 : decode cX12_init 317 = .ok (.bipush 36, 2) := by decide +kernel
theorem dX12_init_319 : decode cX12_init 319 = .ok (.newarray .int, 2) := by decide +kernel
theorem dX12_init_321 : decode cX12_init 321 = .ok (.putfield 118, 3) := by decide +kernel
theorem fl_RX12_118 : Cond.fieldLink RX12 118 RX12 "goalDays" "[I" ∈ gW := gW_t 1316 (by decide +kernel) rfl
theorem dX12_init_324 : decode cX12_init 324 = .ok (.aload_n 0, 1) := by decide +kernel
theorem dX12_init_325 : decode cX12_init 325 = .ok (.bipush 7, 2) := by decide +kernel
theorem dX12_init_327 : decode cX12_init 327 = .ok (.newarray .int, 2) := by decide +kernel
theorem dX12_init_329 : decode cX12_init 329 = .ok (.putfield 121, 3) := by decide +kernel
theorem fl_RX12_121 : Cond.fieldLink RX12 121 RX12 "goalOf" "[I" ∈ gW := gW_t 1317 (by decide +kernel) rfl
theorem dX12_init_332 : decode cX12_init 332 = .ok (.aload_n 0, 1) := by decide +kernel
theorem dX12_init_333 : decode cX12_init 333 = .ok (.bipush 6, 2) := by decide +kernel
theorem dX12_init_335 : decode cX12_init 335 = .ok (.newarray .int, 2) := by decide +kernel
theorem dX12_init_337 : decode cX12_init 337 = .ok (.putfield 124, 3) := by decide +kernel
theorem fl_RX12_124 : Cond.fieldLink RX12 124 RX12 "bestGoals" "[I" ∈ gW := gW_t 1318 (by decide +kernel) rfl
theorem dX12_init_340 : decode cX12_init 340 = .ok (.aload_n 0, 1) := by decide +kernel
theorem dX12_init_341 : decode cX12_init 341 = .ok (.bipush 100, 2) := by decide +kernel
theorem dX12_init_343 : decode cX12_init 343 = .ok (.newarray .int, 2) := by decide +kernel
theorem dX12_init_345 : decode cX12_init 345 = .ok (.putfield 127, 3) := by decide +kernel
theorem dX12_init_348 : decode cX12_init 348 = .ok (.aload_n 0, 1) := by decide +kernel
theorem dX12_init_349 : decode cX12_init 349 = .ok (.sipush 202, 3) := by decide +kernel
theorem dX12_init_352 : decode cX12_init 352 = .ok (.newarray .long, 2) := by decide +kernel
theorem dX12_init_354 : decode cX12_init 354 = .ok (.putfield 130, 3) := by decide +kernel
theorem fl_RX12_130 : Cond.fieldLink RX12 130 RX12 "parts" "[J" ∈ gW := gW_t 1321 (by decide +kernel) rfl
theorem dX12_init_357 : decode cX12_init 357 = .ok (.aload_n 0, 1) := by decide +kernel
theorem dX12_init_358 : decode cX12_init 358 = .ok (.iconst 4, 1) := by decide +kernel
theorem dX12_init_359 : decode cX12_init 359 = .ok (.newarray .long, 2) := by decide +kernel
theorem dX12_init_361 : decode cX12_init 361 = .ok (.dup, 1) := by decide +kernel
theorem dX12_init_362 : decode cX12_init 362 = .ok (.iconst 0, 1) := by decide +kernel
theorem dX12_init_363 : decode cX12_init 363 = .ok (.ldc2_w 133, 3) := by decide +kernel
theorem ct_RX12_133 : Cond.constantLong RX12 133 4391 ∈ gW := gW_t 1269 (by decide +kernel) rfl
theorem dX12_init_366 : decode cX12_init 366 = .ok (.lastore, 1) := by decide +kernel
theorem dX12_init_367 : decode cX12_init 367 = .ok (.dup, 1) := by decide +kernel
theorem dX12_init_368 : decode cX12_init 368 = .ok (.iconst 1, 1) := by decide +kernel
theorem dX12_init_369 : decode cX12_init 369 = .ok (.ldc2_w 135, 3) := by decide +kernel
theorem ct_RX12_135 : Cond.constantLong RX12 135 263852 ∈ gW := gW_t 1270 (by decide +kernel) rfl
theorem dX12_init_372 : decode cX12_init 372 = .ok (.lastore, 1) := by decide +kernel
theorem dX12_init_373 : decode cX12_init 373 = .ok (.dup, 1) := by decide +kernel
theorem dX12_init_374 : decode cX12_init 374 = .ok (.iconst 2, 1) := by decide +kernel
theorem dX12_init_375 : decode cX12_init 375 = .ok (.ldc2_w 137, 3) := by decide +kernel
theorem ct_RX12_137 : Cond.constantLong RX12 137 284264 ∈ gW := gW_t 1271 (by decide +kernel) rfl
theorem dX12_init_378 : decode cX12_init 378 = .ok (.lastore, 1) := by decide +kernel
theorem dX12_init_379 : decode cX12_init 379 = .ok (.dup, 1) := by decide +kernel
theorem dX12_init_380 : decode cX12_init 380 = .ok (.iconst 3, 1) := by decide +kernel
theorem dX12_init_381 : decode cX12_init 381 = .ok (.ldc2_w 139, 3) := by decide +kernel
theorem ct_RX12_139 : Cond.constantLong RX12 139 12581 ∈ gW := gW_t 1272 (by decide +kernel) rfl
theorem dX12_init_384 : decode cX12_init 384 = .ok (.lastore, 1) := by decide +kernel
theorem dX12_init_385 : decode cX12_init 385 = .ok (.putfield 141, 3) := by decide +kernel
theorem dX12_init_388 : decode cX12_init 388 = .ok (.aload_n 0, 1) := by decide +kernel
theorem dX12_init_389 : decode cX12_init 389 = .ok (.bipush 96, 2) := by decide +kernel
theorem dX12_init_391 : decode cX12_init 391 = .ok (.newarray .int, 2) := by decide +kernel
theorem dX12_init_393 : decode cX12_init 393 = .ok (.putfield 144, 3) := by decide +kernel
theorem fl_RX12_144 : Cond.fieldLink RX12 144 RX12 "nOrder" "[I" ∈ gW := gW_t 1323 (by decide +kernel) rfl
theorem dX12_init_396 : decode cX12_init 396 = .ok (.aload_n 0, 1) := by decide +kernel
theorem dX12_init_397 : decode cX12_init 397 = .ok (.iconst (-1), 1) := by decide +kernel
theorem dX12_init_398 : decode cX12_init 398 = .ok (.putfield 147, 3) := by decide +kernel
theorem dX12_init_401 : decode cX12_init 401 = .ok (.aload_n 0, 1) := by decide +kernel
theorem dX12_init_402 : decode cX12_init 402 = .ok (.bipush 12, 2) := by decide +kernel
theorem dX12_init_404 : decode cX12_init 404 = .ok (.newarray .int, 2) := by decide +kernel
theorem dX12_init_406 : decode cX12_init 406 = .ok (.putfield 150, 3) := by decide +kernel
theorem fl_RX12_150 : Cond.fieldLink RX12 150 RX12 "drawn" "[I" ∈ gW := gW_t 1329 (by decide +kernel) rfl
theorem dX12_init_409 : decode cX12_init 409 = .ok (.aload_n 0, 1) := by decide +kernel
theorem dX12_init_410 : decode cX12_init 410 = .ok (.iconst (-1), 1) := by decide +kernel
theorem dX12_init_411 : decode cX12_init 411 = .ok (.putfield 153, 3) := by decide +kernel
theorem dX12_init_414 : decode cX12_init 414 = .ok (.aload_n 0, 1) := by decide +kernel
theorem dX12_init_415 : decode cX12_init 415 = .ok (.getfield 13, 3) := by decide +kernel
theorem dX12_init_418 : decode cX12_init 418 = .ok (.bipush 6, 2) := by decide +kernel
theorem dX12_init_420 : decode cX12_init 420 = .ok (.iconst (-1), 1) := by decide +kernel
theorem dX12_init_421 : decode cX12_init 421 = .ok (.iastore, 1) := by decide +kernel
theorem dX12_init_422 : decode cX12_init 422 = .ok (.aload_n 0, 1) := by decide +kernel
theorem dX12_init_423 : decode cX12_init 423 = .ok (.getfield 13, 3) := by decide +kernel
theorem dX12_init_426 : decode cX12_init 426 = .ok (.bipush 8, 2) := by decide +kernel
theorem dX12_init_428 : decode cX12_init 428 = .ok (.iconst 2, 1) := by decide +kernel
theorem dX12_init_429 : decode cX12_init 429 = .ok (.iastore, 1) := by decide +kernel
theorem dX12_init_430 : decode cX12_init 430 = .ok (.iconst 0, 1) := by decide +kernel
theorem dX12_init_431 : decode cX12_init 431 = .ok (.istore_n 1, 1) := by decide +kernel
theorem dX12_init_432 : decode cX12_init 432 = .ok (.iload_n 1, 1) := by decide +kernel
theorem dX12_init_433 : decode cX12_init 433 = .ok (.bipush 40, 2) := by decide +kernel
theorem dX12_init_435 : decode cX12_init 435 = .ok (.if_icmp .ge 20, 3) := by decide +kernel
theorem dX12_init_438 : decode cX12_init 438 = .ok (.aload_n 0, 1) := by decide +kernel
theorem dX12_init_439 : decode cX12_init 439 = .ok (.getfield 13, 3) := by decide +kernel
theorem dX12_init_442 : decode cX12_init 442 = .ok (.sipush 153, 3) := by decide +kernel
theorem dX12_init_445 : decode cX12_init 445 = .ok (.iload_n 1, 1) := by decide +kernel
theorem dX12_init_446 : decode cX12_init 446 = .ok (.iadd, 1) := by decide +kernel
theorem dX12_init_447 : decode cX12_init 447 = .ok (.iconst 3, 1) := by decide +kernel
theorem dX12_init_448 : decode cX12_init 448 = .ok (.iastore, 1) := by decide +kernel
theorem dX12_init_449 : decode cX12_init 449 = .ok (.iinc 1 1, 3) := by decide +kernel
theorem dX12_init_452 : decode cX12_init 452 = .ok (.goto (-20), 3) := by decide +kernel
theorem dX12_init_455 : decode cX12_init 455 = .ok (.return_, 1) := by decide +kernel
