def yX12_beginText : MethodName := ⟨RX12, "beginText", "(Z)V"⟩
abbrev cX12_beginText : ByteArray := prog_14_method_63_code
theorem dX12_beginText_0 : decode cX12_beginText 0 = .ok (.aload_n 0, 1) := by decide +kernel
theorem dX12_beginText_1 : decode cX12_beginText 1 = .ok (.iload_n 1, 1) := by decide +kernel
theorem dX12_beginText_2 : decode cX12_beginText 2 = .ok (.putfield 334, 3) := by decide +kernel
theorem dX12_beginText_5 : decode cX12_beginText 5 = .ok (.aload_n 0, 1) := by decide +kernel
theorem dX12_beginText_6 : decode cX12_beginText 6 = .ok (.invokevirtual 385, 3) := by decide +kernel
theorem lk_RX12_385 : Cond.methodLink RX12 385 yX12_begin ∈ gW := gW_u tb_7 203 (by rfl) (by decide +kernel)
theorem mI_X12_begin : Cond.instanceMethod yX12_begin ∈ gW := gW_u tb_7 205 (by rfl) (by decide +kernel)
theorem mS_X12_begin : Cond.selects RX12 yX12_begin yX12_begin ∈ gW := gW_p (q := (yX12_begin, 59)) 61 (by decide +kernel)
theorem mC_X12_begin : Cond.code yX12_begin cX12_begin 1 none ∈ gW := gW_u tb_7 206 (by rfl) (by decide +kernel)
theorem ok_X12_begin : okD yX12_begin 0 := ⟨by decide +kernel, by decide +kernel, by decide +kernel⟩
theorem dX12_beginText_9 : decode cX12_beginText 9 = .ok (.aload_n 0, 1) := by decide +kernel
theorem dX12_beginText_10 : decode cX12_beginText 10 = .ok (.iconst 0, 1) := by decide +kernel
theorem dX12_beginText_11 : decode cX12_beginText 11 = .ok (.putfield 388, 3) := by decide +kernel
theorem fl_RX12_388 : Cond.fieldLink RX12 388 RX12 "nClauses" "I" ∈ gW := gW_u tb_6 94 (by rfl) (by decide +kernel)
theorem dX12_beginText_14 : decode cX12_beginText 14 = .ok (.aload_n 0, 1) := by decide +kernel
theorem dX12_beginText_15 : decode cX12_beginText 15 = .ok (.iconst 0, 1) := by decide +kernel
theorem dX12_beginText_16 : decode cX12_beginText 16 = .ok (.putfield 296, 3) := by decide +kernel
theorem dX12_beginText_19 : decode cX12_beginText 19 = .ok (.aload_n 0, 1) := by decide +kernel
theorem dX12_beginText_20 : decode cX12_beginText 20 = .ok (.iconst 0, 1) := by decide +kernel
theorem dX12_beginText_21 : decode cX12_beginText 21 = .ok (.putfield 325, 3) := by decide +kernel
theorem dX12_beginText_24 : decode cX12_beginText 24 = .ok (.return_, 1) := by decide +kernel
def yX12_endText : MethodName := ⟨RX12, "endText", "()V"⟩
abbrev cX12_endText : ByteArray := prog_14_method_64_code
theorem dX12_endText_0 : decode cX12_endText 0 = .ok (.aload_n 0, 1) := by decide +kernel
theorem dX12_endText_1 : decode cX12_endText 1 = .ok (.getfield 259, 3) := by decide +kernel
theorem dX12_endText_4 : decode cX12_endText 4 = .ok (.ifCond .ne 15, 3) := by decide +kernel
theorem dX12_endText_19 : decode cX12_endText 19 = .ok (.aload_n 0, 1) := by decide +kernel
theorem dX12_endText_20 : decode cX12_endText 20 = .ok (.iconst 0, 1) := by decide +kernel
theorem dX12_endText_21 : decode cX12_endText 21 = .ok (.putfield 334, 3) := by decide +kernel
theorem dX12_endText_24 : decode cX12_endText 24 = .ok (.aload_n 0, 1) := by decide +kernel
theorem dX12_endText_25 : decode cX12_endText 25 = .ok (.iconst 0, 1) := by decide +kernel
theorem dX12_endText_26 : decode cX12_endText 26 = .ok (.putfield 247, 3) := by decide +kernel
theorem dX12_endText_29 : decode cX12_endText 29 = .ok (.return_, 1) := by decide +kernel
theorem dX12_endText_7 : decode cX12_endText 7 = .ok (.aload_n 0, 1) := by decide +kernel
theorem dX12_endText_8 : decode cX12_endText 8 = .ok (.getfield 279, 3) := by decide +kernel
theorem dX12_endText_11 : decode cX12_endText 11 = .ok (.ifCond .eq 8, 3) := by decide +kernel
theorem dX12_endText_14 : decode cX12_endText 14 = .ok (.aload_n 0, 1) := by decide +kernel
theorem dX12_endText_15 : decode cX12_endText 15 = .ok (.iconst 0, 1) := by decide +kernel
theorem dX12_endText_16 : decode cX12_endText 16 = .ok (.invokevirtual 292, 3) := by decide +kernel
def yX12_isLaw : MethodName := ⟨RX12, "isLaw", "(I)Z"⟩
abbrev cX12_isLaw : ByteArray := prog_14_method_67_code
theorem dX12_isLaw_0 : decode cX12_isLaw 0 = .ok (.iload_n 1, 1) := by decide +kernel
theorem dX12_isLaw_1 : decode cX12_isLaw 1 = .ok (.iconst (-1), 1) := by decide +kernel
theorem dX12_isLaw_2 : decode cX12_isLaw 2 = .ok (.if_icmp .eq 21, 3) := by decide +kernel
theorem dX12_isLaw_23 : decode cX12_isLaw 23 = .ok (.iconst 1, 1) := by decide +kernel
theorem dX12_isLaw_24 : decode cX12_isLaw 24 = .ok (.goto 4, 3) := by decide +kernel
theorem dX12_isLaw_28 : decode cX12_isLaw 28 = .ok (.ireturn, 1) := by decide +kernel
theorem dX12_isLaw_5 : decode cX12_isLaw 5 = .ok (.iload_n 1, 1) := by decide +kernel
theorem dX12_isLaw_6 : decode cX12_isLaw 6 = .ok (.i2l, 1) := by decide +kernel
theorem dX12_isLaw_7 : decode cX12_isLaw 7 = .ok (.lconst 0, 1) := by decide +kernel
theorem dX12_isLaw_8 : decode cX12_isLaw 8 = .ok (.aload_n 0, 1) := by decide +kernel
theorem dX12_isLaw_9 : decode cX12_isLaw 9 = .ok (.getfield 13, 3) := by decide +kernel
theorem dX12_isLaw_12 : decode cX12_isLaw 12 = .ok (.iconst 5, 1) := by decide +kernel
theorem dX12_isLaw_13 : decode cX12_isLaw 13 = .ok (.iaload, 1) := by decide +kernel
theorem dX12_isLaw_14 : decode cX12_isLaw 14 = .ok (.i2l, 1) := by decide +kernel
theorem dX12_isLaw_15 : decode cX12_isLaw 15 = .ok (.lconst 1, 1) := by decide +kernel
theorem dX12_isLaw_16 : decode cX12_isLaw 16 = .ok (.lsub, 1) := by decide +kernel
theorem dX12_isLaw_17 : decode cX12_isLaw 17 = .ok (.invokestatic 180, 3) := by decide +kernel
theorem dX12_isLaw_20 : decode cX12_isLaw 20 = .ok (.ifCond .eq 7, 3) := by decide +kernel
theorem dX12_isLaw_27 : decode cX12_isLaw 27 = .ok (.iconst 0, 1) := by decide +kernel
def yX12_force : MethodName := ⟨RX12, "force", "(I)I"⟩
abbrev cX12_force : ByteArray := prog_14_method_68_code
theorem dX12_force_0 : decode cX12_force 0 = .ok (.aload_n 0, 1) := by decide +kernel
theorem dX12_force_1 : decode cX12_force 1 = .ok (.iconst 0, 1) := by decide +kernel
theorem dX12_force_2 : decode cX12_force 2 = .ok (.putfield 156, 3) := by decide +kernel
theorem dX12_force_5 : decode cX12_force 5 = .ok (.aload_n 0, 1) := by decide +kernel
theorem dX12_force_6 : decode cX12_force 6 = .ok (.iload_n 1, 1) := by decide +kernel
theorem dX12_force_7 : decode cX12_force 7 = .ok (.invokevirtual 405, 3) := by decide +kernel
theorem lk_RX12_405 : Cond.methodLink RX12 405 yX12_isLaw ∈ gW := gW_u tb_8 77 (by rfl) (by decide +kernel)
theorem mI_X12_isLaw : Cond.instanceMethod yX12_isLaw ∈ gW := gW_u tb_8 79 (by rfl) (by decide +kernel)
theorem mS_X12_isLaw : Cond.selects RX12 yX12_isLaw yX12_isLaw ∈ gW := gW_p (q := (yX12_isLaw, 59)) 83 (by decide +kernel)
theorem mC_X12_isLaw : Cond.code yX12_isLaw cX12_isLaw 2 (some .boolean) ∈ gW := gW_u tb_8 80 (by rfl) (by decide +kernel)
theorem ok_X12_isLaw : okD yX12_isLaw 1 := ⟨by decide +kernel, by decide +kernel, by decide +kernel⟩
theorem dX12_force_10 : decode cX12_force 10 = .ok (.ifCond .eq 13, 3) := by decide +kernel
theorem dX12_force_23 : decode cX12_force 23 = .ok (.aload_n 0, 1) := by decide +kernel
theorem dX12_force_24 : decode cX12_force 24 = .ok (.bipush (-2), 2) := by decide +kernel
theorem dX12_force_26 : decode cX12_force 26 = .ok (.invokevirtual 169, 3) := by decide +kernel
theorem dX12_force_29 : decode cX12_force 29 = .ok (.ireturn, 1) := by decide +kernel
theorem dX12_force_13 : decode cX12_force 13 = .ok (.aload_n 0, 1) := by decide +kernel
theorem dX12_force_14 : decode cX12_force 14 = .ok (.bipush 6, 2) := by decide +kernel
theorem dX12_force_16 : decode cX12_force 16 = .ok (.iload_n 1, 1) := by decide +kernel
theorem dX12_force_17 : decode cX12_force 17 = .ok (.invokevirtual 208, 3) := by decide +kernel
theorem dX12_force_20 : decode cX12_force 20 = .ok (.goto 9, 3) := by decide +kernel
def yX12_reckon : MethodName := ⟨RX12, "reckon", "(IJJ)J"⟩
abbrev cX12_reckon : ByteArray := prog_14_method_69_code
theorem dX12_reckon_0 : decode cX12_reckon 0 = .ok (.iload_n 1, 1) := by decide +kernel
theorem dX12_reckon_1 : decode cX12_reckon 1 = .ok (.tableswitch 148 20 26 #[43, 48, 53, 58, 90, 122, 135], 43) := by decide +kernel
theorem dX12_reckon_44 : decode cX12_reckon 44 = .ok (.lload_n 2, 1) := by decide +kernel
theorem dX12_reckon_45 : decode cX12_reckon 45 = .ok (.lload 4, 2) := by decide +kernel
theorem dX12_reckon_47 : decode cX12_reckon 47 = .ok (.ladd, 1) := by decide +kernel
theorem dX12_reckon_48 : decode cX12_reckon 48 = .ok (.lreturn, 1) := by decide +kernel
theorem dX12_reckon_49 : decode cX12_reckon 49 = .ok (.lload_n 2, 1) := by decide +kernel
theorem dX12_reckon_50 : decode cX12_reckon 50 = .ok (.lload 4, 2) := by decide +kernel
theorem dX12_reckon_52 : decode cX12_reckon 52 = .ok (.lsub, 1) := by decide +kernel
theorem dX12_reckon_53 : decode cX12_reckon 53 = .ok (.lreturn, 1) := by decide +kernel
theorem dX12_reckon_54 : decode cX12_reckon 54 = .ok (.lload_n 2, 1) := by decide +kernel
theorem dX12_reckon_55 : decode cX12_reckon 55 = .ok (.lload 4, 2) := by decide +kernel
theorem dX12_reckon_57 : decode cX12_reckon 57 = .ok (.lmul, 1) := by decide +kernel
theorem dX12_reckon_58 : decode cX12_reckon 58 = .ok (.lreturn, 1) := by decide +kernel
theorem dX12_reckon_59 : decode cX12_reckon 59 = .ok (.aload_n 0, 1) := by decide +kernel
theorem dX12_reckon_60 : decode cX12_reckon 60 = .ok (.lload 4, 2) := by decide +kernel
theorem dX12_reckon_62 : decode cX12_reckon 62 = .ok (.lconst 0, 1) := by decide +kernel
theorem dX12_reckon_63 : decode cX12_reckon 63 = .ok (.lcmp, 1) := by decide +kernel
theorem dX12_reckon_64 : decode cX12_reckon 64 = .ok (.ifCond .ne 7, 3) := by decide +kernel
theorem dX12_reckon_71 : decode cX12_reckon 71 = .ok (.iconst 0, 1) := by decide +kernel
theorem dX12_reckon_67 : decode cX12_reckon 67 = .ok (.iconst 1, 1) := by decide +kernel
theorem dX12_reckon_68 : decode cX12_reckon 68 = .ok (.goto 4, 3) := by decide +kernel
theorem dX12_reckon_72 : decode cX12_reckon 72 = .ok (.putfield 408, 3) := by decide +kernel
theorem fl_RX12_408 : Cond.fieldLink RX12 408 RX12 "broken" "Z" ∈ gW := gW_u tb_6 111 (by rfl) (by decide +kernel)
theorem dX12_reckon_75 : decode cX12_reckon 75 = .ok (.aload_n 0, 1) := by decide +kernel
theorem dX12_reckon_76 : decode cX12_reckon 76 = .ok (.getfield 408, 3) := by decide +kernel
theorem dX12_reckon_79 : decode cX12_reckon 79 = .ok (.ifCond .eq 7, 3) := by decide +kernel
theorem dX12_reckon_86 : decode cX12_reckon 86 = .ok (.lload_n 2, 1) := by decide +kernel
theorem dX12_reckon_87 : decode cX12_reckon 87 = .ok (.lload 4, 2) := by decide +kernel
theorem dX12_reckon_89 : decode cX12_reckon 89 = .ok (.ldiv, 1) := by decide +kernel
theorem dX12_reckon_90 : decode cX12_reckon 90 = .ok (.lreturn, 1) := by decide +kernel
theorem dX12_reckon_82 : decode cX12_reckon 82 = .ok (.lconst 0, 1) := by decide +kernel
theorem dX12_reckon_83 : decode cX12_reckon 83 = .ok (.goto 7, 3) := by decide +kernel
theorem dX12_reckon_91 : decode cX12_reckon 91 = .ok (.aload_n 0, 1) := by decide +kernel
theorem dX12_reckon_92 : decode cX12_reckon 92 = .ok (.lload 4, 2) := by decide +kernel
theorem dX12_reckon_94 : decode cX12_reckon 94 = .ok (.lconst 0, 1) := by decide +kernel
theorem dX12_reckon_95 : decode cX12_reckon 95 = .ok (.lcmp, 1) := by decide +kernel
theorem dX12_reckon_96 : decode cX12_reckon 96 = .ok (.ifCond .ne 7, 3) := by decide +kernel
theorem dX12_reckon_103 : decode cX12_reckon 103 = .ok (.iconst 0, 1) := by decide +kernel
theorem dX12_reckon_99 : decode cX12_reckon 99 = .ok (.iconst 1, 1) := by decide +kernel
theorem dX12_reckon_100 : decode cX12_reckon 100 = .ok (.goto 4, 3) := by decide +kernel
theorem dX12_reckon_104 : decode cX12_reckon 104 = .ok (.putfield 408, 3) := by decide +kernel
theorem dX12_reckon_107 : decode cX12_reckon 107 = .ok (.aload_n 0, 1) := by decide +kernel
theorem dX12_reckon_108 : decode cX12_reckon 108 = .ok (.getfield 408, 3) := by decide +kernel
theorem dX12_reckon_111 : decode cX12_reckon 111 = .ok (.ifCond .eq 7, 3) := by decide +kernel
theorem dX12_reckon_118 : decode cX12_reckon 118 = .ok (.lload_n 2, 1) := by decide +kernel
theorem dX12_reckon_119 : decode cX12_reckon 119 = .ok (.lload 4, 2) := by decide +kernel
theorem dX12_reckon_121 : decode cX12_reckon 121 = .ok (.lrem, 1) := by decide +kernel
theorem dX12_reckon_122 : decode cX12_reckon 122 = .ok (.lreturn, 1) := by decide +kernel
theorem dX12_reckon_114 : decode cX12_reckon 114 = .ok (.lconst 0, 1) := by decide +kernel
theorem dX12_reckon_115 : decode cX12_reckon 115 = .ok (.goto 7, 3) := by decide +kernel
theorem dX12_reckon_123 : decode cX12_reckon 123 = .ok (.lload_n 2, 1) := by decide +kernel
theorem dX12_reckon_124 : decode cX12_reckon 124 = .ok (.lload 4, 2) := by decide +kernel
theorem dX12_reckon_126 : decode cX12_reckon 126 = .ok (.lcmp, 1) := by decide +kernel
theorem dX12_reckon_127 : decode cX12_reckon 127 = .ok (.ifCond .ge 7, 3) := by decide +kernel
theorem dX12_reckon_134 : decode cX12_reckon 134 = .ok (.lconst 0, 1) := by decide +kernel
theorem dX12_reckon_135 : decode cX12_reckon 135 = .ok (.lreturn, 1) := by decide +kernel
theorem dX12_reckon_130 : decode cX12_reckon 130 = .ok (.lconst 1, 1) := by decide +kernel
theorem dX12_reckon_131 : decode cX12_reckon 131 = .ok (.goto 4, 3) := by decide +kernel
theorem dX12_reckon_136 : decode cX12_reckon 136 = .ok (.lload_n 2, 1) := by decide +kernel
theorem dX12_reckon_137 : decode cX12_reckon 137 = .ok (.lload 4, 2) := by decide +kernel
theorem dX12_reckon_139 : decode cX12_reckon 139 = .ok (.lcmp, 1) := by decide +kernel
theorem dX12_reckon_140 : decode cX12_reckon 140 = .ok (.ifCond .le 7, 3) := by decide +kernel
theorem dX12_reckon_147 : decode cX12_reckon 147 = .ok (.lconst 0, 1) := by decide +kernel
theorem dX12_reckon_148 : decode cX12_reckon 148 = .ok (.lreturn, 1) := by decide +kernel
theorem dX12_reckon_143 : decode cX12_reckon 143 = .ok (.lconst 1, 1) := by decide +kernel
theorem dX12_reckon_144 : decode cX12_reckon 144 = .ok (.goto 4, 3) := by decide +kernel
theorem dX12_reckon_149 : decode cX12_reckon 149 = .ok (.lload_n 2, 1) := by decide +kernel
theorem dX12_reckon_150 : decode cX12_reckon 150 = .ok (.lload 4, 2) := by decide +kernel
theorem dX12_reckon_152 : decode cX12_reckon 152 = .ok (.lcmp, 1) := by decide +kernel
theorem dX12_reckon_153 : decode cX12_reckon 153 = .ok (.ifCond .ne 7, 3) := by decide +kernel
theorem dX12_reckon_160 : decode cX12_reckon 160 = .ok (.lconst 0, 1) := by decide +kernel
theorem dX12_reckon_161 : decode cX12_reckon 161 = .ok (.lreturn, 1) := by decide +kernel
theorem dX12_reckon_156 : decode cX12_reckon 156 = .ok (.lconst 1, 1) := by decide +kernel
theorem dX12_reckon_157 : decode cX12_reckon 157 = .ok (.goto 4, 3) := by decide +kernel
def yX12_reckonAll : MethodName := ⟨RX12, "reckonAll", "(II)V"⟩
abbrev cX12_reckonAll : ByteArray := prog_14_method_70_code
theorem dX12_reckonAll_0 : decode cX12_reckonAll 0 = .ok (.aload_n 0, 1) := by decide +kernel
theorem dX12_reckonAll_1 : decode cX12_reckonAll 1 = .ok (.iconst 0, 1) := by decide +kernel
theorem dX12_reckonAll_2 : decode cX12_reckonAll 2 = .ok (.putfield 408, 3) := by decide +kernel
theorem dX12_reckonAll_5 : decode cX12_reckonAll 5 = .ok (.iconst 0, 1) := by decide +kernel
theorem dX12_reckonAll_6 : decode cX12_reckonAll 6 = .ok (.istore_n 3, 1) := by decide +kernel
theorem dX12_reckonAll_7 : decode cX12_reckonAll 7 = .ok (.iload_n 1, 1) := by decide +kernel
theorem dX12_reckonAll_8 : decode cX12_reckonAll 8 = .ok (.istore 4, 2) := by decide +kernel
theorem dX12_reckonAll_10 : decode cX12_reckonAll 10 = .ok (.iload 4, 2) := by decide +kernel
theorem dX12_reckonAll_12 : decode cX12_reckonAll 12 = .ok (.iload_n 2, 1) := by decide +kernel
theorem dX12_reckonAll_13 : decode cX12_reckonAll 13 = .ok (.if_icmp .ge 372, 3) := by decide +kernel
theorem dX12_reckonAll_16 : decode cX12_reckonAll 16 = .ok (.aload_n 0, 1) := by decide +kernel
theorem dX12_reckonAll_17 : decode cX12_reckonAll 17 = .ok (.getfield 408, 3) := by decide +kernel
theorem dX12_reckonAll_20 : decode cX12_reckonAll 20 = .ok (.ifCond .ne 365, 3) := by decide +kernel
theorem dX12_reckonAll_23 : decode cX12_reckonAll 23 = .ok (.aload_n 0, 1) := by decide +kernel
theorem dX12_reckonAll_24 : decode cX12_reckonAll 24 = .ok (.getfield 334, 3) := by decide +kernel
theorem dX12_reckonAll_27 : decode cX12_reckonAll 27 = .ok (.ifCond .eq 13, 3) := by decide +kernel
theorem dX12_reckonAll_40 : decode cX12_reckonAll 40 = .ok (.aload_n 0, 1) := by decide +kernel
theorem dX12_reckonAll_41 : decode cX12_reckonAll 41 = .ok (.getfield 13, 3) := by decide +kernel
theorem dX12_reckonAll_44 : decode cX12_reckonAll 44 = .ok (.aload_n 0, 1) := by decide +kernel
theorem dX12_reckonAll_45 : decode cX12_reckonAll 45 = .ok (.getfield 411, 3) := by decide +kernel
theorem fl_RX12_411 : Cond.fieldLink RX12 411 RX12 "law" "I" ∈ gW := gW_u tb_6 107 (by rfl) (by decide +kernel)
theorem dX12_reckonAll_48 : decode cX12_reckonAll 48 = .ok (.bipush 98, 2) := by decide +kernel
theorem dX12_reckonAll_50 : decode cX12_reckonAll 50 = .ok (.iadd, 1) := by decide +kernel
theorem dX12_reckonAll_51 : decode cX12_reckonAll 51 = .ok (.iconst 2, 1) := by decide +kernel
theorem dX12_reckonAll_52 : decode cX12_reckonAll 52 = .ok (.iload 4, 2) := by decide +kernel
theorem dX12_reckonAll_54 : decode cX12_reckonAll 54 = .ok (.imul, 1) := by decide +kernel
theorem dX12_reckonAll_55 : decode cX12_reckonAll 55 = .ok (.iadd, 1) := by decide +kernel
theorem dX12_reckonAll_56 : decode cX12_reckonAll 56 = .ok (.iaload, 1) := by decide +kernel
theorem dX12_reckonAll_30 : decode cX12_reckonAll 30 = .ok (.aload_n 0, 1) := by decide +kernel
theorem dX12_reckonAll_31 : decode cX12_reckonAll 31 = .ok (.getfield 45, 3) := by decide +kernel
theorem dX12_reckonAll_34 : decode cX12_reckonAll 34 = .ok (.iload 4, 2) := by decide +kernel
theorem dX12_reckonAll_36 : decode cX12_reckonAll 36 = .ok (.iaload, 1) := by decide +kernel
theorem dX12_reckonAll_37 : decode cX12_reckonAll 37 = .ok (.goto 20, 3) := by decide +kernel
theorem dX12_reckonAll_57 : decode cX12_reckonAll 57 = .ok (.istore 5, 2) := by decide +kernel
theorem dX12_reckonAll_59 : decode cX12_reckonAll 59 = .ok (.aload_n 0, 1) := by decide +kernel
theorem dX12_reckonAll_60 : decode cX12_reckonAll 60 = .ok (.getfield 334, 3) := by decide +kernel
theorem dX12_reckonAll_63 : decode cX12_reckonAll 63 = .ok (.ifCond .eq 13, 3) := by decide +kernel
theorem dX12_reckonAll_76 : decode cX12_reckonAll 76 = .ok (.aload_n 0, 1) := by decide +kernel
theorem dX12_reckonAll_77 : decode cX12_reckonAll 77 = .ok (.getfield 13, 3) := by decide +kernel
theorem dX12_reckonAll_80 : decode cX12_reckonAll 80 = .ok (.aload_n 0, 1) := by decide +kernel
theorem dX12_reckonAll_81 : decode cX12_reckonAll 81 = .ok (.getfield 411, 3) := by decide +kernel
theorem dX12_reckonAll_84 : decode cX12_reckonAll 84 = .ok (.bipush 98, 2) := by decide +kernel
theorem dX12_reckonAll_86 : decode cX12_reckonAll 86 = .ok (.iadd, 1) := by decide +kernel
theorem dX12_reckonAll_87 : decode cX12_reckonAll 87 = .ok (.iconst 2, 1) := by decide +kernel
theorem dX12_reckonAll_88 : decode cX12_reckonAll 88 = .ok (.iload 4, 2) := by decide +kernel
theorem dX12_reckonAll_90 : decode cX12_reckonAll 90 = .ok (.imul, 1) := by decide +kernel
theorem dX12_reckonAll_91 : decode cX12_reckonAll 91 = .ok (.iadd, 1) := by decide +kernel
theorem dX12_reckonAll_92 : decode cX12_reckonAll 92 = .ok (.iconst 1, 1) := by decide +kernel
theorem dX12_reckonAll_93 : decode cX12_reckonAll 93 = .ok (.iadd, 1) := by decide +kernel
theorem dX12_reckonAll_94 : decode cX12_reckonAll 94 = .ok (.iaload, 1) := by decide +kernel
theorem dX12_reckonAll_66 : decode cX12_reckonAll 66 = .ok (.aload_n 0, 1) := by decide +kernel
theorem dX12_reckonAll_67 : decode cX12_reckonAll 67 = .ok (.getfield 48, 3) := by decide +kernel
theorem dX12_reckonAll_70 : decode cX12_reckonAll 70 = .ok (.iload 4, 2) := by decide +kernel
theorem dX12_reckonAll_72 : decode cX12_reckonAll 72 = .ok (.iaload, 1) := by decide +kernel
theorem dX12_reckonAll_73 : decode cX12_reckonAll 73 = .ok (.goto 22, 3) := by decide +kernel
theorem dX12_reckonAll_95 : decode cX12_reckonAll 95 = .ok (.istore 6, 2) := by decide +kernel
theorem dX12_reckonAll_97 : decode cX12_reckonAll 97 = .ok (.iinc 4 1, 3) := by decide +kernel
theorem dX12_reckonAll_100 : decode cX12_reckonAll 100 = .ok (.iload 5, 2) := by decide +kernel
theorem dX12_reckonAll_102 : decode cX12_reckonAll 102 = .ok (.bipush 20, 2) := by decide +kernel
theorem dX12_reckonAll_104 : decode cX12_reckonAll 104 = .ok (.if_icmp .ge 139, 3) := by decide +kernel
theorem dX12_reckonAll_243 : decode cX12_reckonAll 243 = .ok (.iload 5, 2) := by decide +kernel
theorem dX12_reckonAll_245 : decode cX12_reckonAll 245 = .ok (.bipush 28, 2) := by decide +kernel
theorem dX12_reckonAll_247 : decode cX12_reckonAll 247 = .ok (.if_icmp .ge 73, 3) := by decide +kernel
theorem dX12_reckonAll_320 : decode cX12_reckonAll 320 = .ok (.iload 5, 2) := by decide +kernel
theorem dX12_reckonAll_322 : decode cX12_reckonAll 322 = .ok (.bipush 28, 2) := by decide +kernel
theorem dX12_reckonAll_324 : decode cX12_reckonAll 324 = .ok (.if_icmp .ne 24, 3) := by decide +kernel
theorem dX12_reckonAll_348 : decode cX12_reckonAll 348 = .ok (.aload_n 0, 1) := by decide +kernel
theorem dX12_reckonAll_349 : decode cX12_reckonAll 349 = .ok (.getfield 109, 3) := by decide +kernel
theorem fl_RX12_109 : Cond.fieldLink RX12 109 RX12 "rest" "[J" ∈ gW := gW_u tb_6 110 (by rfl) (by decide +kernel)
theorem dX12_reckonAll_352 : decode cX12_reckonAll 352 = .ok (.iload_n 3, 1) := by decide +kernel
theorem dX12_reckonAll_353 : decode cX12_reckonAll 353 = .ok (.iconst 1, 1) := by decide +kernel
theorem dX12_reckonAll_354 : decode cX12_reckonAll 354 = .ok (.isub, 1) := by decide +kernel
theorem dX12_reckonAll_355 : decode cX12_reckonAll 355 = .ok (.laload, 1) := by decide +kernel
theorem dX12_reckonAll_356 : decode cX12_reckonAll 356 = .ok (.iload 5, 2) := by decide +kernel
theorem dX12_reckonAll_358 : decode cX12_reckonAll 358 = .ok (.bipush 29, 2) := by decide +kernel
theorem dX12_reckonAll_360 : decode cX12_reckonAll 360 = .ok (.if_icmp .ne 7, 3) := by decide +kernel
theorem dX12_reckonAll_367 : decode cX12_reckonAll 367 = .ok (.lconst 1, 1) := by decide +kernel
theorem dX12_reckonAll_368 : decode cX12_reckonAll 368 = .ok (.lcmp, 1) := by decide +kernel
theorem dX12_reckonAll_369 : decode cX12_reckonAll 369 = .ok (.ifCond .ne 10, 3) := by decide +kernel
theorem dX12_reckonAll_379 : decode cX12_reckonAll 379 = .ok (.iinc 3 (-1), 3) := by decide +kernel
theorem dX12_reckonAll_382 : decode cX12_reckonAll 382 = .ok (.goto (-372), 3) := by decide +kernel
theorem dX12_reckonAll_372 : decode cX12_reckonAll 372 = .ok (.iload 6, 2) := by decide +kernel
theorem dX12_reckonAll_374 : decode cX12_reckonAll 374 = .ok (.istore 4, 2) := by decide +kernel
theorem dX12_reckonAll_376 : decode cX12_reckonAll 376 = .ok (.goto 6, 3) := by decide +kernel
theorem dX12_reckonAll_363 : decode cX12_reckonAll 363 = .ok (.lconst 0, 1) := by decide +kernel
theorem dX12_reckonAll_364 : decode cX12_reckonAll 364 = .ok (.goto 4, 3) := by decide +kernel
theorem dX12_reckonAll_327 : decode cX12_reckonAll 327 = .ok (.aload_n 0, 1) := by decide +kernel
theorem dX12_reckonAll_328 : decode cX12_reckonAll 328 = .ok (.getfield 109, 3) := by decide +kernel
theorem dX12_reckonAll_331 : decode cX12_reckonAll 331 = .ok (.iload_n 3, 1) := by decide +kernel
theorem dX12_reckonAll_332 : decode cX12_reckonAll 332 = .ok (.iconst 1, 1) := by decide +kernel
theorem dX12_reckonAll_333 : decode cX12_reckonAll 333 = .ok (.isub, 1) := by decide +kernel
theorem dX12_reckonAll_334 : decode cX12_reckonAll 334 = .ok (.lconst 1, 1) := by decide +kernel
theorem dX12_reckonAll_335 : decode cX12_reckonAll 335 = .ok (.aload_n 0, 1) := by decide +kernel
theorem dX12_reckonAll_336 : decode cX12_reckonAll 336 = .ok (.getfield 109, 3) := by decide +kernel
theorem dX12_reckonAll_339 : decode cX12_reckonAll 339 = .ok (.iload_n 3, 1) := by decide +kernel
theorem dX12_reckonAll_340 : decode cX12_reckonAll 340 = .ok (.iconst 1, 1) := by decide +kernel
theorem dX12_reckonAll_341 : decode cX12_reckonAll 341 = .ok (.isub, 1) := by decide +kernel
theorem dX12_reckonAll_342 : decode cX12_reckonAll 342 = .ok (.laload, 1) := by decide +kernel
theorem dX12_reckonAll_343 : decode cX12_reckonAll 343 = .ok (.lsub, 1) := by decide +kernel
theorem dX12_reckonAll_344 : decode cX12_reckonAll 344 = .ok (.lastore, 1) := by decide +kernel
theorem dX12_reckonAll_345 : decode cX12_reckonAll 345 = .ok (.goto 37, 3) := by decide +kernel
theorem dX12_reckonAll_250 : decode cX12_reckonAll 250 = .ok (.iinc 3 (-1), 3) := by decide +kernel
theorem dX12_reckonAll_253 : decode cX12_reckonAll 253 = .ok (.aload_n 0, 1) := by decide +kernel
theorem dX12_reckonAll_254 : decode cX12_reckonAll 254 = .ok (.getfield 109, 3) := by decide +kernel
theorem dX12_reckonAll_257 : decode cX12_reckonAll 257 = .ok (.iload_n 3, 1) := by decide +kernel
theorem dX12_reckonAll_258 : decode cX12_reckonAll 258 = .ok (.iconst 1, 1) := by decide +kernel
theorem dX12_reckonAll_259 : decode cX12_reckonAll 259 = .ok (.isub, 1) := by decide +kernel
theorem dX12_reckonAll_260 : decode cX12_reckonAll 260 = .ok (.aload_n 0, 1) := by decide +kernel
theorem dX12_reckonAll_261 : decode cX12_reckonAll 261 = .ok (.iload 5, 2) := by decide +kernel
theorem dX12_reckonAll_263 : decode cX12_reckonAll 263 = .ok (.aload_n 0, 1) := by decide +kernel
theorem dX12_reckonAll_264 : decode cX12_reckonAll 264 = .ok (.getfield 109, 3) := by decide +kernel
theorem dX12_reckonAll_267 : decode cX12_reckonAll 267 = .ok (.iload_n 3, 1) := by decide +kernel
theorem dX12_reckonAll_268 : decode cX12_reckonAll 268 = .ok (.iconst 1, 1) := by decide +kernel
theorem dX12_reckonAll_269 : decode cX12_reckonAll 269 = .ok (.isub, 1) := by decide +kernel
theorem dX12_reckonAll_270 : decode cX12_reckonAll 270 = .ok (.laload, 1) := by decide +kernel
theorem dX12_reckonAll_271 : decode cX12_reckonAll 271 = .ok (.aload_n 0, 1) := by decide +kernel
theorem dX12_reckonAll_272 : decode cX12_reckonAll 272 = .ok (.getfield 109, 3) := by decide +kernel
theorem dX12_reckonAll_275 : decode cX12_reckonAll 275 = .ok (.iload_n 3, 1) := by decide +kernel
theorem dX12_reckonAll_276 : decode cX12_reckonAll 276 = .ok (.laload, 1) := by decide +kernel
theorem dX12_reckonAll_277 : decode cX12_reckonAll 277 = .ok (.invokevirtual 414, 3) := by decide +kernel
theorem lk_RX12_414 : Cond.methodLink RX12 414 yX12_reckon ∈ gW := gW_u tb_7 89 (by rfl) (by decide +kernel)
theorem mI_X12_reckon : Cond.instanceMethod yX12_reckon ∈ gW := gW_u tb_7 91 (by rfl) (by decide +kernel)
theorem mS_X12_reckon : Cond.selects RX12 yX12_reckon yX12_reckon ∈ gW := gW_p (q := (yX12_reckon, 59)) 50 (by decide +kernel)
theorem mC_X12_reckon : Cond.code yX12_reckon cX12_reckon 6 (some .long) ∈ gW := gW_u tb_7 92 (by rfl) (by decide +kernel)
theorem ok_X12_reckon : okD yX12_reckon 3 := ⟨by decide +kernel, by decide +kernel, by decide +kernel⟩
theorem dX12_reckonAll_280 : decode cX12_reckonAll 280 = .ok (.lastore, 1) := by decide +kernel
theorem dX12_reckonAll_281 : decode cX12_reckonAll 281 = .ok (.aload_n 0, 1) := by decide +kernel
theorem dX12_reckonAll_282 : decode cX12_reckonAll 282 = .ok (.aload_n 0, 1) := by decide +kernel
theorem dX12_reckonAll_283 : decode cX12_reckonAll 283 = .ok (.getfield 408, 3) := by decide +kernel
theorem dX12_reckonAll_286 : decode cX12_reckonAll 286 = .ok (.ifCond .ne 23, 3) := by decide +kernel
theorem dX12_reckonAll_309 : decode cX12_reckonAll 309 = .ok (.iconst 1, 1) := by decide +kernel
theorem dX12_reckonAll_310 : decode cX12_reckonAll 310 = .ok (.goto 4, 3) := by decide +kernel
theorem dX12_reckonAll_314 : decode cX12_reckonAll 314 = .ok (.putfield 408, 3) := by decide +kernel
theorem dX12_reckonAll_317 : decode cX12_reckonAll 317 = .ok (.goto 65, 3) := by decide +kernel
theorem dX12_reckonAll_289 : decode cX12_reckonAll 289 = .ok (.aload_n 0, 1) := by decide +kernel
theorem dX12_reckonAll_290 : decode cX12_reckonAll 290 = .ok (.getfield 109, 3) := by decide +kernel
theorem dX12_reckonAll_293 : decode cX12_reckonAll 293 = .ok (.iload_n 3, 1) := by decide +kernel
theorem dX12_reckonAll_294 : decode cX12_reckonAll 294 = .ok (.iconst 1, 1) := by decide +kernel
theorem dX12_reckonAll_295 : decode cX12_reckonAll 295 = .ok (.isub, 1) := by decide +kernel
theorem dX12_reckonAll_296 : decode cX12_reckonAll 296 = .ok (.laload, 1) := by decide +kernel
theorem dX12_reckonAll_297 : decode cX12_reckonAll 297 = .ok (.ldc2_w 418, 3) := by decide +kernel
theorem ct_RX12_418 : Cond.constantLong RX12 418 (-1000000000) ∈ gW := gW_u tb_7 93 (by rfl) (by decide +kernel)
theorem dX12_reckonAll_300 : decode cX12_reckonAll 300 = .ok (.ldc2_w 420, 3) := by decide +kernel
theorem ct_RX12_420 : Cond.constantLong RX12 420 1000000000 ∈ gW := gW_u tb_7 94 (by rfl) (by decide +kernel)
theorem dX12_reckonAll_303 : decode cX12_reckonAll 303 = .ok (.invokestatic 180, 3) := by decide +kernel
theorem dX12_reckonAll_306 : decode cX12_reckonAll 306 = .ok (.ifCond .ne 7, 3) := by decide +kernel
theorem dX12_reckonAll_313 : decode cX12_reckonAll 313 = .ok (.iconst 0, 1) := by decide +kernel
theorem dX12_reckonAll_107 : decode cX12_reckonAll 107 = .ok (.aload_n 0, 1) := by decide +kernel
theorem dX12_reckonAll_108 : decode cX12_reckonAll 108 = .ok (.getfield 109, 3) := by decide +kernel
theorem dX12_reckonAll_111 : decode cX12_reckonAll 111 = .ok (.iload_n 3, 1) := by decide +kernel
theorem dX12_reckonAll_112 : decode cX12_reckonAll 112 = .ok (.iload 5, 2) := by decide +kernel
theorem dX12_reckonAll_114 : decode cX12_reckonAll 114 = .ok (.ifCond .ne 9, 3) := by decide +kernel
theorem dX12_reckonAll_123 : decode cX12_reckonAll 123 = .ok (.aload_n 0, 1) := by decide +kernel
theorem dX12_reckonAll_124 : decode cX12_reckonAll 124 = .ok (.getfield 334, 3) := by decide +kernel
theorem dX12_reckonAll_127 : decode cX12_reckonAll 127 = .ok (.ifCond .ne 13, 3) := by decide +kernel
theorem dX12_reckonAll_140 : decode cX12_reckonAll 140 = .ok (.iload 5, 2) := by decide +kernel
theorem dX12_reckonAll_142 : decode cX12_reckonAll 142 = .ok (.iconst 4, 1) := by decide +kernel
theorem dX12_reckonAll_143 : decode cX12_reckonAll 143 = .ok (.if_icmp .ge 13, 3) := by decide +kernel
theorem dX12_reckonAll_156 : decode cX12_reckonAll 156 = .ok (.iload 5, 2) := by decide +kernel
theorem dX12_reckonAll_158 : decode cX12_reckonAll 158 = .ok (.bipush 6, 2) := by decide +kernel
theorem dX12_reckonAll_160 : decode cX12_reckonAll 160 = .ok (.if_icmp .ne 30, 3) := by decide +kernel
theorem dX12_reckonAll_190 : decode cX12_reckonAll 190 = .ok (.aload_n 0, 1) := by decide +kernel
theorem dX12_reckonAll_191 : decode cX12_reckonAll 191 = .ok (.iload 6, 2) := by decide +kernel
theorem dX12_reckonAll_193 : decode cX12_reckonAll 193 = .ok (.invokevirtual 221, 3) := by decide +kernel
theorem lk_RX12_221 : Cond.methodLink RX12 221 yX12_isShaft ∈ gW := gW_u tb_7 84 (by rfl) (by decide +kernel)
theorem mI_X12_isShaft : Cond.instanceMethod yX12_isShaft ∈ gW := gW_u tb_7 86 (by rfl) (by decide +kernel)
theorem mS_X12_isShaft : Cond.selects RX12 yX12_isShaft yX12_isShaft ∈ gW := gW_p (q := (yX12_isShaft, 59)) 49 (by decide +kernel)
theorem mC_X12_isShaft : Cond.code yX12_isShaft cX12_isShaft 2 (some .boolean) ∈ gW := gW_u tb_7 87 (by rfl) (by decide +kernel)
theorem ok_X12_isShaft : okD yX12_isShaft 1 := ⟨by decide +kernel, by decide +kernel, by decide +kernel⟩
theorem dX12_reckonAll_196 : decode cX12_reckonAll 196 = .ok (.ifCond .ne 9, 3) := by decide +kernel
theorem dX12_reckonAll_205 : decode cX12_reckonAll 205 = .ok (.iload 5, 2) := by decide +kernel
theorem dX12_reckonAll_207 : decode cX12_reckonAll 207 = .ok (.iconst 4, 1) := by decide +kernel
theorem dX12_reckonAll_208 : decode cX12_reckonAll 208 = .ok (.if_icmp .ne 17, 3) := by decide +kernel
theorem dX12_reckonAll_225 : decode cX12_reckonAll 225 = .ok (.aload_n 0, 1) := by decide +kernel
theorem dX12_reckonAll_226 : decode cX12_reckonAll 226 = .ok (.getfield 13, 3) := by decide +kernel
theorem dX12_reckonAll_229 : decode cX12_reckonAll 229 = .ok (.bipush 16, 2) := by decide +kernel
theorem dX12_reckonAll_231 : decode cX12_reckonAll 231 = .ok (.iload 6, 2) := by decide +kernel
theorem dX12_reckonAll_233 : decode cX12_reckonAll 233 = .ok (.iadd, 1) := by decide +kernel
theorem dX12_reckonAll_234 : decode cX12_reckonAll 234 = .ok (.iaload, 1) := by decide +kernel
theorem dX12_reckonAll_235 : decode cX12_reckonAll 235 = .ok (.i2l, 1) := by decide +kernel
theorem dX12_reckonAll_236 : decode cX12_reckonAll 236 = .ok (.lastore, 1) := by decide +kernel
theorem dX12_reckonAll_237 : decode cX12_reckonAll 237 = .ok (.iinc 3 1, 3) := by decide +kernel
theorem dX12_reckonAll_240 : decode cX12_reckonAll 240 = .ok (.goto 142, 3) := by decide +kernel
theorem dX12_reckonAll_211 : decode cX12_reckonAll 211 = .ok (.aload_n 0, 1) := by decide +kernel
theorem dX12_reckonAll_212 : decode cX12_reckonAll 212 = .ok (.getfield 13, 3) := by decide +kernel
theorem dX12_reckonAll_215 : decode cX12_reckonAll 215 = .ok (.bipush 10, 2) := by decide +kernel
theorem dX12_reckonAll_217 : decode cX12_reckonAll 217 = .ok (.iload 6, 2) := by decide +kernel
theorem dX12_reckonAll_219 : decode cX12_reckonAll 219 = .ok (.iadd, 1) := by decide +kernel
theorem dX12_reckonAll_220 : decode cX12_reckonAll 220 = .ok (.iaload, 1) := by decide +kernel
theorem dX12_reckonAll_221 : decode cX12_reckonAll 221 = .ok (.i2l, 1) := by decide +kernel
theorem dX12_reckonAll_222 : decode cX12_reckonAll 222 = .ok (.goto 14, 3) := by decide +kernel
theorem dX12_reckonAll_199 : decode cX12_reckonAll 199 = .ok (.ldc2_w 286, 3) := by decide +kernel
theorem dX12_reckonAll_202 : decode cX12_reckonAll 202 = .ok (.goto 34, 3) := by decide +kernel
theorem dX12_reckonAll_163 : decode cX12_reckonAll 163 = .ok (.aload_n 0, 1) := by decide +kernel
theorem dX12_reckonAll_164 : decode cX12_reckonAll 164 = .ok (.iload 6, 2) := by decide +kernel
theorem dX12_reckonAll_166 : decode cX12_reckonAll 166 = .ok (.invokevirtual 237, 3) := by decide +kernel
theorem dX12_reckonAll_169 : decode cX12_reckonAll 169 = .ok (.ifCond .eq 16, 3) := by decide +kernel
theorem dX12_reckonAll_185 : decode cX12_reckonAll 185 = .ok (.iconst (-1), 1) := by decide +kernel
theorem dX12_reckonAll_186 : decode cX12_reckonAll 186 = .ok (.i2l, 1) := by decide +kernel
theorem dX12_reckonAll_187 : decode cX12_reckonAll 187 = .ok (.goto 49, 3) := by decide +kernel
theorem dX12_reckonAll_172 : decode cX12_reckonAll 172 = .ok (.aload_n 0, 1) := by decide +kernel
theorem dX12_reckonAll_173 : decode cX12_reckonAll 173 = .ok (.getfield 13, 3) := by decide +kernel
theorem dX12_reckonAll_176 : decode cX12_reckonAll 176 = .ok (.bipush 28, 2) := by decide +kernel
theorem dX12_reckonAll_178 : decode cX12_reckonAll 178 = .ok (.iload 6, 2) := by decide +kernel
theorem dX12_reckonAll_180 : decode cX12_reckonAll 180 = .ok (.iadd, 1) := by decide +kernel
theorem dX12_reckonAll_181 : decode cX12_reckonAll 181 = .ok (.iaload, 1) := by decide +kernel
theorem dX12_reckonAll_182 : decode cX12_reckonAll 182 = .ok (.goto 4, 3) := by decide +kernel
theorem dX12_reckonAll_146 : decode cX12_reckonAll 146 = .ok (.aload_n 0, 1) := by decide +kernel
theorem dX12_reckonAll_147 : decode cX12_reckonAll 147 = .ok (.getfield 106, 3) := by decide +kernel
theorem fl_RX12_106 : Cond.fieldLink RX12 106 RX12 "now" "[J" ∈ gW := gW_u tb_6 109 (by rfl) (by decide +kernel)
theorem dX12_reckonAll_150 : decode cX12_reckonAll 150 = .ok (.iload 5, 2) := by decide +kernel
theorem dX12_reckonAll_152 : decode cX12_reckonAll 152 = .ok (.laload, 1) := by decide +kernel
theorem dX12_reckonAll_153 : decode cX12_reckonAll 153 = .ok (.goto 83, 3) := by decide +kernel
theorem dX12_reckonAll_130 : decode cX12_reckonAll 130 = .ok (.aload_n 0, 1) := by decide +kernel
theorem dX12_reckonAll_131 : decode cX12_reckonAll 131 = .ok (.getfield 103, 3) := by decide +kernel
theorem fl_RX12_103 : Cond.fieldLink RX12 103 RX12 "set" "[J" ∈ gW := gW_u tb_6 108 (by rfl) (by decide +kernel)
theorem dX12_reckonAll_134 : decode cX12_reckonAll 134 = .ok (.iload 5, 2) := by decide +kernel
theorem dX12_reckonAll_136 : decode cX12_reckonAll 136 = .ok (.laload, 1) := by decide +kernel
theorem dX12_reckonAll_137 : decode cX12_reckonAll 137 = .ok (.goto 99, 3) := by decide +kernel
theorem dX12_reckonAll_117 : decode cX12_reckonAll 117 = .ok (.iload 6, 2) := by decide +kernel
theorem dX12_reckonAll_119 : decode cX12_reckonAll 119 = .ok (.i2l, 1) := by decide +kernel
theorem dX12_reckonAll_120 : decode cX12_reckonAll 120 = .ok (.goto 116, 3) := by decide +kernel
theorem dX12_reckonAll_385 : decode cX12_reckonAll 385 = .ok (.aload_n 0, 1) := by decide +kernel
theorem dX12_reckonAll_386 : decode cX12_reckonAll 386 = .ok (.iload_n 3, 1) := by decide +kernel
theorem dX12_reckonAll_387 : decode cX12_reckonAll 387 = .ok (.ifCond .le 12, 3) := by decide +kernel
theorem dX12_reckonAll_399 : decode cX12_reckonAll 399 = .ok (.lconst 0, 1) := by decide +kernel
theorem dX12_reckonAll_400 : decode cX12_reckonAll 400 = .ok (.putfield 422, 3) := by decide +kernel
theorem fl_RX12_422 : Cond.fieldLink RX12 422 RX12 "value" "J" ∈ gW := gW_u tb_6 112 (by rfl) (by decide +kernel)
theorem dX12_reckonAll_403 : decode cX12_reckonAll 403 = .ok (.return_, 1) := by decide +kernel
theorem dX12_reckonAll_390 : decode cX12_reckonAll 390 = .ok (.aload_n 0, 1) := by decide +kernel
theorem dX12_reckonAll_391 : decode cX12_reckonAll 391 = .ok (.getfield 109, 3) := by decide +kernel
theorem dX12_reckonAll_394 : decode cX12_reckonAll 394 = .ok (.iconst 0, 1) := by decide +kernel
theorem dX12_reckonAll_395 : decode cX12_reckonAll 395 = .ok (.laload, 1) := by decide +kernel
theorem dX12_reckonAll_396 : decode cX12_reckonAll 396 = .ok (.goto 4, 3) := by decide +kernel
def yX12_isSo : MethodName := ⟨RX12, "isSo", "(I)Z"⟩
abbrev cX12_isSo : ByteArray := prog_14_method_71_code
theorem dX12_isSo_0 : decode cX12_isSo 0 = .ok (.aload_n 0, 1) := by decide +kernel
theorem dX12_isSo_1 : decode cX12_isSo 1 = .ok (.getfield 13, 3) := by decide +kernel
theorem dX12_isSo_4 : decode cX12_isSo 4 = .ok (.iload_n 1, 1) := by decide +kernel
theorem dX12_isSo_5 : decode cX12_isSo 5 = .ok (.iconst 5, 1) := by decide +kernel
theorem dX12_isSo_6 : decode cX12_isSo 6 = .ok (.iadd, 1) := by decide +kernel
theorem dX12_isSo_7 : decode cX12_isSo 7 = .ok (.iaload, 1) := by decide +kernel
theorem dX12_isSo_8 : decode cX12_isSo 8 = .ok (.aload_n 0, 1) := by decide +kernel
theorem dX12_isSo_9 : decode cX12_isSo 9 = .ok (.getfield 13, 3) := by decide +kernel
theorem dX12_isSo_12 : decode cX12_isSo 12 = .ok (.iload_n 1, 1) := by decide +kernel
theorem dX12_isSo_13 : decode cX12_isSo 13 = .ok (.bipush 6, 2) := by decide +kernel
theorem dX12_isSo_15 : decode cX12_isSo 15 = .ok (.iadd, 1) := by decide +kernel
theorem dX12_isSo_16 : decode cX12_isSo 16 = .ok (.iaload, 1) := by decide +kernel
theorem dX12_isSo_17 : decode cX12_isSo 17 = .ok (.if_icmp .ge 42, 3) := by decide +kernel
theorem dX12_isSo_20 : decode cX12_isSo 20 = .ok (.aload_n 0, 1) := by decide +kernel
theorem dX12_isSo_21 : decode cX12_isSo 21 = .ok (.aload_n 0, 1) := by decide +kernel
theorem dX12_isSo_22 : decode cX12_isSo 22 = .ok (.getfield 13, 3) := by decide +kernel
theorem dX12_isSo_25 : decode cX12_isSo 25 = .ok (.iload_n 1, 1) := by decide +kernel
theorem dX12_isSo_26 : decode cX12_isSo 26 = .ok (.iconst 5, 1) := by decide +kernel
theorem dX12_isSo_27 : decode cX12_isSo 27 = .ok (.iadd, 1) := by decide +kernel
theorem dX12_isSo_28 : decode cX12_isSo 28 = .ok (.iaload, 1) := by decide +kernel
theorem dX12_isSo_29 : decode cX12_isSo 29 = .ok (.aload_n 0, 1) := by decide +kernel
theorem dX12_isSo_30 : decode cX12_isSo 30 = .ok (.getfield 13, 3) := by decide +kernel
theorem dX12_isSo_33 : decode cX12_isSo 33 = .ok (.iload_n 1, 1) := by decide +kernel
theorem dX12_isSo_34 : decode cX12_isSo 34 = .ok (.bipush 6, 2) := by decide +kernel
theorem dX12_isSo_36 : decode cX12_isSo 36 = .ok (.iadd, 1) := by decide +kernel
theorem dX12_isSo_37 : decode cX12_isSo 37 = .ok (.iaload, 1) := by decide +kernel
theorem dX12_isSo_38 : decode cX12_isSo 38 = .ok (.invokevirtual 425, 3) := by decide +kernel
theorem lk_RX12_425 : Cond.methodLink RX12 425 yX12_reckonAll ∈ gW := gW_u tb_7 76 (by rfl) (by decide +kernel)
theorem mI_X12_reckonAll : Cond.instanceMethod yX12_reckonAll ∈ gW := gW_u tb_7 78 (by rfl) (by decide +kernel)
theorem mS_X12_reckonAll : Cond.selects RX12 yX12_reckonAll yX12_reckonAll ∈ gW := gW_p (q := (yX12_reckonAll, 59)) 47 (by decide +kernel)
theorem mC_X12_reckonAll : Cond.code yX12_reckonAll cX12_reckonAll 7 none ∈ gW := gW_u tb_7 79 (by rfl) (by decide +kernel)
theorem ok_X12_reckonAll : okD yX12_reckonAll 2 := ⟨by decide +kernel, by decide +kernel, by decide +kernel⟩
theorem dX12_isSo_41 : decode cX12_isSo 41 = .ok (.aload_n 0, 1) := by decide +kernel
theorem dX12_isSo_42 : decode cX12_isSo 42 = .ok (.getfield 408, 3) := by decide +kernel
theorem dX12_isSo_45 : decode cX12_isSo 45 = .ok (.ifCond .ne 12, 3) := by decide +kernel
theorem dX12_isSo_57 : decode cX12_isSo 57 = .ok (.iconst 0, 1) := by decide +kernel
theorem dX12_isSo_58 : decode cX12_isSo 58 = .ok (.ireturn, 1) := by decide +kernel
theorem dX12_isSo_48 : decode cX12_isSo 48 = .ok (.aload_n 0, 1) := by decide +kernel
theorem dX12_isSo_49 : decode cX12_isSo 49 = .ok (.getfield 422, 3) := by decide +kernel
theorem dX12_isSo_52 : decode cX12_isSo 52 = .ok (.lconst 0, 1) := by decide +kernel
theorem dX12_isSo_53 : decode cX12_isSo 53 = .ok (.lcmp, 1) := by decide +kernel
theorem dX12_isSo_54 : decode cX12_isSo 54 = .ok (.ifCond .ne 5, 3) := by decide +kernel
theorem dX12_isSo_59 : decode cX12_isSo 59 = .ok (.aload_n 0, 1) := by decide +kernel
theorem dX12_isSo_60 : decode cX12_isSo 60 = .ok (.getfield 13, 3) := by decide +kernel
theorem dX12_isSo_63 : decode cX12_isSo 63 = .ok (.iload_n 1, 1) := by decide +kernel
theorem dX12_isSo_64 : decode cX12_isSo 64 = .ok (.iaload, 1) := by decide +kernel
theorem dX12_isSo_65 : decode cX12_isSo 65 = .ok (.iconst 4, 1) := by decide +kernel
theorem dX12_isSo_66 : decode cX12_isSo 66 = .ok (.if_icmp .eq 44, 3) := by decide +kernel
theorem dX12_isSo_110 : decode cX12_isSo 110 = .ok (.iconst 1, 1) := by decide +kernel
theorem dX12_isSo_111 : decode cX12_isSo 111 = .ok (.ireturn, 1) := by decide +kernel
theorem dX12_isSo_69 : decode cX12_isSo 69 = .ok (.aload_n 0, 1) := by decide +kernel
theorem dX12_isSo_70 : decode cX12_isSo 70 = .ok (.aload_n 0, 1) := by decide +kernel
theorem dX12_isSo_71 : decode cX12_isSo 71 = .ok (.getfield 13, 3) := by decide +kernel
theorem dX12_isSo_74 : decode cX12_isSo 74 = .ok (.iload_n 1, 1) := by decide +kernel
theorem dX12_isSo_75 : decode cX12_isSo 75 = .ok (.iconst 3, 1) := by decide +kernel
theorem dX12_isSo_76 : decode cX12_isSo 76 = .ok (.iadd, 1) := by decide +kernel
theorem dX12_isSo_77 : decode cX12_isSo 77 = .ok (.iaload, 1) := by decide +kernel
theorem dX12_isSo_78 : decode cX12_isSo 78 = .ok (.aload_n 0, 1) := by decide +kernel
theorem dX12_isSo_79 : decode cX12_isSo 79 = .ok (.getfield 13, 3) := by decide +kernel
theorem dX12_isSo_82 : decode cX12_isSo 82 = .ok (.iload_n 1, 1) := by decide +kernel
theorem dX12_isSo_83 : decode cX12_isSo 83 = .ok (.iconst 4, 1) := by decide +kernel
theorem dX12_isSo_84 : decode cX12_isSo 84 = .ok (.iadd, 1) := by decide +kernel
theorem dX12_isSo_85 : decode cX12_isSo 85 = .ok (.iaload, 1) := by decide +kernel
theorem dX12_isSo_86 : decode cX12_isSo 86 = .ok (.invokevirtual 425, 3) := by decide +kernel
theorem dX12_isSo_89 : decode cX12_isSo 89 = .ok (.aload_n 0, 1) := by decide +kernel
theorem dX12_isSo_90 : decode cX12_isSo 90 = .ok (.aload_n 0, 1) := by decide +kernel
theorem dX12_isSo_91 : decode cX12_isSo 91 = .ok (.getfield 422, 3) := by decide +kernel
theorem dX12_isSo_94 : decode cX12_isSo 94 = .ok (.putfield 428, 3) := by decide +kernel
theorem fl_RX12_428 : Cond.fieldLink RX12 428 RX12 "sum" "J" ∈ gW := gW_u tb_6 113 (by rfl) (by decide +kernel)
theorem dX12_isSo_97 : decode cX12_isSo 97 = .ok (.aload_n 0, 1) := by decide +kernel
theorem dX12_isSo_98 : decode cX12_isSo 98 = .ok (.getfield 408, 3) := by decide +kernel
theorem dX12_isSo_101 : decode cX12_isSo 101 = .ok (.ifCond .ne 7, 3) := by decide +kernel
theorem dX12_isSo_108 : decode cX12_isSo 108 = .ok (.iconst 0, 1) := by decide +kernel
theorem dX12_isSo_109 : decode cX12_isSo 109 = .ok (.ireturn, 1) := by decide +kernel
theorem dX12_isSo_104 : decode cX12_isSo 104 = .ok (.iconst 1, 1) := by decide +kernel
theorem dX12_isSo_105 : decode cX12_isSo 105 = .ok (.goto 4, 3) := by decide +kernel
