def yX12_mud : MethodName := ⟨RX12, "mud", "()I"⟩
abbrev cX12_mud : ByteArray := prog_14_method_35_code
theorem dX12_mud_0 : decode cX12_mud 0 = .ok (.aload_n 0, 1) := by decide +kernel
theorem dX12_mud_1 : decode cX12_mud 1 = .ok (.iconst 0, 1) := by decide +kernel
theorem dX12_mud_2 : decode cX12_mud 2 = .ok (.putfield 156, 3) := by decide +kernel
theorem dX12_mud_5 : decode cX12_mud 5 = .ok (.aload_n 0, 1) := by decide +kernel
theorem dX12_mud_6 : decode cX12_mud 6 = .ok (.getfield 250, 3) := by decide +kernel
theorem fl_RX12_250 : Cond.fieldLink RX12 250 RX12 "mud" "I" ∈ gW := gW_u tb_6 84 (by rfl) (by decide +kernel)
theorem dX12_mud_9 : decode cX12_mud 9 = .ok (.ireturn, 1) := by decide +kernel
def yX12_four : MethodName := ⟨RX12, "four", "(I)V"⟩
abbrev cX12_four : ByteArray := prog_14_method_36_code
theorem dX12_four_0 : decode cX12_four 0 = .ok (.bipush 24, 2) := by decide +kernel
theorem dX12_four_2 : decode cX12_four 2 = .ok (.istore_n 2, 1) := by decide +kernel
theorem dX12_four_3 : decode cX12_four 3 = .ok (.iload_n 2, 1) := by decide +kernel
theorem dX12_four_4 : decode cX12_four 4 = .ok (.ifCond .lt 35, 3) := by decide +kernel
theorem dX12_four_7 : decode cX12_four 7 = .ok (.aload_n 0, 1) := by decide +kernel
theorem dX12_four_8 : decode cX12_four 8 = .ok (.getfield 35, 3) := by decide +kernel
theorem fl_RX12_35 : Cond.fieldLink RX12 35 RX12 "tape" "[I" ∈ gW := gW_u tb_6 85 (by rfl) (by decide +kernel)
theorem dX12_four_11 : decode cX12_four 11 = .ok (.aload_n 0, 1) := by decide +kernel
theorem dX12_four_12 : decode cX12_four 12 = .ok (.getfield 247, 3) := by decide +kernel
theorem fl_RX12_247 : Cond.fieldLink RX12 247 RX12 "taped" "I" ∈ gW := gW_u tb_6 86 (by rfl) (by decide +kernel)
theorem dX12_four_15 : decode cX12_four 15 = .ok (.iload_n 1, 1) := by decide +kernel
theorem dX12_four_16 : decode cX12_four 16 = .ok (.iload_n 2, 1) := by decide +kernel
theorem dX12_four_17 : decode cX12_four 17 = .ok (.ishr, 1) := by decide +kernel
theorem dX12_four_18 : decode cX12_four 18 = .ok (.sipush 255, 3) := by decide +kernel
theorem dX12_four_21 : decode cX12_four 21 = .ok (.iand, 1) := by decide +kernel
theorem dX12_four_22 : decode cX12_four 22 = .ok (.iastore, 1) := by decide +kernel
theorem dX12_four_23 : decode cX12_four 23 = .ok (.aload_n 0, 1) := by decide +kernel
theorem dX12_four_24 : decode cX12_four 24 = .ok (.dup, 1) := by decide +kernel
theorem dX12_four_25 : decode cX12_four 25 = .ok (.getfield 247, 3) := by decide +kernel
theorem dX12_four_28 : decode cX12_four 28 = .ok (.iconst 1, 1) := by decide +kernel
theorem dX12_four_29 : decode cX12_four 29 = .ok (.iadd, 1) := by decide +kernel
theorem dX12_four_30 : decode cX12_four 30 = .ok (.putfield 247, 3) := by decide +kernel
theorem dX12_four_33 : decode cX12_four 33 = .ok (.iinc 2 (-8), 3) := by decide +kernel
theorem dX12_four_36 : decode cX12_four 36 = .ok (.goto (-33), 3) := by decide +kernel
theorem dX12_four_39 : decode cX12_four 39 = .ok (.return_, 1) := by decide +kernel
def yX12_feed : MethodName := ⟨RX12, "feed", "(IIIII)I"⟩
abbrev cX12_feed : ByteArray := prog_14_method_37_code
theorem dX12_feed_0 : decode cX12_feed 0 = .ok (.aload_n 0, 1) := by decide +kernel
theorem dX12_feed_1 : decode cX12_feed 1 = .ok (.iconst 0, 1) := by decide +kernel
theorem dX12_feed_2 : decode cX12_feed 2 = .ok (.putfield 156, 3) := by decide +kernel
theorem dX12_feed_5 : decode cX12_feed 5 = .ok (.aload_n 0, 1) := by decide +kernel
theorem dX12_feed_6 : decode cX12_feed 6 = .ok (.getfield 247, 3) := by decide +kernel
theorem dX12_feed_9 : decode cX12_feed 9 = .ok (.bipush 20, 2) := by decide +kernel
theorem dX12_feed_11 : decode cX12_feed 11 = .ok (.iadd, 1) := by decide +kernel
theorem dX12_feed_12 : decode cX12_feed 12 = .ok (.sipush 400, 3) := by decide +kernel
theorem dX12_feed_15 : decode cX12_feed 15 = .ok (.if_icmp .le 5, 3) := by decide +kernel
theorem dX12_feed_20 : decode cX12_feed 20 = .ok (.aload_n 0, 1) := by decide +kernel
theorem dX12_feed_21 : decode cX12_feed 21 = .ok (.iload_n 1, 1) := by decide +kernel
theorem dX12_feed_22 : decode cX12_feed 22 = .ok (.invokevirtual 253, 3) := by decide +kernel
theorem lk_RX12_253 : Cond.methodLink RX12 253 yX12_four ∈ gW := gW_u tb_7 183 (by rfl) (by decide +kernel)
theorem mI_X12_four : Cond.instanceMethod yX12_four ∈ gW := gW_u tb_7 185 (by rfl) (by decide +kernel)
theorem mS_X12_four : Cond.selects RX12 yX12_four yX12_four ∈ gW := gW_p (q := (yX12_four, 59)) 59 (by decide +kernel)
theorem mC_X12_four : Cond.code yX12_four cX12_four 3 none ∈ gW := gW_u tb_7 186 (by rfl) (by decide +kernel)
theorem ok_X12_four : okD yX12_four 1 := ⟨by decide +kernel, by decide +kernel, by decide +kernel⟩
theorem dX12_feed_25 : decode cX12_feed 25 = .ok (.aload_n 0, 1) := by decide +kernel
theorem dX12_feed_26 : decode cX12_feed 26 = .ok (.iload_n 2, 1) := by decide +kernel
theorem dX12_feed_27 : decode cX12_feed 27 = .ok (.invokevirtual 253, 3) := by decide +kernel
theorem dX12_feed_30 : decode cX12_feed 30 = .ok (.aload_n 0, 1) := by decide +kernel
theorem dX12_feed_31 : decode cX12_feed 31 = .ok (.iload_n 3, 1) := by decide +kernel
theorem dX12_feed_32 : decode cX12_feed 32 = .ok (.invokevirtual 253, 3) := by decide +kernel
theorem dX12_feed_35 : decode cX12_feed 35 = .ok (.aload_n 0, 1) := by decide +kernel
theorem dX12_feed_36 : decode cX12_feed 36 = .ok (.iload 4, 2) := by decide +kernel
theorem dX12_feed_38 : decode cX12_feed 38 = .ok (.invokevirtual 253, 3) := by decide +kernel
theorem dX12_feed_41 : decode cX12_feed 41 = .ok (.aload_n 0, 1) := by decide +kernel
theorem dX12_feed_42 : decode cX12_feed 42 = .ok (.iload 5, 2) := by decide +kernel
theorem dX12_feed_44 : decode cX12_feed 44 = .ok (.invokevirtual 253, 3) := by decide +kernel
theorem dX12_feed_47 : decode cX12_feed 47 = .ok (.aload_n 0, 1) := by decide +kernel
theorem dX12_feed_48 : decode cX12_feed 48 = .ok (.getfield 247, 3) := by decide +kernel
theorem dX12_feed_51 : decode cX12_feed 51 = .ok (.ireturn, 1) := by decide +kernel
theorem dX12_feed_18 : decode cX12_feed 18 = .ok (.iconst (-1), 1) := by decide +kernel
theorem dX12_feed_19 : decode cX12_feed 19 = .ok (.ireturn, 1) := by decide +kernel
def yX12_end : MethodName := ⟨RX12, "end", "(I)I"⟩
abbrev cX12_end : ByteArray := prog_14_method_38_code
theorem dX12_end_0 : decode cX12_end 0 = .ok (.aload_n 0, 1) := by decide +kernel
theorem dX12_end_1 : decode cX12_end 1 = .ok (.iconst 0, 1) := by decide +kernel
theorem dX12_end_2 : decode cX12_end 2 = .ok (.putfield 156, 3) := by decide +kernel
theorem dX12_end_5 : decode cX12_end 5 = .ok (.iload_n 1, 1) := by decide +kernel
theorem dX12_end_6 : decode cX12_end 6 = .ok (.ifCond .lt 11, 3) := by decide +kernel
theorem dX12_end_17 : decode cX12_end 17 = .ok (.iconst (-1), 1) := by decide +kernel
theorem dX12_end_18 : decode cX12_end 18 = .ok (.ireturn, 1) := by decide +kernel
theorem dX12_end_9 : decode cX12_end 9 = .ok (.iload_n 1, 1) := by decide +kernel
theorem dX12_end_10 : decode cX12_end 10 = .ok (.aload_n 0, 1) := by decide +kernel
theorem dX12_end_11 : decode cX12_end 11 = .ok (.getfield 247, 3) := by decide +kernel
theorem dX12_end_14 : decode cX12_end 14 = .ok (.if_icmp .le 5, 3) := by decide +kernel
theorem dX12_end_19 : decode cX12_end 19 = .ok (.aload_n 0, 1) := by decide +kernel
theorem dX12_end_20 : decode cX12_end 20 = .ok (.iload_n 1, 1) := by decide +kernel
theorem dX12_end_21 : decode cX12_end 21 = .ok (.putfield 247, 3) := by decide +kernel
theorem dX12_end_24 : decode cX12_end 24 = .ok (.iload_n 1, 1) := by decide +kernel
theorem dX12_end_25 : decode cX12_end 25 = .ok (.ireturn, 1) := by decide +kernel
def yX12_isSmall : MethodName := ⟨RX12, "isSmall", "(I)Z"⟩
abbrev cX12_isSmall : ByteArray := prog_14_method_39_code
theorem dX12_isSmall_0 : decode cX12_isSmall 0 = .ok (.iload_n 0, 1) := by decide +kernel
theorem dX12_isSmall_1 : decode cX12_isSmall 1 = .ok (.bipush 97, 2) := by decide +kernel
theorem dX12_isSmall_3 : decode cX12_isSmall 3 = .ok (.if_icmp .lt 13, 3) := by decide +kernel
theorem dX12_isSmall_16 : decode cX12_isSmall 16 = .ok (.iconst 0, 1) := by decide +kernel
theorem dX12_isSmall_17 : decode cX12_isSmall 17 = .ok (.ireturn, 1) := by decide +kernel
theorem dX12_isSmall_6 : decode cX12_isSmall 6 = .ok (.iload_n 0, 1) := by decide +kernel
theorem dX12_isSmall_7 : decode cX12_isSmall 7 = .ok (.bipush 122, 2) := by decide +kernel
theorem dX12_isSmall_9 : decode cX12_isSmall 9 = .ok (.if_icmp .gt 7, 3) := by decide +kernel
theorem dX12_isSmall_12 : decode cX12_isSmall 12 = .ok (.iconst 1, 1) := by decide +kernel
theorem dX12_isSmall_13 : decode cX12_isSmall 13 = .ok (.goto 4, 3) := by decide +kernel
def yX12_isDigit : MethodName := ⟨RX12, "isDigit", "(I)Z"⟩
abbrev cX12_isDigit : ByteArray := prog_14_method_40_code
theorem dX12_isDigit_0 : decode cX12_isDigit 0 = .ok (.iload_n 0, 1) := by decide +kernel
theorem dX12_isDigit_1 : decode cX12_isDigit 1 = .ok (.bipush 48, 2) := by decide +kernel
theorem dX12_isDigit_3 : decode cX12_isDigit 3 = .ok (.if_icmp .lt 13, 3) := by decide +kernel
theorem dX12_isDigit_16 : decode cX12_isDigit 16 = .ok (.iconst 0, 1) := by decide +kernel
theorem dX12_isDigit_17 : decode cX12_isDigit 17 = .ok (.ireturn, 1) := by decide +kernel
theorem dX12_isDigit_6 : decode cX12_isDigit 6 = .ok (.iload_n 0, 1) := by decide +kernel
theorem dX12_isDigit_7 : decode cX12_isDigit 7 = .ok (.bipush 57, 2) := by decide +kernel
theorem dX12_isDigit_9 : decode cX12_isDigit 9 = .ok (.if_icmp .gt 7, 3) := by decide +kernel
theorem dX12_isDigit_12 : decode cX12_isDigit 12 = .ok (.iconst 1, 1) := by decide +kernel
theorem dX12_isDigit_13 : decode cX12_isDigit 13 = .ok (.goto 4, 3) := by decide +kernel
def yX12_nextToken : MethodName := ⟨RX12, "nextToken", "()V"⟩
abbrev cX12_nextToken : ByteArray := prog_14_method_42_code
theorem dX12_nextToken_0 : decode cX12_nextToken 0 = .ok (.aload_n 0, 1) := by decide +kernel
theorem dX12_nextToken_1 : decode cX12_nextToken 1 = .ok (.aload_n 0, 1) := by decide +kernel
theorem dX12_nextToken_2 : decode cX12_nextToken 2 = .ok (.getfield 256, 3) := by decide +kernel
theorem fl_RX12_256 : Cond.fieldLink RX12 256 RX12 "to" "I" ∈ gW := gW_u tb_6 88 (by rfl) (by decide +kernel)
theorem dX12_nextToken_5 : decode cX12_nextToken 5 = .ok (.putfield 266, 3) := by decide +kernel
theorem fl_RX12_266 : Cond.fieldLink RX12 266 RX12 "from" "I" ∈ gW := gW_u tb_6 87 (by rfl) (by decide +kernel)
theorem dX12_nextToken_8 : decode cX12_nextToken 8 = .ok (.aload_n 0, 1) := by decide +kernel
theorem dX12_nextToken_9 : decode cX12_nextToken 9 = .ok (.getfield 266, 3) := by decide +kernel
theorem dX12_nextToken_12 : decode cX12_nextToken 12 = .ok (.aload_n 0, 1) := by decide +kernel
theorem dX12_nextToken_13 : decode cX12_nextToken 13 = .ok (.getfield 247, 3) := by decide +kernel
theorem dX12_nextToken_16 : decode cX12_nextToken 16 = .ok (.if_icmp .ge 30, 3) := by decide +kernel
theorem dX12_nextToken_19 : decode cX12_nextToken 19 = .ok (.aload_n 0, 1) := by decide +kernel
theorem dX12_nextToken_20 : decode cX12_nextToken 20 = .ok (.getfield 35, 3) := by decide +kernel
theorem dX12_nextToken_23 : decode cX12_nextToken 23 = .ok (.aload_n 0, 1) := by decide +kernel
theorem dX12_nextToken_24 : decode cX12_nextToken 24 = .ok (.getfield 266, 3) := by decide +kernel
theorem dX12_nextToken_27 : decode cX12_nextToken 27 = .ok (.iaload, 1) := by decide +kernel
theorem dX12_nextToken_28 : decode cX12_nextToken 28 = .ok (.bipush 32, 2) := by decide +kernel
theorem dX12_nextToken_30 : decode cX12_nextToken 30 = .ok (.if_icmp .ne 16, 3) := by decide +kernel
theorem dX12_nextToken_33 : decode cX12_nextToken 33 = .ok (.aload_n 0, 1) := by decide +kernel
theorem dX12_nextToken_34 : decode cX12_nextToken 34 = .ok (.dup, 1) := by decide +kernel
theorem dX12_nextToken_35 : decode cX12_nextToken 35 = .ok (.getfield 266, 3) := by decide +kernel
theorem dX12_nextToken_38 : decode cX12_nextToken 38 = .ok (.iconst 1, 1) := by decide +kernel
theorem dX12_nextToken_39 : decode cX12_nextToken 39 = .ok (.iadd, 1) := by decide +kernel
theorem dX12_nextToken_40 : decode cX12_nextToken 40 = .ok (.putfield 266, 3) := by decide +kernel
theorem dX12_nextToken_43 : decode cX12_nextToken 43 = .ok (.goto (-35), 3) := by decide +kernel
theorem dX12_nextToken_46 : decode cX12_nextToken 46 = .ok (.aload_n 0, 1) := by decide +kernel
theorem dX12_nextToken_47 : decode cX12_nextToken 47 = .ok (.aload_n 0, 1) := by decide +kernel
theorem dX12_nextToken_48 : decode cX12_nextToken 48 = .ok (.getfield 266, 3) := by decide +kernel
theorem dX12_nextToken_51 : decode cX12_nextToken 51 = .ok (.putfield 256, 3) := by decide +kernel
theorem dX12_nextToken_54 : decode cX12_nextToken 54 = .ok (.aload_n 0, 1) := by decide +kernel
theorem dX12_nextToken_55 : decode cX12_nextToken 55 = .ok (.lconst 0, 1) := by decide +kernel
theorem dX12_nextToken_56 : decode cX12_nextToken 56 = .ok (.putfield 269, 3) := by decide +kernel
theorem fl_RX12_269 : Cond.fieldLink RX12 269 RX12 "worth" "J" ∈ gW := gW_u tb_6 90 (by rfl) (by decide +kernel)
theorem dX12_nextToken_59 : decode cX12_nextToken 59 = .ok (.aload_n 0, 1) := by decide +kernel
theorem dX12_nextToken_60 : decode cX12_nextToken 60 = .ok (.aload_n 0, 1) := by decide +kernel
theorem dX12_nextToken_61 : decode cX12_nextToken 61 = .ok (.getfield 266, 3) := by decide +kernel
theorem dX12_nextToken_64 : decode cX12_nextToken 64 = .ok (.aload_n 0, 1) := by decide +kernel
theorem dX12_nextToken_65 : decode cX12_nextToken 65 = .ok (.getfield 247, 3) := by decide +kernel
theorem dX12_nextToken_68 : decode cX12_nextToken 68 = .ok (.if_icmp .ne 7, 3) := by decide +kernel
theorem dX12_nextToken_75 : decode cX12_nextToken 75 = .ok (.aload_n 0, 1) := by decide +kernel
theorem dX12_nextToken_76 : decode cX12_nextToken 76 = .ok (.getfield 35, 3) := by decide +kernel
theorem dX12_nextToken_79 : decode cX12_nextToken 79 = .ok (.aload_n 0, 1) := by decide +kernel
theorem dX12_nextToken_80 : decode cX12_nextToken 80 = .ok (.getfield 266, 3) := by decide +kernel
theorem dX12_nextToken_83 : decode cX12_nextToken 83 = .ok (.iaload, 1) := by decide +kernel
theorem dX12_nextToken_84 : decode cX12_nextToken 84 = .ok (.invokestatic 273, 3) := by decide +kernel
theorem lk_RX12_273 : Cond.methodLink RX12 273 yX12_isSmall ∈ gW := gW_u tb_7 211 (by rfl) (by decide +kernel)
theorem mT_X12_isSmall : Cond.static yX12_isSmall ∈ gW := gW_u tb_7 212 (by rfl) (by decide +kernel)
theorem mC_X12_isSmall : Cond.code yX12_isSmall cX12_isSmall 1 (some .boolean) ∈ gW := gW_u tb_7 213 (by rfl) (by decide +kernel)
theorem ok_X12_isSmall : okD yX12_isSmall 1 := ⟨by decide +kernel, by decide +kernel, by decide +kernel⟩
theorem dX12_nextToken_87 : decode cX12_nextToken 87 = .ok (.ifCond .eq 7, 3) := by decide +kernel
theorem dX12_nextToken_94 : decode cX12_nextToken 94 = .ok (.aload_n 0, 1) := by decide +kernel
theorem dX12_nextToken_95 : decode cX12_nextToken 95 = .ok (.getfield 35, 3) := by decide +kernel
theorem dX12_nextToken_98 : decode cX12_nextToken 98 = .ok (.aload_n 0, 1) := by decide +kernel
theorem dX12_nextToken_99 : decode cX12_nextToken 99 = .ok (.getfield 266, 3) := by decide +kernel
theorem dX12_nextToken_102 : decode cX12_nextToken 102 = .ok (.iaload, 1) := by decide +kernel
theorem dX12_nextToken_103 : decode cX12_nextToken 103 = .ok (.invokestatic 276, 3) := by decide +kernel
theorem lk_RX12_276 : Cond.methodLink RX12 276 yX12_isDigit ∈ gW := gW_u tb_7 214 (by rfl) (by decide +kernel)
theorem mT_X12_isDigit : Cond.static yX12_isDigit ∈ gW := gW_u tb_7 215 (by rfl) (by decide +kernel)
theorem mC_X12_isDigit : Cond.code yX12_isDigit cX12_isDigit 1 (some .boolean) ∈ gW := gW_u tb_7 216 (by rfl) (by decide +kernel)
theorem ok_X12_isDigit : okD yX12_isDigit 1 := ⟨by decide +kernel, by decide +kernel, by decide +kernel⟩
theorem dX12_nextToken_106 : decode cX12_nextToken 106 = .ok (.ifCond .eq 7, 3) := by decide +kernel
theorem dX12_nextToken_113 : decode cX12_nextToken 113 = .ok (.iconst 3, 1) := by decide +kernel
theorem dX12_nextToken_109 : decode cX12_nextToken 109 = .ok (.iconst 2, 1) := by decide +kernel
theorem dX12_nextToken_110 : decode cX12_nextToken 110 = .ok (.goto 4, 3) := by decide +kernel
theorem dX12_nextToken_90 : decode cX12_nextToken 90 = .ok (.iconst 1, 1) := by decide +kernel
theorem dX12_nextToken_91 : decode cX12_nextToken 91 = .ok (.goto 23, 3) := by decide +kernel
theorem dX12_nextToken_71 : decode cX12_nextToken 71 = .ok (.iconst 0, 1) := by decide +kernel
theorem dX12_nextToken_72 : decode cX12_nextToken 72 = .ok (.goto 42, 3) := by decide +kernel
theorem dX12_nextToken_114 : decode cX12_nextToken 114 = .ok (.putfield 279, 3) := by decide +kernel
theorem fl_RX12_279 : Cond.fieldLink RX12 279 RX12 "sort" "I" ∈ gW := gW_u tb_6 89 (by rfl) (by decide +kernel)
theorem dX12_nextToken_117 : decode cX12_nextToken 117 = .ok (.aload_n 0, 1) := by decide +kernel
theorem dX12_nextToken_118 : decode cX12_nextToken 118 = .ok (.getfield 279, 3) := by decide +kernel
theorem dX12_nextToken_121 : decode cX12_nextToken 121 = .ok (.iconst 3, 1) := by decide +kernel
theorem dX12_nextToken_122 : decode cX12_nextToken 122 = .ok (.if_icmp .ne 27, 3) := by decide +kernel
theorem dX12_nextToken_149 : decode cX12_nextToken 149 = .ok (.aload_n 0, 1) := by decide +kernel
theorem dX12_nextToken_150 : decode cX12_nextToken 150 = .ok (.getfield 279, 3) := by decide +kernel
theorem dX12_nextToken_153 : decode cX12_nextToken 153 = .ok (.iconst 1, 1) := by decide +kernel
theorem dX12_nextToken_154 : decode cX12_nextToken 154 = .ok (.if_icmp .ne 89, 3) := by decide +kernel
theorem dX12_nextToken_157 : decode cX12_nextToken 157 = .ok (.aload_n 0, 1) := by decide +kernel
theorem dX12_nextToken_158 : decode cX12_nextToken 158 = .ok (.getfield 256, 3) := by decide +kernel
theorem dX12_nextToken_161 : decode cX12_nextToken 161 = .ok (.aload_n 0, 1) := by decide +kernel
theorem dX12_nextToken_162 : decode cX12_nextToken 162 = .ok (.getfield 247, 3) := by decide +kernel
theorem dX12_nextToken_165 : decode cX12_nextToken 165 = .ok (.if_icmp .ge 78, 3) := by decide +kernel
theorem dX12_nextToken_168 : decode cX12_nextToken 168 = .ok (.aload_n 0, 1) := by decide +kernel
theorem dX12_nextToken_169 : decode cX12_nextToken 169 = .ok (.getfield 35, 3) := by decide +kernel
theorem dX12_nextToken_172 : decode cX12_nextToken 172 = .ok (.aload_n 0, 1) := by decide +kernel
theorem dX12_nextToken_173 : decode cX12_nextToken 173 = .ok (.getfield 256, 3) := by decide +kernel
theorem dX12_nextToken_176 : decode cX12_nextToken 176 = .ok (.iaload, 1) := by decide +kernel
theorem dX12_nextToken_177 : decode cX12_nextToken 177 = .ok (.invokestatic 273, 3) := by decide +kernel
theorem dX12_nextToken_180 : decode cX12_nextToken 180 = .ok (.ifCond .eq 63, 3) := by decide +kernel
theorem dX12_nextToken_183 : decode cX12_nextToken 183 = .ok (.aload_n 0, 1) := by decide +kernel
theorem dX12_nextToken_184 : decode cX12_nextToken 184 = .ok (.aload_n 0, 1) := by decide +kernel
theorem dX12_nextToken_185 : decode cX12_nextToken 185 = .ok (.getfield 256, 3) := by decide +kernel
theorem dX12_nextToken_188 : decode cX12_nextToken 188 = .ok (.aload_n 0, 1) := by decide +kernel
theorem dX12_nextToken_189 : decode cX12_nextToken 189 = .ok (.getfield 266, 3) := by decide +kernel
theorem dX12_nextToken_192 : decode cX12_nextToken 192 = .ok (.isub, 1) := by decide +kernel
theorem dX12_nextToken_193 : decode cX12_nextToken 193 = .ok (.bipush 10, 2) := by decide +kernel
theorem dX12_nextToken_195 : decode cX12_nextToken 195 = .ok (.if_icmp .ge 29, 3) := by decide +kernel
theorem dX12_nextToken_224 : decode cX12_nextToken 224 = .ok (.ldc2_w 286, 3) := by decide +kernel
theorem ct_RX12_286 : Cond.constantLong RX12 286 (-1) ∈ gW := gW_u tb_7 88 (by rfl) (by decide +kernel)
theorem dX12_nextToken_227 : decode cX12_nextToken 227 = .ok (.putfield 269, 3) := by decide +kernel
theorem dX12_nextToken_230 : decode cX12_nextToken 230 = .ok (.aload_n 0, 1) := by decide +kernel
theorem dX12_nextToken_231 : decode cX12_nextToken 231 = .ok (.dup, 1) := by decide +kernel
theorem dX12_nextToken_232 : decode cX12_nextToken 232 = .ok (.getfield 256, 3) := by decide +kernel
theorem dX12_nextToken_235 : decode cX12_nextToken 235 = .ok (.iconst 1, 1) := by decide +kernel
theorem dX12_nextToken_236 : decode cX12_nextToken 236 = .ok (.iadd, 1) := by decide +kernel
theorem dX12_nextToken_237 : decode cX12_nextToken 237 = .ok (.putfield 256, 3) := by decide +kernel
theorem dX12_nextToken_240 : decode cX12_nextToken 240 = .ok (.goto (-91), 3) := by decide +kernel
theorem dX12_nextToken_198 : decode cX12_nextToken 198 = .ok (.aload_n 0, 1) := by decide +kernel
theorem dX12_nextToken_199 : decode cX12_nextToken 199 = .ok (.getfield 269, 3) := by decide +kernel
theorem dX12_nextToken_202 : decode cX12_nextToken 202 = .ok (.ldc2_w 282, 3) := by decide +kernel
theorem ct_RX12_282 : Cond.constantLong RX12 282 32 ∈ gW := gW_u tb_7 217 (by rfl) (by decide +kernel)
theorem dX12_nextToken_205 : decode cX12_nextToken 205 = .ok (.lmul, 1) := by decide +kernel
theorem dX12_nextToken_206 : decode cX12_nextToken 206 = .ok (.aload_n 0, 1) := by decide +kernel
theorem dX12_nextToken_207 : decode cX12_nextToken 207 = .ok (.getfield 35, 3) := by decide +kernel
theorem dX12_nextToken_210 : decode cX12_nextToken 210 = .ok (.aload_n 0, 1) := by decide +kernel
theorem dX12_nextToken_211 : decode cX12_nextToken 211 = .ok (.getfield 256, 3) := by decide +kernel
theorem dX12_nextToken_214 : decode cX12_nextToken 214 = .ok (.iaload, 1) := by decide +kernel
theorem dX12_nextToken_215 : decode cX12_nextToken 215 = .ok (.i2l, 1) := by decide +kernel
theorem dX12_nextToken_216 : decode cX12_nextToken 216 = .ok (.ladd, 1) := by decide +kernel
theorem dX12_nextToken_217 : decode cX12_nextToken 217 = .ok (.ldc2_w 284, 3) := by decide +kernel
theorem ct_RX12_284 : Cond.constantLong RX12 284 96 ∈ gW := gW_u tb_7 218 (by rfl) (by decide +kernel)
theorem dX12_nextToken_220 : decode cX12_nextToken 220 = .ok (.lsub, 1) := by decide +kernel
theorem dX12_nextToken_221 : decode cX12_nextToken 221 = .ok (.goto 6, 3) := by decide +kernel
theorem dX12_nextToken_243 : decode cX12_nextToken 243 = .ok (.aload_n 0, 1) := by decide +kernel
theorem dX12_nextToken_244 : decode cX12_nextToken 244 = .ok (.getfield 279, 3) := by decide +kernel
theorem dX12_nextToken_247 : decode cX12_nextToken 247 = .ok (.iconst 2, 1) := by decide +kernel
theorem dX12_nextToken_248 : decode cX12_nextToken 248 = .ok (.if_icmp .ne 87, 3) := by decide +kernel
theorem dX12_nextToken_251 : decode cX12_nextToken 251 = .ok (.aload_n 0, 1) := by decide +kernel
theorem dX12_nextToken_252 : decode cX12_nextToken 252 = .ok (.getfield 256, 3) := by decide +kernel
theorem dX12_nextToken_255 : decode cX12_nextToken 255 = .ok (.aload_n 0, 1) := by decide +kernel
theorem dX12_nextToken_256 : decode cX12_nextToken 256 = .ok (.getfield 247, 3) := by decide +kernel
theorem dX12_nextToken_259 : decode cX12_nextToken 259 = .ok (.if_icmp .ge 76, 3) := by decide +kernel
theorem dX12_nextToken_262 : decode cX12_nextToken 262 = .ok (.aload_n 0, 1) := by decide +kernel
theorem dX12_nextToken_263 : decode cX12_nextToken 263 = .ok (.getfield 35, 3) := by decide +kernel
theorem dX12_nextToken_266 : decode cX12_nextToken 266 = .ok (.aload_n 0, 1) := by decide +kernel
theorem dX12_nextToken_267 : decode cX12_nextToken 267 = .ok (.getfield 256, 3) := by decide +kernel
theorem dX12_nextToken_270 : decode cX12_nextToken 270 = .ok (.iaload, 1) := by decide +kernel
theorem dX12_nextToken_271 : decode cX12_nextToken 271 = .ok (.invokestatic 276, 3) := by decide +kernel
theorem dX12_nextToken_274 : decode cX12_nextToken 274 = .ok (.ifCond .eq 61, 3) := by decide +kernel
theorem dX12_nextToken_277 : decode cX12_nextToken 277 = .ok (.aload_n 0, 1) := by decide +kernel
theorem dX12_nextToken_278 : decode cX12_nextToken 278 = .ok (.aload_n 0, 1) := by decide +kernel
theorem dX12_nextToken_279 : decode cX12_nextToken 279 = .ok (.getfield 269, 3) := by decide +kernel
theorem dX12_nextToken_282 : decode cX12_nextToken 282 = .ok (.ldc2_w 288, 3) := by decide +kernel
theorem ct_RX12_288 : Cond.constantLong RX12 288 1000000 ∈ gW := gW_u tb_7 219 (by rfl) (by decide +kernel)
theorem dX12_nextToken_285 : decode cX12_nextToken 285 = .ok (.lcmp, 1) := by decide +kernel
theorem dX12_nextToken_286 : decode cX12_nextToken 286 = .ok (.ifCond .le 10, 3) := by decide +kernel
theorem dX12_nextToken_296 : decode cX12_nextToken 296 = .ok (.aload_n 0, 1) := by decide +kernel
theorem dX12_nextToken_297 : decode cX12_nextToken 297 = .ok (.getfield 269, 3) := by decide +kernel
theorem dX12_nextToken_300 : decode cX12_nextToken 300 = .ok (.ldc2_w 245, 3) := by decide +kernel
theorem dX12_nextToken_303 : decode cX12_nextToken 303 = .ok (.lmul, 1) := by decide +kernel
theorem dX12_nextToken_304 : decode cX12_nextToken 304 = .ok (.aload_n 0, 1) := by decide +kernel
theorem dX12_nextToken_305 : decode cX12_nextToken 305 = .ok (.getfield 35, 3) := by decide +kernel
theorem dX12_nextToken_308 : decode cX12_nextToken 308 = .ok (.aload_n 0, 1) := by decide +kernel
theorem dX12_nextToken_309 : decode cX12_nextToken 309 = .ok (.getfield 256, 3) := by decide +kernel
theorem dX12_nextToken_312 : decode cX12_nextToken 312 = .ok (.iaload, 1) := by decide +kernel
theorem dX12_nextToken_313 : decode cX12_nextToken 313 = .ok (.i2l, 1) := by decide +kernel
theorem dX12_nextToken_314 : decode cX12_nextToken 314 = .ok (.ladd, 1) := by decide +kernel
theorem dX12_nextToken_315 : decode cX12_nextToken 315 = .ok (.ldc2_w 290, 3) := by decide +kernel
theorem ct_RX12_290 : Cond.constantLong RX12 290 48 ∈ gW := gW_u tb_7 220 (by rfl) (by decide +kernel)
theorem dX12_nextToken_318 : decode cX12_nextToken 318 = .ok (.lsub, 1) := by decide +kernel
theorem dX12_nextToken_319 : decode cX12_nextToken 319 = .ok (.putfield 269, 3) := by decide +kernel
theorem dX12_nextToken_322 : decode cX12_nextToken 322 = .ok (.aload_n 0, 1) := by decide +kernel
theorem dX12_nextToken_323 : decode cX12_nextToken 323 = .ok (.dup, 1) := by decide +kernel
theorem dX12_nextToken_324 : decode cX12_nextToken 324 = .ok (.getfield 256, 3) := by decide +kernel
theorem dX12_nextToken_327 : decode cX12_nextToken 327 = .ok (.iconst 1, 1) := by decide +kernel
theorem dX12_nextToken_328 : decode cX12_nextToken 328 = .ok (.iadd, 1) := by decide +kernel
theorem dX12_nextToken_329 : decode cX12_nextToken 329 = .ok (.putfield 256, 3) := by decide +kernel
theorem dX12_nextToken_332 : decode cX12_nextToken 332 = .ok (.goto (-89), 3) := by decide +kernel
theorem dX12_nextToken_289 : decode cX12_nextToken 289 = .ok (.aload_n 0, 1) := by decide +kernel
theorem dX12_nextToken_290 : decode cX12_nextToken 290 = .ok (.getfield 269, 3) := by decide +kernel
theorem dX12_nextToken_293 : decode cX12_nextToken 293 = .ok (.goto 26, 3) := by decide +kernel
theorem dX12_nextToken_335 : decode cX12_nextToken 335 = .ok (.return_, 1) := by decide +kernel
theorem dX12_nextToken_125 : decode cX12_nextToken 125 = .ok (.aload_n 0, 1) := by decide +kernel
theorem dX12_nextToken_126 : decode cX12_nextToken 126 = .ok (.aload_n 0, 1) := by decide +kernel
theorem dX12_nextToken_127 : decode cX12_nextToken 127 = .ok (.getfield 35, 3) := by decide +kernel
theorem dX12_nextToken_130 : decode cX12_nextToken 130 = .ok (.aload_n 0, 1) := by decide +kernel
theorem dX12_nextToken_131 : decode cX12_nextToken 131 = .ok (.getfield 266, 3) := by decide +kernel
theorem dX12_nextToken_134 : decode cX12_nextToken 134 = .ok (.iaload, 1) := by decide +kernel
theorem dX12_nextToken_135 : decode cX12_nextToken 135 = .ok (.i2l, 1) := by decide +kernel
theorem dX12_nextToken_136 : decode cX12_nextToken 136 = .ok (.putfield 269, 3) := by decide +kernel
theorem dX12_nextToken_139 : decode cX12_nextToken 139 = .ok (.aload_n 0, 1) := by decide +kernel
theorem dX12_nextToken_140 : decode cX12_nextToken 140 = .ok (.dup, 1) := by decide +kernel
theorem dX12_nextToken_141 : decode cX12_nextToken 141 = .ok (.getfield 256, 3) := by decide +kernel
theorem dX12_nextToken_144 : decode cX12_nextToken 144 = .ok (.iconst 1, 1) := by decide +kernel
theorem dX12_nextToken_145 : decode cX12_nextToken 145 = .ok (.iadd, 1) := by decide +kernel
theorem dX12_nextToken_146 : decode cX12_nextToken 146 = .ok (.putfield 256, 3) := by decide +kernel
def yX12_begin : MethodName := ⟨RX12, "begin", "()V"⟩
abbrev cX12_begin : ByteArray := prog_14_method_41_code
theorem dX12_begin_0 : decode cX12_begin 0 = .ok (.aload_n 0, 1) := by decide +kernel
theorem dX12_begin_1 : decode cX12_begin 1 = .ok (.iconst 0, 1) := by decide +kernel
theorem dX12_begin_2 : decode cX12_begin 2 = .ok (.putfield 256, 3) := by decide +kernel
theorem dX12_begin_5 : decode cX12_begin 5 = .ok (.aload_n 0, 1) := by decide +kernel
theorem dX12_begin_6 : decode cX12_begin 6 = .ok (.iconst 0, 1) := by decide +kernel
theorem dX12_begin_7 : decode cX12_begin 7 = .ok (.putfield 259, 3) := by decide +kernel
theorem fl_RX12_259 : Cond.fieldLink RX12 259 RX12 "bad" "Z" ∈ gW := gW_u tb_6 92 (by rfl) (by decide +kernel)
theorem dX12_begin_10 : decode cX12_begin 10 = .ok (.aload_n 0, 1) := by decide +kernel
theorem dX12_begin_11 : decode cX12_begin 11 = .ok (.iconst (-1), 1) := by decide +kernel
theorem dX12_begin_12 : decode cX12_begin 12 = .ok (.putfield 38, 3) := by decide +kernel
theorem fl_RX12_38 : Cond.fieldLink RX12 38 RX12 "fault" "I" ∈ gW := gW_u tb_6 91 (by rfl) (by decide +kernel)
theorem dX12_begin_15 : decode cX12_begin 15 = .ok (.aload_n 0, 1) := by decide +kernel
theorem dX12_begin_16 : decode cX12_begin 16 = .ok (.invokevirtual 263, 3) := by decide +kernel
theorem lk_RX12_263 : Cond.methodLink RX12 263 yX12_nextToken ∈ gW := gW_u tb_7 207 (by rfl) (by decide +kernel)
theorem mI_X12_nextToken : Cond.instanceMethod yX12_nextToken ∈ gW := gW_u tb_7 209 (by rfl) (by decide +kernel)
theorem mS_X12_nextToken : Cond.selects RX12 yX12_nextToken yX12_nextToken ∈ gW := gW_p (q := (yX12_nextToken, 59)) 62 (by decide +kernel)
theorem mC_X12_nextToken : Cond.code yX12_nextToken cX12_nextToken 1 none ∈ gW := gW_u tb_7 210 (by rfl) (by decide +kernel)
theorem ok_X12_nextToken : okD yX12_nextToken 0 := ⟨by decide +kernel, by decide +kernel, by decide +kernel⟩
theorem dX12_begin_19 : decode cX12_begin 19 = .ok (.return_, 1) := by decide +kernel
def yX12_isWord : MethodName := ⟨RX12, "isWord", "(J)Z"⟩
abbrev cX12_isWord : ByteArray := prog_14_method_43_code
theorem dX12_isWord_0 : decode cX12_isWord 0 = .ok (.aload_n 0, 1) := by decide +kernel
theorem dX12_isWord_1 : decode cX12_isWord 1 = .ok (.getfield 279, 3) := by decide +kernel
theorem dX12_isWord_4 : decode cX12_isWord 4 = .ok (.iconst 1, 1) := by decide +kernel
theorem dX12_isWord_5 : decode cX12_isWord 5 = .ok (.if_icmp .ne 16, 3) := by decide +kernel
theorem dX12_isWord_21 : decode cX12_isWord 21 = .ok (.iconst 0, 1) := by decide +kernel
theorem dX12_isWord_22 : decode cX12_isWord 22 = .ok (.ireturn, 1) := by decide +kernel
theorem dX12_isWord_8 : decode cX12_isWord 8 = .ok (.aload_n 0, 1) := by decide +kernel
theorem dX12_isWord_9 : decode cX12_isWord 9 = .ok (.getfield 269, 3) := by decide +kernel
theorem dX12_isWord_12 : decode cX12_isWord 12 = .ok (.lload_n 1, 1) := by decide +kernel
theorem dX12_isWord_13 : decode cX12_isWord 13 = .ok (.lcmp, 1) := by decide +kernel
theorem dX12_isWord_14 : decode cX12_isWord 14 = .ok (.ifCond .ne 7, 3) := by decide +kernel
theorem dX12_isWord_17 : decode cX12_isWord 17 = .ok (.iconst 1, 1) := by decide +kernel
theorem dX12_isWord_18 : decode cX12_isWord 18 = .ok (.goto 4, 3) := by decide +kernel
def yX12_isSign : MethodName := ⟨RX12, "isSign", "(I)Z"⟩
abbrev cX12_isSign : ByteArray := prog_14_method_44_code
theorem dX12_isSign_0 : decode cX12_isSign 0 = .ok (.aload_n 0, 1) := by decide +kernel
theorem dX12_isSign_1 : decode cX12_isSign 1 = .ok (.getfield 279, 3) := by decide +kernel
theorem dX12_isSign_4 : decode cX12_isSign 4 = .ok (.iconst 3, 1) := by decide +kernel
theorem dX12_isSign_5 : decode cX12_isSign 5 = .ok (.if_icmp .ne 17, 3) := by decide +kernel
theorem dX12_isSign_22 : decode cX12_isSign 22 = .ok (.iconst 0, 1) := by decide +kernel
theorem dX12_isSign_23 : decode cX12_isSign 23 = .ok (.ireturn, 1) := by decide +kernel
theorem dX12_isSign_8 : decode cX12_isSign 8 = .ok (.aload_n 0, 1) := by decide +kernel
theorem dX12_isSign_9 : decode cX12_isSign 9 = .ok (.getfield 269, 3) := by decide +kernel
theorem dX12_isSign_12 : decode cX12_isSign 12 = .ok (.iload_n 1, 1) := by decide +kernel
theorem dX12_isSign_13 : decode cX12_isSign 13 = .ok (.i2l, 1) := by decide +kernel
theorem dX12_isSign_14 : decode cX12_isSign 14 = .ok (.lcmp, 1) := by decide +kernel
theorem dX12_isSign_15 : decode cX12_isSign 15 = .ok (.ifCond .ne 7, 3) := by decide +kernel
theorem dX12_isSign_18 : decode cX12_isSign 18 = .ok (.iconst 1, 1) := by decide +kernel
theorem dX12_isSign_19 : decode cX12_isSign 19 = .ok (.goto 4, 3) := by decide +kernel
def yX12_must : MethodName := ⟨RX12, "must", "(Z)V"⟩
abbrev cX12_must : ByteArray := prog_14_method_45_code
theorem dX12_must_0 : decode cX12_must 0 = .ok (.aload_n 0, 1) := by decide +kernel
theorem dX12_must_1 : decode cX12_must 1 = .ok (.getfield 259, 3) := by decide +kernel
theorem dX12_must_4 : decode cX12_must 4 = .ok (.ifCond .ne 20, 3) := by decide +kernel
theorem dX12_must_24 : decode cX12_must 24 = .ok (.aload_n 0, 1) := by decide +kernel
theorem dX12_must_25 : decode cX12_must 25 = .ok (.getfield 259, 3) := by decide +kernel
theorem dX12_must_28 : decode cX12_must 28 = .ok (.ifCond .ne 7, 3) := by decide +kernel
theorem dX12_must_35 : decode cX12_must 35 = .ok (.return_, 1) := by decide +kernel
theorem dX12_must_7 : decode cX12_must 7 = .ok (.iload_n 1, 1) := by decide +kernel
theorem dX12_must_8 : decode cX12_must 8 = .ok (.ifCond .ne 16, 3) := by decide +kernel
theorem dX12_must_31 : decode cX12_must 31 = .ok (.aload_n 0, 1) := by decide +kernel
theorem dX12_must_32 : decode cX12_must 32 = .ok (.invokevirtual 263, 3) := by decide +kernel
theorem dX12_must_11 : decode cX12_must 11 = .ok (.aload_n 0, 1) := by decide +kernel
theorem dX12_must_12 : decode cX12_must 12 = .ok (.iconst 1, 1) := by decide +kernel
theorem dX12_must_13 : decode cX12_must 13 = .ok (.putfield 259, 3) := by decide +kernel
theorem dX12_must_16 : decode cX12_must 16 = .ok (.aload_n 0, 1) := by decide +kernel
theorem dX12_must_17 : decode cX12_must 17 = .ok (.aload_n 0, 1) := by decide +kernel
theorem dX12_must_18 : decode cX12_must 18 = .ok (.getfield 266, 3) := by decide +kernel
theorem dX12_must_21 : decode cX12_must 21 = .ok (.putfield 38, 3) := by decide +kernel
