def yJ3_checkIndex_8e157 : MethodName := ⟨RJ3, "checkIndex", "(IILjava/util/function/BiFunction;)I"⟩
abbrev cJ3_checkIndex_8e157 : ByteArray := prog_23_method_11_code
theorem dB_777 : (decode cJ3_checkIndex_8e157 0 = .ok (.iload_n 0, 1)) ∧ (decode cJ3_checkIndex_8e157 1 = .ok (.ifCond .lt 8, 3)) ∧ (decode cJ3_checkIndex_8e157 4 = .ok (.iload_n 0, 1)) ∧ (decode cJ3_checkIndex_8e157 5 = .ok (.iload_n 1, 1)) ∧ (decode cJ3_checkIndex_8e157 6 = .ok (.if_icmp .lt 10, 3)) ∧ (decode cJ3_checkIndex_8e157 16 = .ok (.iload_n 0, 1)) ∧ (decode cJ3_checkIndex_8e157 17 = .ok (.ireturn, 1)) := by decide +kernel
theorem dJ3_checkIndex_8e157_0 : decode cJ3_checkIndex_8e157 0 = .ok (.iload_n 0, 1) := dB_777.1
theorem dJ3_checkIndex_8e157_1 : decode cJ3_checkIndex_8e157 1 = .ok (.ifCond .lt 8, 3) := dB_777.2.1
theorem dJ3_checkIndex_8e157_4 : decode cJ3_checkIndex_8e157 4 = .ok (.iload_n 0, 1) := dB_777.2.2.1
theorem dJ3_checkIndex_8e157_5 : decode cJ3_checkIndex_8e157 5 = .ok (.iload_n 1, 1) := dB_777.2.2.2.1
theorem dJ3_checkIndex_8e157_6 : decode cJ3_checkIndex_8e157 6 = .ok (.if_icmp .lt 10, 3) := dB_777.2.2.2.2.1
theorem dJ3_checkIndex_8e157_16 : decode cJ3_checkIndex_8e157 16 = .ok (.iload_n 0, 1) := dB_777.2.2.2.2.2.1
theorem dJ3_checkIndex_8e157_17 : decode cJ3_checkIndex_8e157 17 = .ok (.ireturn, 1) := dB_777.2.2.2.2.2.2
def yJ0_isLatin1_aae02 : MethodName := ⟨RJ0, "isLatin1", "()Z"⟩
abbrev cJ0_isLatin1_aae02 : ByteArray := prog_18_method_154_code
theorem fl_RJ0_38 : Cond.fieldLink RJ0 38 RJ0 "COMPACT_STRINGS" "Z" ∈ gW := gW_u tb_3 212 (by rfl) (by decide +kernel)
theorem dB_778 : (decode cJ0_isLatin1_aae02 0 = .ok (.getstatic 38, 3)) ∧ (decode cJ0_isLatin1_aae02 3 = .ok (.ifCond .eq 14, 3)) ∧ (decode cJ0_isLatin1_aae02 6 = .ok (.aload_n 0, 1)) ∧ (decode cJ0_isLatin1_aae02 7 = .ok (.getfield 15, 3)) ∧ (decode cJ0_isLatin1_aae02 10 = .ok (.ifCond .ne 7, 3)) ∧ (decode cJ0_isLatin1_aae02 13 = .ok (.iconst 1, 1)) ∧ (decode cJ0_isLatin1_aae02 14 = .ok (.goto 4, 3)) ∧ (decode cJ0_isLatin1_aae02 18 = .ok (.ireturn, 1)) := by decide +kernel
theorem dJ0_isLatin1_aae02_0 : decode cJ0_isLatin1_aae02 0 = .ok (.getstatic 38, 3) := dB_778.1
theorem dJ0_isLatin1_aae02_3 : decode cJ0_isLatin1_aae02 3 = .ok (.ifCond .eq 14, 3) := dB_778.2.1
theorem dJ0_isLatin1_aae02_6 : decode cJ0_isLatin1_aae02 6 = .ok (.aload_n 0, 1) := dB_778.2.2.1
theorem dJ0_isLatin1_aae02_7 : decode cJ0_isLatin1_aae02 7 = .ok (.getfield 15, 3) := dB_778.2.2.2.1
theorem dJ0_isLatin1_aae02_10 : decode cJ0_isLatin1_aae02 10 = .ok (.ifCond .ne 7, 3) := dB_778.2.2.2.2.1
theorem dJ0_isLatin1_aae02_13 : decode cJ0_isLatin1_aae02 13 = .ok (.iconst 1, 1) := dB_778.2.2.2.2.2.1
theorem dJ0_isLatin1_aae02_14 : decode cJ0_isLatin1_aae02 14 = .ok (.goto 4, 3) := dB_778.2.2.2.2.2.2.1
theorem dJ0_isLatin1_aae02_18 : decode cJ0_isLatin1_aae02 18 = .ok (.ireturn, 1) := dB_778.2.2.2.2.2.2.2
theorem fl_RJ0_15 : Cond.fieldLink RJ0 15 RJ0 "coder" "B" ∈ gW := gW_u tb_9 103 (by rfl) (by decide +kernel)
def yJ0_checkIndex_df160 : MethodName := ⟨RJ0, "checkIndex", "(II)V"⟩
abbrev cJ0_checkIndex_df160 : ByteArray := prog_18_method_155_code
theorem dB_779 : (decode cJ0_checkIndex_df160 0 = .ok (.iload_n 0, 1)) ∧ (decode cJ0_checkIndex_df160 1 = .ok (.iload_n 1, 1)) ∧ (decode cJ0_checkIndex_df160 2 = .ok (.getstatic 1053, 3)) ∧ (decode cJ0_checkIndex_df160 5 = .ok (.invokestatic 1059, 3)) ∧ (decode cJ0_checkIndex_df160 8 = .ok (.pop, 1)) ∧ (decode cJ0_checkIndex_df160 9 = .ok (.return_, 1)) := by decide +kernel
theorem dJ0_checkIndex_df160_0 : decode cJ0_checkIndex_df160 0 = .ok (.iload_n 0, 1) := dB_779.1
theorem dJ0_checkIndex_df160_1 : decode cJ0_checkIndex_df160 1 = .ok (.iload_n 1, 1) := dB_779.2.1
theorem dJ0_checkIndex_df160_2 : decode cJ0_checkIndex_df160 2 = .ok (.getstatic 1053, 3) := dB_779.2.2.1
theorem dJ0_checkIndex_df160_5 : decode cJ0_checkIndex_df160 5 = .ok (.invokestatic 1059, 3) := dB_779.2.2.2.1
theorem dJ0_checkIndex_df160_8 : decode cJ0_checkIndex_df160 8 = .ok (.pop, 1) := dB_779.2.2.2.2.1
theorem dJ0_checkIndex_df160_9 : decode cJ0_checkIndex_df160 9 = .ok (.return_, 1) := dB_779.2.2.2.2.2
theorem fl_RJ0_1053 : Cond.fieldLink RJ0 1053 RJ3 "SIOOBE_FORMATTER" "Ljava/util/function/BiFunction;" ∈ gW := gW_u tb_3 220 (by rfl) (by decide +kernel)
theorem lk_RJ0_1059 : Cond.methodLink RJ0 1059 yJ3_checkIndex_8e157 ∈ gW := gW_u tb_3 222 (by rfl) (by decide +kernel)
theorem mT_J3_checkIndex_8e157 : Cond.static yJ3_checkIndex_8e157 ∈ gW := gW_u tb_3 223 (by rfl) (by decide +kernel)
theorem mN_RJ3 : Cond.initialized RJ3 ∈ gW := gW_u tb_1 18 (by rfl) (by decide +kernel)
theorem mC_J3_checkIndex_8e157 : Cond.code yJ3_checkIndex_8e157 cJ3_checkIndex_8e157 3 (some .int) ∈ gW := gW_u tb_3 224 (by rfl) (by decide +kernel)
theorem ok_J3_checkIndex_8e157 : okD yJ3_checkIndex_8e157 3 := ⟨by decide +kernel, by decide +kernel, by decide +kernel⟩
def yJ1_charAt_3b067 : MethodName := ⟨RJ1, "charAt", "([BI)C"⟩
abbrev cJ1_charAt_3b067 : ByteArray := prog_19_method_2_code
theorem dB_780 : (decode cJ1_charAt_3b067 0 = .ok (.iload_n 1, 1)) ∧ (decode cJ1_charAt_3b067 1 = .ok (.aload_n 0, 1)) ∧ (decode cJ1_charAt_3b067 2 = .ok (.arraylength, 1)) ∧ (decode cJ1_charAt_3b067 3 = .ok (.invokestatic 9, 3)) ∧ (decode cJ1_charAt_3b067 6 = .ok (.aload_n 0, 1)) ∧ (decode cJ1_charAt_3b067 7 = .ok (.iload_n 1, 1)) ∧ (decode cJ1_charAt_3b067 8 = .ok (.baload, 1)) ∧ (decode cJ1_charAt_3b067 9 = .ok (.sipush 255, 3)) ∧ (decode cJ1_charAt_3b067 12 = .ok (.iand, 1)) ∧ (decode cJ1_charAt_3b067 13 = .ok (.i2c, 1)) ∧ (decode cJ1_charAt_3b067 14 = .ok (.ireturn, 1)) := by decide +kernel
theorem dJ1_charAt_3b067_0 : decode cJ1_charAt_3b067 0 = .ok (.iload_n 1, 1) := dB_780.1
theorem dJ1_charAt_3b067_1 : decode cJ1_charAt_3b067 1 = .ok (.aload_n 0, 1) := dB_780.2.1
theorem dJ1_charAt_3b067_2 : decode cJ1_charAt_3b067 2 = .ok (.arraylength, 1) := dB_780.2.2.1
theorem dJ1_charAt_3b067_3 : decode cJ1_charAt_3b067 3 = .ok (.invokestatic 9, 3) := dB_780.2.2.2.1
theorem dJ1_charAt_3b067_6 : decode cJ1_charAt_3b067 6 = .ok (.aload_n 0, 1) := dB_780.2.2.2.2.1
theorem dJ1_charAt_3b067_7 : decode cJ1_charAt_3b067 7 = .ok (.iload_n 1, 1) := dB_780.2.2.2.2.2.1
theorem dJ1_charAt_3b067_8 : decode cJ1_charAt_3b067 8 = .ok (.baload, 1) := dB_780.2.2.2.2.2.2.1
theorem dJ1_charAt_3b067_9 : decode cJ1_charAt_3b067 9 = .ok (.sipush 255, 3) := dB_780.2.2.2.2.2.2.2.1
theorem dJ1_charAt_3b067_12 : decode cJ1_charAt_3b067 12 = .ok (.iand, 1) := dB_780.2.2.2.2.2.2.2.2.1
theorem dJ1_charAt_3b067_13 : decode cJ1_charAt_3b067 13 = .ok (.i2c, 1) := dB_780.2.2.2.2.2.2.2.2.2.1
theorem dJ1_charAt_3b067_14 : decode cJ1_charAt_3b067 14 = .ok (.ireturn, 1) := dB_780.2.2.2.2.2.2.2.2.2.2
theorem lk_RJ1_9 : Cond.methodLink RJ1 9 yJ0_checkIndex_df160 ∈ gW := gW_u tb_3 217 (by rfl) (by decide +kernel)
theorem mT_J0_checkIndex_df160 : Cond.static yJ0_checkIndex_df160 ∈ gW := gW_u tb_3 218 (by rfl) (by decide +kernel)
theorem mN_RJ0 : Cond.initialized RJ0 ∈ gW := gW_u tb_1 16 (by rfl) (by decide +kernel)
theorem mC_J0_checkIndex_df160 : Cond.code yJ0_checkIndex_df160 cJ0_checkIndex_df160 2 none ∈ gW := gW_u tb_3 219 (by rfl) (by decide +kernel)
theorem ok_J0_checkIndex_df160 : okD yJ0_checkIndex_df160 2 := ⟨by decide +kernel, by decide +kernel, by decide +kernel⟩
def yJ0_charAt_5068e : MethodName := ⟨RJ0, "charAt", "(I)C"⟩
abbrev cJ0_charAt_5068e : ByteArray := prog_18_method_56_code
theorem dB_781 : (decode cJ0_charAt_5068e 0 = .ok (.aload_n 0, 1)) ∧ (decode cJ0_charAt_5068e 1 = .ok (.invokevirtual 492, 3)) ∧ (decode cJ0_charAt_5068e 4 = .ok (.ifCond .eq 12, 3)) ∧ (decode cJ0_charAt_5068e 7 = .ok (.aload_n 0, 1)) ∧ (decode cJ0_charAt_5068e 8 = .ok (.getfield 9, 3)) ∧ (decode cJ0_charAt_5068e 11 = .ok (.iload_n 1, 1)) ∧ (decode cJ0_charAt_5068e 12 = .ok (.invokestatic 495, 3)) ∧ (decode cJ0_charAt_5068e 15 = .ok (.ireturn, 1)) := by decide +kernel
theorem dJ0_charAt_5068e_0 : decode cJ0_charAt_5068e 0 = .ok (.aload_n 0, 1) := dB_781.1
theorem dJ0_charAt_5068e_1 : decode cJ0_charAt_5068e 1 = .ok (.invokevirtual 492, 3) := dB_781.2.1
theorem dJ0_charAt_5068e_4 : decode cJ0_charAt_5068e 4 = .ok (.ifCond .eq 12, 3) := dB_781.2.2.1
theorem dJ0_charAt_5068e_7 : decode cJ0_charAt_5068e 7 = .ok (.aload_n 0, 1) := dB_781.2.2.2.1
theorem dJ0_charAt_5068e_8 : decode cJ0_charAt_5068e 8 = .ok (.getfield 9, 3) := dB_781.2.2.2.2.1
theorem dJ0_charAt_5068e_11 : decode cJ0_charAt_5068e 11 = .ok (.iload_n 1, 1) := dB_781.2.2.2.2.2.1
theorem dJ0_charAt_5068e_12 : decode cJ0_charAt_5068e 12 = .ok (.invokestatic 495, 3) := dB_781.2.2.2.2.2.2.1
theorem dJ0_charAt_5068e_15 : decode cJ0_charAt_5068e 15 = .ok (.ireturn, 1) := dB_781.2.2.2.2.2.2.2
theorem lk_RJ0_492 : Cond.methodLink RJ0 492 yJ0_isLatin1_aae02 ∈ gW := gW_u tb_3 208 (by rfl) (by decide +kernel)
theorem mI_J0_isLatin1_aae02 : Cond.instanceMethod yJ0_isLatin1_aae02 ∈ gW := gW_u tb_3 209 (by rfl) (by decide +kernel)
theorem mS_J0_isLatin1_aae02 : Cond.selects RJ0 yJ0_isLatin1_aae02 yJ0_isLatin1_aae02 ∈ gW := gW_u tb_3 210 (by rfl) (by decide +kernel)
theorem mC_J0_isLatin1_aae02 : Cond.code yJ0_isLatin1_aae02 cJ0_isLatin1_aae02 1 (some .boolean) ∈ gW := gW_u tb_3 211 (by rfl) (by decide +kernel)
theorem ok_J0_isLatin1_aae02 : okD yJ0_isLatin1_aae02 0 := ⟨by decide +kernel, by decide +kernel, by decide +kernel⟩
theorem fl_RJ0_9 : Cond.fieldLink RJ0 9 RJ0 "value" "[B" ∈ gW := gW_u tb_9 104 (by rfl) (by decide +kernel)
theorem lk_RJ0_495 : Cond.methodLink RJ0 495 yJ1_charAt_3b067 ∈ gW := gW_u tb_3 214 (by rfl) (by decide +kernel)
theorem mT_J1_charAt_3b067 : Cond.static yJ1_charAt_3b067 ∈ gW := gW_u tb_3 215 (by rfl) (by decide +kernel)
theorem mN_RJ1 : Cond.initialized RJ1 ∈ gW := gW_u tb_1 17 (by rfl) (by decide +kernel)
theorem mC_J1_charAt_3b067 : Cond.code yJ1_charAt_3b067 cJ1_charAt_3b067 2 (some .char) ∈ gW := gW_u tb_3 216 (by rfl) (by decide +kernel)
theorem ok_J1_charAt_3b067 : okD yJ1_charAt_3b067 2 := ⟨by decide +kernel, by decide +kernel, by decide +kernel⟩
def yX5_readSum : MethodName := ⟨RX5, "readSum", "(I)Z"⟩
abbrev cX5_readSum : ByteArray := prog_7_method_23_code
def yX5_readPart : MethodName := ⟨RX5, "readPart", "(I)Z"⟩
abbrev cX5_readPart : ByteArray := prog_7_method_24_code
theorem dB_782 : (decode cX5_readPart 0 = .ok (.aload_n 0, 1)) ∧ (decode cX5_readPart 1 = .ok (.invokevirtual 86, 3)) ∧ (decode cX5_readPart 4 = .ok (.istore_n 2, 1)) ∧ (decode cX5_readPart 5 = .ok (.iload_n 2, 1)) ∧ (decode cX5_readPart 6 = .ok (.sipush 191, 3)) ∧ (decode cX5_readPart 9 = .ok (.if_icmp .ne 37, 3)) ∧ (decode cX5_readPart 46 = .ok (.iload_n 2, 1)) ∧ (decode cX5_readPart 47 = .ok (.sipush 1000, 3)) ∧ (decode cX5_readPart 50 = .ok (.if_icmp .lt 14, 3)) ∧ (decode cX5_readPart 64 = .ok (.iconst 0, 1)) ∧ (decode cX5_readPart 53 = .ok (.iload_n 2, 1)) ∧ (decode cX5_readPart 54 = .ok (.sipush 2000, 3)) ∧ (decode cX5_readPart 57 = .ok (.if_icmp .gt 7, 3)) ∧ (decode cX5_readPart 60 = .ok (.iconst 1, 1)) ∧ (decode cX5_readPart 61 = .ok (.goto 4, 3)) ∧ (decode cX5_readPart 65 = .ok (.istore_n 3, 1)) := by decide +kernel
theorem dX5_readPart_0 : decode cX5_readPart 0 = .ok (.aload_n 0, 1) := dB_782.1
theorem dX5_readPart_1 : decode cX5_readPart 1 = .ok (.invokevirtual 86, 3) := dB_782.2.1
theorem dX5_readPart_4 : decode cX5_readPart 4 = .ok (.istore_n 2, 1) := dB_782.2.2.1
theorem dX5_readPart_5 : decode cX5_readPart 5 = .ok (.iload_n 2, 1) := dB_782.2.2.2.1
theorem dX5_readPart_6 : decode cX5_readPart 6 = .ok (.sipush 191, 3) := dB_782.2.2.2.2.1
theorem dX5_readPart_9 : decode cX5_readPart 9 = .ok (.if_icmp .ne 37, 3) := dB_782.2.2.2.2.2.1
theorem dX5_readPart_46 : decode cX5_readPart 46 = .ok (.iload_n 2, 1) := dB_782.2.2.2.2.2.2.1
theorem dX5_readPart_47 : decode cX5_readPart 47 = .ok (.sipush 1000, 3) := dB_782.2.2.2.2.2.2.2.1
theorem dX5_readPart_50 : decode cX5_readPart 50 = .ok (.if_icmp .lt 14, 3) := dB_782.2.2.2.2.2.2.2.2.1
theorem dX5_readPart_64 : decode cX5_readPart 64 = .ok (.iconst 0, 1) := dB_782.2.2.2.2.2.2.2.2.2.1
theorem dX5_readPart_53 : decode cX5_readPart 53 = .ok (.iload_n 2, 1) := dB_782.2.2.2.2.2.2.2.2.2.2.1
theorem dX5_readPart_54 : decode cX5_readPart 54 = .ok (.sipush 2000, 3) := dB_782.2.2.2.2.2.2.2.2.2.2.2.1
theorem dX5_readPart_57 : decode cX5_readPart 57 = .ok (.if_icmp .gt 7, 3) := dB_782.2.2.2.2.2.2.2.2.2.2.2.2.1
theorem dX5_readPart_60 : decode cX5_readPart 60 = .ok (.iconst 1, 1) := dB_782.2.2.2.2.2.2.2.2.2.2.2.2.2.1
theorem dX5_readPart_61 : decode cX5_readPart 61 = .ok (.goto 4, 3) := dB_782.2.2.2.2.2.2.2.2.2.2.2.2.2.2.1
theorem dX5_readPart_65 : decode cX5_readPart 65 = .ok (.istore_n 3, 1) := dB_782.2.2.2.2.2.2.2.2.2.2.2.2.2.2.2
theorem dB_783 : (decode cX5_readPart 66 = .ok (.aload_n 0, 1)) ∧ (decode cX5_readPart 67 = .ok (.getfield 59, 3)) ∧ (decode cX5_readPart 70 = .ok (.ifCond .eq 10, 3)) ∧ (decode cX5_readPart 80 = .ok (.iconst 0, 1)) ∧ (decode cX5_readPart 73 = .ok (.iload_n 2, 1)) ∧ (decode cX5_readPart 74 = .ok (.invokestatic 176, 3)) ∧ (decode cX5_readPart 77 = .ok (.goto 4, 3)) ∧ (decode cX5_readPart 81 = .ok (.istore 4, 2)) ∧ (decode cX5_readPart 83 = .ok (.aload_n 0, 1)) ∧ (decode cX5_readPart 84 = .ok (.getfield 66, 3)) ∧ (decode cX5_readPart 87 = .ok (.bipush 50, 2)) ∧ (decode cX5_readPart 89 = .ok (.if_icmp .ge 20, 3)) ∧ (decode cX5_readPart 109 = .ok (.iconst 0, 1)) ∧ (decode cX5_readPart 110 = .ok (.ireturn, 1)) ∧ (decode cX5_readPart 92 = .ok (.iload_n 3, 1)) ∧ (decode cX5_readPart 93 = .ok (.ifCond .ne 18, 3)) := by decide +kernel
theorem dX5_readPart_66 : decode cX5_readPart 66 = .ok (.aload_n 0, 1) := dB_783.1
theorem dX5_readPart_67 : decode cX5_readPart 67 = .ok (.getfield 59, 3) := dB_783.2.1
theorem dX5_readPart_70 : decode cX5_readPart 70 = .ok (.ifCond .eq 10, 3) := dB_783.2.2.1
theorem dX5_readPart_80 : decode cX5_readPart 80 = .ok (.iconst 0, 1) := dB_783.2.2.2.1
theorem dX5_readPart_73 : decode cX5_readPart 73 = .ok (.iload_n 2, 1) := dB_783.2.2.2.2.1
theorem dX5_readPart_74 : decode cX5_readPart 74 = .ok (.invokestatic 176, 3) := dB_783.2.2.2.2.2.1
theorem dX5_readPart_77 : decode cX5_readPart 77 = .ok (.goto 4, 3) := dB_783.2.2.2.2.2.2.1
theorem dX5_readPart_81 : decode cX5_readPart 81 = .ok (.istore 4, 2) := dB_783.2.2.2.2.2.2.2.1
theorem dX5_readPart_83 : decode cX5_readPart 83 = .ok (.aload_n 0, 1) := dB_783.2.2.2.2.2.2.2.2.1
theorem dX5_readPart_84 : decode cX5_readPart 84 = .ok (.getfield 66, 3) := dB_783.2.2.2.2.2.2.2.2.2.1
theorem dX5_readPart_87 : decode cX5_readPart 87 = .ok (.bipush 50, 2) := dB_783.2.2.2.2.2.2.2.2.2.2.1
theorem dX5_readPart_89 : decode cX5_readPart 89 = .ok (.if_icmp .ge 20, 3) := dB_783.2.2.2.2.2.2.2.2.2.2.2.1
theorem dX5_readPart_109 : decode cX5_readPart 109 = .ok (.iconst 0, 1) := dB_783.2.2.2.2.2.2.2.2.2.2.2.2.1
theorem dX5_readPart_110 : decode cX5_readPart 110 = .ok (.ireturn, 1) := dB_783.2.2.2.2.2.2.2.2.2.2.2.2.2.1
theorem dX5_readPart_92 : decode cX5_readPart 92 = .ok (.iload_n 3, 1) := dB_783.2.2.2.2.2.2.2.2.2.2.2.2.2.2.1
theorem dX5_readPart_93 : decode cX5_readPart 93 = .ok (.ifCond .ne 18, 3) := dB_783.2.2.2.2.2.2.2.2.2.2.2.2.2.2.2
theorem lk_RX5_176 : Cond.methodLink RX5 176 yX5_choicesBehind ∈ gW := gW_u tb_4 53 (by rfl) (by decide +kernel)
theorem mT_X5_choicesBehind : Cond.static yX5_choicesBehind ∈ gW := gW_u tb_4 54 (by rfl) (by decide +kernel)
theorem mC_X5_choicesBehind : Cond.code yX5_choicesBehind cX5_choicesBehind 1 (some .int) ∈ gW := gW_u tb_4 55 (by rfl) (by decide +kernel)
theorem ok_X5_choicesBehind : okD yX5_choicesBehind 1 := ⟨by decide +kernel, by decide +kernel, by decide +kernel⟩
theorem fl_RX5_66 : Cond.fieldLink RX5 66 RX5 "parts" "I" ∈ gW := gW_u tb_2 114 (by rfl) (by decide +kernel)
theorem dB_784 : (decode cX5_readPart 96 = .ok (.iload 4, 2)) ∧ (decode cX5_readPart 98 = .ok (.ifCond .ne 13, 3)) ∧ (decode cX5_readPart 101 = .ok (.aload_n 0, 1)) ∧ (decode cX5_readPart 102 = .ok (.iload_n 2, 1)) ∧ (decode cX5_readPart 103 = .ok (.invokevirtual 179, 3)) ∧ (decode cX5_readPart 106 = .ok (.ifCond .ne 5, 3)) ∧ (decode cX5_readPart 111 = .ok (.aload_n 0, 1)) ∧ (decode cX5_readPart 112 = .ok (.dup, 1)) ∧ (decode cX5_readPart 113 = .ok (.getfield 66, 3)) ∧ (decode cX5_readPart 116 = .ok (.iconst 1, 1)) ∧ (decode cX5_readPart 117 = .ok (.iadd, 1)) ∧ (decode cX5_readPart 118 = .ok (.putfield 66, 3)) ∧ (decode cX5_readPart 121 = .ok (.aload_n 0, 1)) ∧ (decode cX5_readPart 122 = .ok (.dup, 1)) ∧ (decode cX5_readPart 123 = .ok (.getfield 63, 3)) ∧ (decode cX5_readPart 126 = .ok (.iconst 1, 1)) := by decide +kernel
theorem dX5_readPart_96 : decode cX5_readPart 96 = .ok (.iload 4, 2) := dB_784.1
theorem dX5_readPart_98 : decode cX5_readPart 98 = .ok (.ifCond .ne 13, 3) := dB_784.2.1
theorem dX5_readPart_101 : decode cX5_readPart 101 = .ok (.aload_n 0, 1) := dB_784.2.2.1
theorem dX5_readPart_102 : decode cX5_readPart 102 = .ok (.iload_n 2, 1) := dB_784.2.2.2.1
theorem dX5_readPart_103 : decode cX5_readPart 103 = .ok (.invokevirtual 179, 3) := dB_784.2.2.2.2.1
theorem dX5_readPart_106 : decode cX5_readPart 106 = .ok (.ifCond .ne 5, 3) := dB_784.2.2.2.2.2.1
theorem dX5_readPart_111 : decode cX5_readPart 111 = .ok (.aload_n 0, 1) := dB_784.2.2.2.2.2.2.1
theorem dX5_readPart_112 : decode cX5_readPart 112 = .ok (.dup, 1) := dB_784.2.2.2.2.2.2.2.1
theorem dX5_readPart_113 : decode cX5_readPart 113 = .ok (.getfield 66, 3) := dB_784.2.2.2.2.2.2.2.2.1
theorem dX5_readPart_116 : decode cX5_readPart 116 = .ok (.iconst 1, 1) := dB_784.2.2.2.2.2.2.2.2.2.1
theorem dX5_readPart_117 : decode cX5_readPart 117 = .ok (.iadd, 1) := dB_784.2.2.2.2.2.2.2.2.2.2.1
theorem dX5_readPart_118 : decode cX5_readPart 118 = .ok (.putfield 66, 3) := dB_784.2.2.2.2.2.2.2.2.2.2.2.1
theorem dX5_readPart_121 : decode cX5_readPart 121 = .ok (.aload_n 0, 1) := dB_784.2.2.2.2.2.2.2.2.2.2.2.2.1
theorem dX5_readPart_122 : decode cX5_readPart 122 = .ok (.dup, 1) := dB_784.2.2.2.2.2.2.2.2.2.2.2.2.2.1
theorem dX5_readPart_123 : decode cX5_readPart 123 = .ok (.getfield 63, 3) := dB_784.2.2.2.2.2.2.2.2.2.2.2.2.2.2.1
theorem dX5_readPart_126 : decode cX5_readPart 126 = .ok (.iconst 1, 1) := dB_784.2.2.2.2.2.2.2.2.2.2.2.2.2.2.2
theorem lk_RX5_179 : Cond.methodLink RX5 179 yX5_isPlainWord ∈ gW := gW_u tb_4 56 (by rfl) (by decide +kernel)
theorem mI_X5_isPlainWord : Cond.instanceMethod yX5_isPlainWord ∈ gW := gW_u tb_4 58 (by rfl) (by decide +kernel)
theorem mS_X5_isPlainWord : Cond.selects RX5 yX5_isPlainWord yX5_isPlainWord ∈ gW := gW_p (q := (yX5_isPlainWord, 10)) 19 (by decide +kernel)
theorem mC_X5_isPlainWord : Cond.code yX5_isPlainWord cX5_isPlainWord 2 (some .boolean) ∈ gW := gW_u tb_4 59 (by rfl) (by decide +kernel)
theorem ok_X5_isPlainWord : okD yX5_isPlainWord 1 := ⟨by decide +kernel, by decide +kernel, by decide +kernel⟩
theorem dB_785 : (decode cX5_readPart 127 = .ok (.iadd, 1)) ∧ (decode cX5_readPart 128 = .ok (.putfield 63, 3)) ∧ (decode cX5_readPart 131 = .ok (.iload_n 3, 1)) ∧ (decode cX5_readPart 132 = .ok (.ifCond .eq 14, 3)) ∧ (decode cX5_readPart 146 = .ok (.iload 4, 2)) ∧ (decode cX5_readPart 148 = .ok (.ifCond .ne 13, 3)) ∧ (decode cX5_readPart 161 = .ok (.aload_n 0, 1)) ∧ (decode cX5_readPart 162 = .ok (.invokevirtual 86, 3)) ∧ (decode cX5_readPart 165 = .ok (.sipush 1000, 3)) ∧ (decode cX5_readPart 168 = .ok (.isub, 1)) ∧ (decode cX5_readPart 169 = .ok (.istore 5, 2)) ∧ (decode cX5_readPart 171 = .ok (.iload 5, 2)) ∧ (decode cX5_readPart 173 = .ok (.ifCond .lt 10, 3)) ∧ (decode cX5_readPart 183 = .ok (.iconst 0, 1)) ∧ (decode cX5_readPart 184 = .ok (.ireturn, 1)) ∧ (decode cX5_readPart 176 = .ok (.iload 5, 2)) := by decide +kernel
theorem dX5_readPart_127 : decode cX5_readPart 127 = .ok (.iadd, 1) := dB_785.1
theorem dX5_readPart_128 : decode cX5_readPart 128 = .ok (.putfield 63, 3) := dB_785.2.1
theorem dX5_readPart_131 : decode cX5_readPart 131 = .ok (.iload_n 3, 1) := dB_785.2.2.1
theorem dX5_readPart_132 : decode cX5_readPart 132 = .ok (.ifCond .eq 14, 3) := dB_785.2.2.2.1
theorem dX5_readPart_146 : decode cX5_readPart 146 = .ok (.iload 4, 2) := dB_785.2.2.2.2.1
theorem dX5_readPart_148 : decode cX5_readPart 148 = .ok (.ifCond .ne 13, 3) := dB_785.2.2.2.2.2.1
theorem dX5_readPart_161 : decode cX5_readPart 161 = .ok (.aload_n 0, 1) := dB_785.2.2.2.2.2.2.1
theorem dX5_readPart_162 : decode cX5_readPart 162 = .ok (.invokevirtual 86, 3) := dB_785.2.2.2.2.2.2.2.1
theorem dX5_readPart_165 : decode cX5_readPart 165 = .ok (.sipush 1000, 3) := dB_785.2.2.2.2.2.2.2.2.1
theorem dX5_readPart_168 : decode cX5_readPart 168 = .ok (.isub, 1) := dB_785.2.2.2.2.2.2.2.2.2.1
theorem dX5_readPart_169 : decode cX5_readPart 169 = .ok (.istore 5, 2) := dB_785.2.2.2.2.2.2.2.2.2.2.1
theorem dX5_readPart_171 : decode cX5_readPart 171 = .ok (.iload 5, 2) := dB_785.2.2.2.2.2.2.2.2.2.2.2.1
theorem dX5_readPart_173 : decode cX5_readPart 173 = .ok (.ifCond .lt 10, 3) := dB_785.2.2.2.2.2.2.2.2.2.2.2.2.1
theorem dX5_readPart_183 : decode cX5_readPart 183 = .ok (.iconst 0, 1) := dB_785.2.2.2.2.2.2.2.2.2.2.2.2.2.1
theorem dX5_readPart_184 : decode cX5_readPart 184 = .ok (.ireturn, 1) := dB_785.2.2.2.2.2.2.2.2.2.2.2.2.2.2.1
theorem dX5_readPart_176 : decode cX5_readPart 176 = .ok (.iload 5, 2) := dB_785.2.2.2.2.2.2.2.2.2.2.2.2.2.2.2
theorem dB_786 : (decode cX5_readPart 178 = .ok (.iload 4, 2)) ∧ (decode cX5_readPart 180 = .ok (.if_icmp .lt 5, 3)) ∧ (decode cX5_readPart 185 = .ok (.aload_n 0, 1)) ∧ (decode cX5_readPart 186 = .ok (.dup, 1)) ∧ (decode cX5_readPart 187 = .ok (.getfield 63, 3)) ∧ (decode cX5_readPart 190 = .ok (.iconst 1, 1)) ∧ (decode cX5_readPart 191 = .ok (.iadd, 1)) ∧ (decode cX5_readPart 192 = .ok (.putfield 63, 3)) ∧ (decode cX5_readPart 195 = .ok (.aload_n 0, 1)) ∧ (decode cX5_readPart 196 = .ok (.iload_n 2, 1)) ∧ (decode cX5_readPart 197 = .ok (.bipush 10, 2)) ∧ (decode cX5_readPart 199 = .ok (.if_icmp .ne 8, 3)) ∧ (decode cX5_readPart 207 = .ok (.bipush 20, 2)) ∧ (decode cX5_readPart 209 = .ok (.iload_n 2, 1)) ∧ (decode cX5_readPart 210 = .ok (.iadd, 1)) ∧ (decode cX5_readPart 211 = .ok (.iload 5, 2)) := by decide +kernel
theorem dX5_readPart_178 : decode cX5_readPart 178 = .ok (.iload 4, 2) := dB_786.1
theorem dX5_readPart_180 : decode cX5_readPart 180 = .ok (.if_icmp .lt 5, 3) := dB_786.2.1
theorem dX5_readPart_185 : decode cX5_readPart 185 = .ok (.aload_n 0, 1) := dB_786.2.2.1
theorem dX5_readPart_186 : decode cX5_readPart 186 = .ok (.dup, 1) := dB_786.2.2.2.1
theorem dX5_readPart_187 : decode cX5_readPart 187 = .ok (.getfield 63, 3) := dB_786.2.2.2.2.1
theorem dX5_readPart_190 : decode cX5_readPart 190 = .ok (.iconst 1, 1) := dB_786.2.2.2.2.2.1
theorem dX5_readPart_191 : decode cX5_readPart 191 = .ok (.iadd, 1) := dB_786.2.2.2.2.2.2.1
theorem dX5_readPart_192 : decode cX5_readPart 192 = .ok (.putfield 63, 3) := dB_786.2.2.2.2.2.2.2.1
theorem dX5_readPart_195 : decode cX5_readPart 195 = .ok (.aload_n 0, 1) := dB_786.2.2.2.2.2.2.2.2.1
theorem dX5_readPart_196 : decode cX5_readPart 196 = .ok (.iload_n 2, 1) := dB_786.2.2.2.2.2.2.2.2.2.1
theorem dX5_readPart_197 : decode cX5_readPart 197 = .ok (.bipush 10, 2) := dB_786.2.2.2.2.2.2.2.2.2.2.1
theorem dX5_readPart_199 : decode cX5_readPart 199 = .ok (.if_icmp .ne 8, 3) := dB_786.2.2.2.2.2.2.2.2.2.2.2.1
theorem dX5_readPart_207 : decode cX5_readPart 207 = .ok (.bipush 20, 2) := dB_786.2.2.2.2.2.2.2.2.2.2.2.2.1
theorem dX5_readPart_209 : decode cX5_readPart 209 = .ok (.iload_n 2, 1) := dB_786.2.2.2.2.2.2.2.2.2.2.2.2.2.1
theorem dX5_readPart_210 : decode cX5_readPart 210 = .ok (.iadd, 1) := dB_786.2.2.2.2.2.2.2.2.2.2.2.2.2.2.1
theorem dX5_readPart_211 : decode cX5_readPart 211 = .ok (.iload 5, 2) := dB_786.2.2.2.2.2.2.2.2.2.2.2.2.2.2.2
theorem dB_787 : (decode cX5_readPart 213 = .ok (.invokevirtual 147, 3)) ∧ (decode cX5_readPart 216 = .ok (.ireturn, 1)) ∧ (decode cX5_readPart 202 = .ok (.bipush 13, 2)) ∧ (decode cX5_readPart 204 = .ok (.goto 7, 3)) ∧ (decode cX5_readPart 151 = .ok (.aload_n 0, 1)) ∧ (decode cX5_readPart 152 = .ok (.bipush 20, 2)) ∧ (decode cX5_readPart 154 = .ok (.iload_n 2, 1)) ∧ (decode cX5_readPart 155 = .ok (.iadd, 1)) ∧ (decode cX5_readPart 156 = .ok (.iconst 0, 1)) ∧ (decode cX5_readPart 157 = .ok (.invokevirtual 147, 3)) ∧ (decode cX5_readPart 160 = .ok (.ireturn, 1)) ∧ (decode cX5_readPart 135 = .ok (.aload_n 0, 1)) ∧ (decode cX5_readPart 136 = .ok (.iconst 1, 1)) ∧ (decode cX5_readPart 137 = .ok (.iload_n 2, 1)) ∧ (decode cX5_readPart 138 = .ok (.sipush 1000, 3)) ∧ (decode cX5_readPart 141 = .ok (.isub, 1)) := by decide +kernel
theorem dX5_readPart_213 : decode cX5_readPart 213 = .ok (.invokevirtual 147, 3) := dB_787.1
theorem dX5_readPart_216 : decode cX5_readPart 216 = .ok (.ireturn, 1) := dB_787.2.1
theorem dX5_readPart_202 : decode cX5_readPart 202 = .ok (.bipush 13, 2) := dB_787.2.2.1
theorem dX5_readPart_204 : decode cX5_readPart 204 = .ok (.goto 7, 3) := dB_787.2.2.2.1
theorem dX5_readPart_151 : decode cX5_readPart 151 = .ok (.aload_n 0, 1) := dB_787.2.2.2.2.1
theorem dX5_readPart_152 : decode cX5_readPart 152 = .ok (.bipush 20, 2) := dB_787.2.2.2.2.2.1
theorem dX5_readPart_154 : decode cX5_readPart 154 = .ok (.iload_n 2, 1) := dB_787.2.2.2.2.2.2.1
theorem dX5_readPart_155 : decode cX5_readPart 155 = .ok (.iadd, 1) := dB_787.2.2.2.2.2.2.2.1
theorem dX5_readPart_156 : decode cX5_readPart 156 = .ok (.iconst 0, 1) := dB_787.2.2.2.2.2.2.2.2.1
theorem dX5_readPart_157 : decode cX5_readPart 157 = .ok (.invokevirtual 147, 3) := dB_787.2.2.2.2.2.2.2.2.2.1
theorem dX5_readPart_160 : decode cX5_readPart 160 = .ok (.ireturn, 1) := dB_787.2.2.2.2.2.2.2.2.2.2.1
theorem dX5_readPart_135 : decode cX5_readPart 135 = .ok (.aload_n 0, 1) := dB_787.2.2.2.2.2.2.2.2.2.2.2.1
theorem dX5_readPart_136 : decode cX5_readPart 136 = .ok (.iconst 1, 1) := dB_787.2.2.2.2.2.2.2.2.2.2.2.2.1
theorem dX5_readPart_137 : decode cX5_readPart 137 = .ok (.iload_n 2, 1) := dB_787.2.2.2.2.2.2.2.2.2.2.2.2.2.1
theorem dX5_readPart_138 : decode cX5_readPart 138 = .ok (.sipush 1000, 3) := dB_787.2.2.2.2.2.2.2.2.2.2.2.2.2.2.1
theorem dX5_readPart_141 : decode cX5_readPart 141 = .ok (.isub, 1) := dB_787.2.2.2.2.2.2.2.2.2.2.2.2.2.2.2
theorem lk_RX5_147 : Cond.methodLink RX5 147 yX5_write ∈ gW := gW_u tb_4 60 (by rfl) (by decide +kernel)
theorem mI_X5_write : Cond.instanceMethod yX5_write ∈ gW := gW_u tb_4 62 (by rfl) (by decide +kernel)
theorem mS_X5_write : Cond.selects RX5 yX5_write yX5_write ∈ gW := gW_p (q := (yX5_write, 10)) 20 (by decide +kernel)
theorem mC_X5_write : Cond.code yX5_write cX5_write 3 (some .boolean) ∈ gW := gW_u tb_4 63 (by rfl) (by decide +kernel)
theorem ok_X5_write : okD yX5_write 2 := ⟨by decide +kernel, by decide +kernel, by decide +kernel⟩
theorem dB_788 : (decode cX5_readPart 142 = .ok (.invokevirtual 147, 3)) ∧ (decode cX5_readPart 145 = .ok (.ireturn, 1)) ∧ (decode cX5_readPart 12 = .ok (.aload_n 0, 1)) ∧ (decode cX5_readPart 13 = .ok (.iload_n 1, 1)) ∧ (decode cX5_readPart 14 = .ok (.invokevirtual 160, 3)) ∧ (decode cX5_readPart 17 = .ok (.ifCond .eq 27, 3)) ∧ (decode cX5_readPart 44 = .ok (.iconst 0, 1)) ∧ (decode cX5_readPart 45 = .ok (.ireturn, 1)) ∧ (decode cX5_readPart 20 = .ok (.aload_n 0, 1)) ∧ (decode cX5_readPart 21 = .ok (.iload_n 1, 1)) ∧ (decode cX5_readPart 22 = .ok (.iconst 1, 1)) ∧ (decode cX5_readPart 23 = .ok (.iadd, 1)) ∧ (decode cX5_readPart 24 = .ok (.invokevirtual 142, 3)) ∧ (decode cX5_readPart 27 = .ok (.ifCond .eq 17, 3)) ∧ (decode cX5_readPart 30 = .ok (.aload_n 0, 1)) ∧ (decode cX5_readPart 31 = .ok (.sipush 193, 3)) := by decide +kernel
theorem dX5_readPart_142 : decode cX5_readPart 142 = .ok (.invokevirtual 147, 3) := dB_788.1
theorem dX5_readPart_145 : decode cX5_readPart 145 = .ok (.ireturn, 1) := dB_788.2.1
theorem dX5_readPart_12 : decode cX5_readPart 12 = .ok (.aload_n 0, 1) := dB_788.2.2.1
theorem dX5_readPart_13 : decode cX5_readPart 13 = .ok (.iload_n 1, 1) := dB_788.2.2.2.1
theorem dX5_readPart_14 : decode cX5_readPart 14 = .ok (.invokevirtual 160, 3) := dB_788.2.2.2.2.1
theorem dX5_readPart_17 : decode cX5_readPart 17 = .ok (.ifCond .eq 27, 3) := dB_788.2.2.2.2.2.1
theorem dX5_readPart_44 : decode cX5_readPart 44 = .ok (.iconst 0, 1) := dB_788.2.2.2.2.2.2.1
theorem dX5_readPart_45 : decode cX5_readPart 45 = .ok (.ireturn, 1) := dB_788.2.2.2.2.2.2.2.1
theorem dX5_readPart_20 : decode cX5_readPart 20 = .ok (.aload_n 0, 1) := dB_788.2.2.2.2.2.2.2.2.1
theorem dX5_readPart_21 : decode cX5_readPart 21 = .ok (.iload_n 1, 1) := dB_788.2.2.2.2.2.2.2.2.2.1
theorem dX5_readPart_22 : decode cX5_readPart 22 = .ok (.iconst 1, 1) := dB_788.2.2.2.2.2.2.2.2.2.2.1
theorem dX5_readPart_23 : decode cX5_readPart 23 = .ok (.iadd, 1) := dB_788.2.2.2.2.2.2.2.2.2.2.2.1
theorem dX5_readPart_24 : decode cX5_readPart 24 = .ok (.invokevirtual 142, 3) := dB_788.2.2.2.2.2.2.2.2.2.2.2.2.1
theorem dX5_readPart_27 : decode cX5_readPart 27 = .ok (.ifCond .eq 17, 3) := dB_788.2.2.2.2.2.2.2.2.2.2.2.2.2.1
theorem dX5_readPart_30 : decode cX5_readPart 30 = .ok (.aload_n 0, 1) := dB_788.2.2.2.2.2.2.2.2.2.2.2.2.2.2.1
theorem dX5_readPart_31 : decode cX5_readPart 31 = .ok (.sipush 193, 3) := dB_788.2.2.2.2.2.2.2.2.2.2.2.2.2.2.2
theorem lk_RX5_160 : Cond.methodLink RX5 160 yX5_open ∈ gW := gW_u tb_4 45 (by rfl) (by decide +kernel)
theorem mI_X5_open : Cond.instanceMethod yX5_open ∈ gW := gW_u tb_4 47 (by rfl) (by decide +kernel)
theorem mS_X5_open : Cond.selects RX5 yX5_open yX5_open ∈ gW := gW_p (q := (yX5_open, 10)) 17 (by decide +kernel)
theorem mC_X5_open : Cond.code yX5_open cX5_open 2 (some .boolean) ∈ gW := gW_u tb_4 48 (by rfl) (by decide +kernel)
theorem ok_X5_open : okD yX5_open 1 := ⟨by decide +kernel, by decide +kernel, by decide +kernel⟩
theorem lk_RX5_142 : Cond.methodLink RX5 142 yX5_readSum ∈ gW := gW_u tb_4 37 (by rfl) (by decide +kernel)
theorem mI_X5_readSum : Cond.instanceMethod yX5_readSum ∈ gW := gW_u tb_4 39 (by rfl) (by decide +kernel)
theorem mS_X5_readSum : Cond.selects RX5 yX5_readSum yX5_readSum ∈ gW := gW_p (q := (yX5_readSum, 10)) 15 (by decide +kernel)
theorem mC_X5_readSum : Cond.code yX5_readSum cX5_readSum 6 (some .boolean) ∈ gW := gW_u tb_4 40 (by rfl) (by decide +kernel)
theorem ok_X5_readSum : okD yX5_readSum 1 := ⟨by decide +kernel, by decide +kernel, by decide +kernel⟩
theorem dB_789 : (decode cX5_readPart 34 = .ok (.invokevirtual 90, 3)) ∧ (decode cX5_readPart 37 = .ok (.ifCond .eq 7, 3)) ∧ (decode cX5_readPart 40 = .ok (.iconst 1, 1)) ∧ (decode cX5_readPart 41 = .ok (.goto 4, 3)) := by decide +kernel
theorem dX5_readPart_34 : decode cX5_readPart 34 = .ok (.invokevirtual 90, 3) := dB_789.1
theorem dX5_readPart_37 : decode cX5_readPart 37 = .ok (.ifCond .eq 7, 3) := dB_789.2.1
theorem dX5_readPart_40 : decode cX5_readPart 40 = .ok (.iconst 1, 1) := dB_789.2.2.1
theorem dX5_readPart_41 : decode cX5_readPart 41 = .ok (.goto 4, 3) := dB_789.2.2.2
theorem lk_RX5_90 : Cond.methodLink RX5 90 yX5_take ∈ gW := gW_u tb_4 49 (by rfl) (by decide +kernel)
theorem mI_X5_take : Cond.instanceMethod yX5_take ∈ gW := gW_u tb_4 51 (by rfl) (by decide +kernel)
theorem mS_X5_take : Cond.selects RX5 yX5_take yX5_take ∈ gW := gW_p (q := (yX5_take, 10)) 18 (by decide +kernel)
theorem mC_X5_take : Cond.code yX5_take cX5_take 2 (some .boolean) ∈ gW := gW_u tb_4 52 (by rfl) (by decide +kernel)
theorem ok_X5_take : okD yX5_take 1 := ⟨by decide +kernel, by decide +kernel, by decide +kernel⟩
theorem dB_790 : (decode cX5_readSum 0 = .ok (.iconst (-1), 1)) ∧ (decode cX5_readSum 1 = .ok (.istore_n 2, 1)) ∧ (decode cX5_readSum 2 = .ok (.iconst 0, 1)) ∧ (decode cX5_readSum 3 = .ok (.istore_n 3, 1)) ∧ (decode cX5_readSum 4 = .ok (.iload_n 3, 1)) ∧ (decode cX5_readSum 5 = .ok (.sipush 400, 3)) ∧ (decode cX5_readSum 8 = .ok (.if_icmp .ge 113, 3)) ∧ (decode cX5_readSum 11 = .ok (.iconst (-1), 1)) ∧ (decode cX5_readSum 12 = .ok (.istore 4, 2)) ∧ (decode cX5_readSum 14 = .ok (.iconst 0, 1)) ∧ (decode cX5_readSum 15 = .ok (.istore 5, 2)) ∧ (decode cX5_readSum 17 = .ok (.iload 5, 2)) ∧ (decode cX5_readSum 19 = .ok (.sipush 400, 3)) ∧ (decode cX5_readSum 22 = .ok (.if_icmp .ge 57, 3)) ∧ (decode cX5_readSum 25 = .ok (.aload_n 0, 1)) ∧ (decode cX5_readSum 26 = .ok (.iload_n 1, 1)) := by decide +kernel
theorem dX5_readSum_0 : decode cX5_readSum 0 = .ok (.iconst (-1), 1) := dB_790.1
theorem dX5_readSum_1 : decode cX5_readSum 1 = .ok (.istore_n 2, 1) := dB_790.2.1
theorem dX5_readSum_2 : decode cX5_readSum 2 = .ok (.iconst 0, 1) := dB_790.2.2.1
theorem dX5_readSum_3 : decode cX5_readSum 3 = .ok (.istore_n 3, 1) := dB_790.2.2.2.1
theorem dX5_readSum_4 : decode cX5_readSum 4 = .ok (.iload_n 3, 1) := dB_790.2.2.2.2.1
theorem dX5_readSum_5 : decode cX5_readSum 5 = .ok (.sipush 400, 3) := dB_790.2.2.2.2.2.1
theorem dX5_readSum_8 : decode cX5_readSum 8 = .ok (.if_icmp .ge 113, 3) := dB_790.2.2.2.2.2.2.1
theorem dX5_readSum_11 : decode cX5_readSum 11 = .ok (.iconst (-1), 1) := dB_790.2.2.2.2.2.2.2.1
theorem dX5_readSum_12 : decode cX5_readSum 12 = .ok (.istore 4, 2) := dB_790.2.2.2.2.2.2.2.2.1
theorem dX5_readSum_14 : decode cX5_readSum 14 = .ok (.iconst 0, 1) := dB_790.2.2.2.2.2.2.2.2.2.1
theorem dX5_readSum_15 : decode cX5_readSum 15 = .ok (.istore 5, 2) := dB_790.2.2.2.2.2.2.2.2.2.2.1
theorem dX5_readSum_17 : decode cX5_readSum 17 = .ok (.iload 5, 2) := dB_790.2.2.2.2.2.2.2.2.2.2.2.1
theorem dX5_readSum_19 : decode cX5_readSum 19 = .ok (.sipush 400, 3) := dB_790.2.2.2.2.2.2.2.2.2.2.2.2.1
theorem dX5_readSum_22 : decode cX5_readSum 22 = .ok (.if_icmp .ge 57, 3) := dB_790.2.2.2.2.2.2.2.2.2.2.2.2.2.1
theorem dX5_readSum_25 : decode cX5_readSum 25 = .ok (.aload_n 0, 1) := dB_790.2.2.2.2.2.2.2.2.2.2.2.2.2.2.1
theorem dX5_readSum_26 : decode cX5_readSum 26 = .ok (.iload_n 1, 1) := dB_790.2.2.2.2.2.2.2.2.2.2.2.2.2.2.2
theorem dB_791 : (decode cX5_readSum 27 = .ok (.invokevirtual 167, 3)) ∧ (decode cX5_readSum 30 = .ok (.ifCond .eq 13, 3)) ∧ (decode cX5_readSum 43 = .ok (.iconst 0, 1)) ∧ (decode cX5_readSum 44 = .ok (.ireturn, 1)) ∧ (decode cX5_readSum 33 = .ok (.aload_n 0, 1)) ∧ (decode cX5_readSum 34 = .ok (.iload 4, 2)) ∧ (decode cX5_readSum 36 = .ok (.iconst 0, 1)) ∧ (decode cX5_readSum 37 = .ok (.invokevirtual 147, 3)) ∧ (decode cX5_readSum 40 = .ok (.ifCond .ne 5, 3)) ∧ (decode cX5_readSum 45 = .ok (.aload_n 0, 1)) ∧ (decode cX5_readSum 46 = .ok (.invokevirtual 86, 3)) ∧ (decode cX5_readSum 49 = .ok (.invokestatic 170, 3)) ∧ (decode cX5_readSum 52 = .ok (.istore 4, 2)) ∧ (decode cX5_readSum 54 = .ok (.iload 4, 2)) ∧ (decode cX5_readSum 56 = .ok (.iconst (-1), 1)) ∧ (decode cX5_readSum 57 = .ok (.if_icmp .ne 6, 3)) := by decide +kernel
theorem dX5_readSum_27 : decode cX5_readSum 27 = .ok (.invokevirtual 167, 3) := dB_791.1
theorem dX5_readSum_30 : decode cX5_readSum 30 = .ok (.ifCond .eq 13, 3) := dB_791.2.1
theorem dX5_readSum_43 : decode cX5_readSum 43 = .ok (.iconst 0, 1) := dB_791.2.2.1
theorem dX5_readSum_44 : decode cX5_readSum 44 = .ok (.ireturn, 1) := dB_791.2.2.2.1
theorem dX5_readSum_33 : decode cX5_readSum 33 = .ok (.aload_n 0, 1) := dB_791.2.2.2.2.1
theorem dX5_readSum_34 : decode cX5_readSum 34 = .ok (.iload 4, 2) := dB_791.2.2.2.2.2.1
theorem dX5_readSum_36 : decode cX5_readSum 36 = .ok (.iconst 0, 1) := dB_791.2.2.2.2.2.2.1
theorem dX5_readSum_37 : decode cX5_readSum 37 = .ok (.invokevirtual 147, 3) := dB_791.2.2.2.2.2.2.2.1
theorem dX5_readSum_40 : decode cX5_readSum 40 = .ok (.ifCond .ne 5, 3) := dB_791.2.2.2.2.2.2.2.2.1
theorem dX5_readSum_45 : decode cX5_readSum 45 = .ok (.aload_n 0, 1) := dB_791.2.2.2.2.2.2.2.2.2.1
theorem dX5_readSum_46 : decode cX5_readSum 46 = .ok (.invokevirtual 86, 3) := dB_791.2.2.2.2.2.2.2.2.2.2.1
theorem dX5_readSum_49 : decode cX5_readSum 49 = .ok (.invokestatic 170, 3) := dB_791.2.2.2.2.2.2.2.2.2.2.2.1
theorem dX5_readSum_52 : decode cX5_readSum 52 = .ok (.istore 4, 2) := dB_791.2.2.2.2.2.2.2.2.2.2.2.2.1
theorem dX5_readSum_54 : decode cX5_readSum 54 = .ok (.iload 4, 2) := dB_791.2.2.2.2.2.2.2.2.2.2.2.2.2.1
theorem dX5_readSum_56 : decode cX5_readSum 56 = .ok (.iconst (-1), 1) := dB_791.2.2.2.2.2.2.2.2.2.2.2.2.2.2.1
theorem dX5_readSum_57 : decode cX5_readSum 57 = .ok (.if_icmp .ne 6, 3) := dB_791.2.2.2.2.2.2.2.2.2.2.2.2.2.2.2
theorem lk_RX5_167 : Cond.methodLink RX5 167 yX5_readPart ∈ gW := gW_u tb_4 41 (by rfl) (by decide +kernel)
theorem mI_X5_readPart : Cond.instanceMethod yX5_readPart ∈ gW := gW_u tb_4 43 (by rfl) (by decide +kernel)
theorem mS_X5_readPart : Cond.selects RX5 yX5_readPart yX5_readPart ∈ gW := gW_p (q := (yX5_readPart, 10)) 16 (by decide +kernel)
theorem mC_X5_readPart : Cond.code yX5_readPart cX5_readPart 6 (some .boolean) ∈ gW := gW_u tb_4 44 (by rfl) (by decide +kernel)
theorem ok_X5_readPart : okD yX5_readPart 1 := ⟨by decide +kernel, by decide +kernel, by decide +kernel⟩
theorem lk_RX5_170 : Cond.methodLink RX5 170 yX5_timingOf ∈ gW := gW_u tb_4 64 (by rfl) (by decide +kernel)
theorem mT_X5_timingOf : Cond.static yX5_timingOf ∈ gW := gW_u tb_4 65 (by rfl) (by decide +kernel)
theorem mC_X5_timingOf : Cond.code yX5_timingOf cX5_timingOf 1 (some .int) ∈ gW := gW_u tb_4 66 (by rfl) (by decide +kernel)
theorem ok_X5_timingOf : okD yX5_timingOf 1 := ⟨by decide +kernel, by decide +kernel, by decide +kernel⟩
theorem dB_792 : (decode cX5_readSum 63 = .ok (.aload_n 0, 1)) ∧ (decode cX5_readSum 64 = .ok (.dup, 1)) ∧ (decode cX5_readSum 65 = .ok (.getfield 63, 3)) ∧ (decode cX5_readSum 68 = .ok (.iconst 1, 1)) ∧ (decode cX5_readSum 69 = .ok (.iadd, 1)) ∧ (decode cX5_readSum 70 = .ok (.putfield 63, 3)) ∧ (decode cX5_readSum 73 = .ok (.iinc 5 1, 3)) ∧ (decode cX5_readSum 76 = .ok (.goto (-59), 3)) ∧ (decode cX5_readSum 60 = .ok (.goto 19, 3)) ∧ (decode cX5_readSum 79 = .ok (.aload_n 0, 1)) ∧ (decode cX5_readSum 80 = .ok (.iload_n 2, 1)) ∧ (decode cX5_readSum 81 = .ok (.iconst 0, 1)) ∧ (decode cX5_readSum 82 = .ok (.invokevirtual 147, 3)) ∧ (decode cX5_readSum 85 = .ok (.ifCond .ne 5, 3)) ∧ (decode cX5_readSum 90 = .ok (.aload_n 0, 1)) ∧ (decode cX5_readSum 91 = .ok (.invokevirtual 86, 3)) := by decide +kernel
theorem dX5_readSum_63 : decode cX5_readSum 63 = .ok (.aload_n 0, 1) := dB_792.1
theorem dX5_readSum_64 : decode cX5_readSum 64 = .ok (.dup, 1) := dB_792.2.1
theorem dX5_readSum_65 : decode cX5_readSum 65 = .ok (.getfield 63, 3) := dB_792.2.2.1
theorem dX5_readSum_68 : decode cX5_readSum 68 = .ok (.iconst 1, 1) := dB_792.2.2.2.1
theorem dX5_readSum_69 : decode cX5_readSum 69 = .ok (.iadd, 1) := dB_792.2.2.2.2.1
theorem dX5_readSum_70 : decode cX5_readSum 70 = .ok (.putfield 63, 3) := dB_792.2.2.2.2.2.1
theorem dX5_readSum_73 : decode cX5_readSum 73 = .ok (.iinc 5 1, 3) := dB_792.2.2.2.2.2.2.1
theorem dX5_readSum_76 : decode cX5_readSum 76 = .ok (.goto (-59), 3) := dB_792.2.2.2.2.2.2.2.1
theorem dX5_readSum_60 : decode cX5_readSum 60 = .ok (.goto 19, 3) := dB_792.2.2.2.2.2.2.2.2.1
theorem dX5_readSum_79 : decode cX5_readSum 79 = .ok (.aload_n 0, 1) := dB_792.2.2.2.2.2.2.2.2.2.1
theorem dX5_readSum_80 : decode cX5_readSum 80 = .ok (.iload_n 2, 1) := dB_792.2.2.2.2.2.2.2.2.2.2.1
theorem dX5_readSum_81 : decode cX5_readSum 81 = .ok (.iconst 0, 1) := dB_792.2.2.2.2.2.2.2.2.2.2.2.1
theorem dX5_readSum_82 : decode cX5_readSum 82 = .ok (.invokevirtual 147, 3) := dB_792.2.2.2.2.2.2.2.2.2.2.2.2.1
theorem dX5_readSum_85 : decode cX5_readSum 85 = .ok (.ifCond .ne 5, 3) := dB_792.2.2.2.2.2.2.2.2.2.2.2.2.2.1
theorem dX5_readSum_90 : decode cX5_readSum 90 = .ok (.aload_n 0, 1) := dB_792.2.2.2.2.2.2.2.2.2.2.2.2.2.2.1
theorem dX5_readSum_91 : decode cX5_readSum 91 = .ok (.invokevirtual 86, 3) := dB_792.2.2.2.2.2.2.2.2.2.2.2.2.2.2.2
theorem dB_793 : (decode cX5_readSum 94 = .ok (.invokestatic 173, 3)) ∧ (decode cX5_readSum 97 = .ok (.istore_n 2, 1)) ∧ (decode cX5_readSum 98 = .ok (.iload_n 2, 1)) ∧ (decode cX5_readSum 99 = .ok (.iconst (-1), 1)) ∧ (decode cX5_readSum 100 = .ok (.if_icmp .ne 5, 3)) ∧ (decode cX5_readSum 105 = .ok (.aload_n 0, 1)) ∧ (decode cX5_readSum 106 = .ok (.dup, 1)) ∧ (decode cX5_readSum 107 = .ok (.getfield 63, 3)) ∧ (decode cX5_readSum 110 = .ok (.iconst 1, 1)) ∧ (decode cX5_readSum 111 = .ok (.iadd, 1)) ∧ (decode cX5_readSum 112 = .ok (.putfield 63, 3)) ∧ (decode cX5_readSum 115 = .ok (.iinc 3 1, 3)) ∧ (decode cX5_readSum 118 = .ok (.goto (-114), 3)) ∧ (decode cX5_readSum 103 = .ok (.iconst 1, 1)) ∧ (decode cX5_readSum 104 = .ok (.ireturn, 1)) ∧ (decode cX5_readSum 88 = .ok (.iconst 0, 1)) := by decide +kernel
theorem dX5_readSum_94 : decode cX5_readSum 94 = .ok (.invokestatic 173, 3) := dB_793.1
theorem dX5_readSum_97 : decode cX5_readSum 97 = .ok (.istore_n 2, 1) := dB_793.2.1
theorem dX5_readSum_98 : decode cX5_readSum 98 = .ok (.iload_n 2, 1) := dB_793.2.2.1
theorem dX5_readSum_99 : decode cX5_readSum 99 = .ok (.iconst (-1), 1) := dB_793.2.2.2.1
theorem dX5_readSum_100 : decode cX5_readSum 100 = .ok (.if_icmp .ne 5, 3) := dB_793.2.2.2.2.1
theorem dX5_readSum_105 : decode cX5_readSum 105 = .ok (.aload_n 0, 1) := dB_793.2.2.2.2.2.1
theorem dX5_readSum_106 : decode cX5_readSum 106 = .ok (.dup, 1) := dB_793.2.2.2.2.2.2.1
theorem dX5_readSum_107 : decode cX5_readSum 107 = .ok (.getfield 63, 3) := dB_793.2.2.2.2.2.2.2.1
theorem dX5_readSum_110 : decode cX5_readSum 110 = .ok (.iconst 1, 1) := dB_793.2.2.2.2.2.2.2.2.1
theorem dX5_readSum_111 : decode cX5_readSum 111 = .ok (.iadd, 1) := dB_793.2.2.2.2.2.2.2.2.2.1
theorem dX5_readSum_112 : decode cX5_readSum 112 = .ok (.putfield 63, 3) := dB_793.2.2.2.2.2.2.2.2.2.2.1
theorem dX5_readSum_115 : decode cX5_readSum 115 = .ok (.iinc 3 1, 3) := dB_793.2.2.2.2.2.2.2.2.2.2.2.1
theorem dX5_readSum_118 : decode cX5_readSum 118 = .ok (.goto (-114), 3) := dB_793.2.2.2.2.2.2.2.2.2.2.2.2.1
theorem dX5_readSum_103 : decode cX5_readSum 103 = .ok (.iconst 1, 1) := dB_793.2.2.2.2.2.2.2.2.2.2.2.2.2.1
theorem dX5_readSum_104 : decode cX5_readSum 104 = .ok (.ireturn, 1) := dB_793.2.2.2.2.2.2.2.2.2.2.2.2.2.2.1
theorem dX5_readSum_88 : decode cX5_readSum 88 = .ok (.iconst 0, 1) := dB_793.2.2.2.2.2.2.2.2.2.2.2.2.2.2.2
theorem lk_RX5_173 : Cond.methodLink RX5 173 yX5_addingOf ∈ gW := gW_u tb_4 67 (by rfl) (by decide +kernel)
theorem mT_X5_addingOf : Cond.static yX5_addingOf ∈ gW := gW_u tb_4 68 (by rfl) (by decide +kernel)
theorem mC_X5_addingOf : Cond.code yX5_addingOf cX5_addingOf 1 (some .int) ∈ gW := gW_u tb_4 69 (by rfl) (by decide +kernel)
theorem ok_X5_addingOf : okD yX5_addingOf 1 := ⟨by decide +kernel, by decide +kernel, by decide +kernel⟩
theorem dB_794 : (decode cX5_readSum 89 = .ok (.ireturn, 1)) ∧ (decode cX5_readSum 121 = .ok (.iconst 0, 1)) ∧ (decode cX5_readSum 122 = .ok (.ireturn, 1)) := by decide +kernel
theorem dX5_readSum_89 : decode cX5_readSum 89 = .ok (.ireturn, 1) := dB_794.1
theorem dX5_readSum_121 : decode cX5_readSum 121 = .ok (.iconst 0, 1) := dB_794.2.1
theorem dX5_readSum_122 : decode cX5_readSum 122 = .ok (.ireturn, 1) := dB_794.2.2
def yX5_readTest : MethodName := ⟨RX5, "readTest", "(I)Z"⟩
abbrev cX5_readTest : ByteArray := prog_7_method_21_code
def yX5_readPlain : MethodName := ⟨RX5, "readPlain", "(I)Z"⟩
abbrev cX5_readPlain : ByteArray := prog_7_method_22_code
theorem dB_795 : (decode cX5_readPlain 0 = .ok (.iconst 0, 1)) ∧ (decode cX5_readPlain 1 = .ok (.istore_n 2, 1)) ∧ (decode cX5_readPlain 2 = .ok (.iconst 0, 1)) ∧ (decode cX5_readPlain 3 = .ok (.istore_n 3, 1)) ∧ (decode cX5_readPlain 4 = .ok (.iload_n 3, 1)) ∧ (decode cX5_readPlain 5 = .ok (.sipush 400, 3)) ∧ (decode cX5_readPlain 8 = .ok (.if_icmp .ge 28, 3)) ∧ (decode cX5_readPlain 11 = .ok (.aload_n 0, 1)) ∧ (decode cX5_readPlain 12 = .ok (.bipush 8, 2)) ∧ (decode cX5_readPlain 14 = .ok (.invokevirtual 90, 3)) ∧ (decode cX5_readPlain 17 = .ok (.ifCond .eq 19, 3)) ∧ (decode cX5_readPlain 20 = .ok (.iload_n 2, 1)) ∧ (decode cX5_readPlain 21 = .ok (.ifCond .ne 7, 3)) ∧ (decode cX5_readPlain 28 = .ok (.iconst 0, 1)) ∧ (decode cX5_readPlain 29 = .ok (.istore_n 2, 1)) ∧ (decode cX5_readPlain 30 = .ok (.iinc 3 1, 3)) := by decide +kernel
theorem dX5_readPlain_0 : decode cX5_readPlain 0 = .ok (.iconst 0, 1) := dB_795.1
theorem dX5_readPlain_1 : decode cX5_readPlain 1 = .ok (.istore_n 2, 1) := dB_795.2.1
theorem dX5_readPlain_2 : decode cX5_readPlain 2 = .ok (.iconst 0, 1) := dB_795.2.2.1
theorem dX5_readPlain_3 : decode cX5_readPlain 3 = .ok (.istore_n 3, 1) := dB_795.2.2.2.1
theorem dX5_readPlain_4 : decode cX5_readPlain 4 = .ok (.iload_n 3, 1) := dB_795.2.2.2.2.1
theorem dX5_readPlain_5 : decode cX5_readPlain 5 = .ok (.sipush 400, 3) := dB_795.2.2.2.2.2.1
theorem dX5_readPlain_8 : decode cX5_readPlain 8 = .ok (.if_icmp .ge 28, 3) := dB_795.2.2.2.2.2.2.1
theorem dX5_readPlain_11 : decode cX5_readPlain 11 = .ok (.aload_n 0, 1) := dB_795.2.2.2.2.2.2.2.1
theorem dX5_readPlain_12 : decode cX5_readPlain 12 = .ok (.bipush 8, 2) := dB_795.2.2.2.2.2.2.2.2.1
theorem dX5_readPlain_14 : decode cX5_readPlain 14 = .ok (.invokevirtual 90, 3) := dB_795.2.2.2.2.2.2.2.2.2.1
theorem dX5_readPlain_17 : decode cX5_readPlain 17 = .ok (.ifCond .eq 19, 3) := dB_795.2.2.2.2.2.2.2.2.2.2.1
theorem dX5_readPlain_20 : decode cX5_readPlain 20 = .ok (.iload_n 2, 1) := dB_795.2.2.2.2.2.2.2.2.2.2.2.1
theorem dX5_readPlain_21 : decode cX5_readPlain 21 = .ok (.ifCond .ne 7, 3) := dB_795.2.2.2.2.2.2.2.2.2.2.2.2.1
theorem dX5_readPlain_28 : decode cX5_readPlain 28 = .ok (.iconst 0, 1) := dB_795.2.2.2.2.2.2.2.2.2.2.2.2.2.1
theorem dX5_readPlain_29 : decode cX5_readPlain 29 = .ok (.istore_n 2, 1) := dB_795.2.2.2.2.2.2.2.2.2.2.2.2.2.2.1
theorem dX5_readPlain_30 : decode cX5_readPlain 30 = .ok (.iinc 3 1, 3) := dB_795.2.2.2.2.2.2.2.2.2.2.2.2.2.2.2
theorem dB_796 : (decode cX5_readPlain 33 = .ok (.goto (-29), 3)) ∧ (decode cX5_readPlain 24 = .ok (.iconst 1, 1)) ∧ (decode cX5_readPlain 25 = .ok (.goto 4, 3)) ∧ (decode cX5_readPlain 36 = .ok (.aload_n 0, 1)) ∧ (decode cX5_readPlain 37 = .ok (.invokevirtual 86, 3)) ∧ (decode cX5_readPlain 40 = .ok (.sipush 140, 3)) ∧ (decode cX5_readPlain 43 = .ok (.if_icmp .ne 33, 3)) ∧ (decode cX5_readPlain 76 = .ok (.aload_n 0, 1)) ∧ (decode cX5_readPlain 77 = .ok (.iload_n 1, 1)) ∧ (decode cX5_readPlain 78 = .ok (.invokevirtual 142, 3)) ∧ (decode cX5_readPlain 81 = .ok (.ifCond .ne 5, 3)) ∧ (decode cX5_readPlain 86 = .ok (.aload_n 0, 1)) ∧ (decode cX5_readPlain 87 = .ok (.invokevirtual 86, 3)) ∧ (decode cX5_readPlain 90 = .ok (.invokestatic 163, 3)) ∧ (decode cX5_readPlain 93 = .ok (.istore_n 3, 1)) ∧ (decode cX5_readPlain 94 = .ok (.iload_n 3, 1)) := by decide +kernel
theorem dX5_readPlain_33 : decode cX5_readPlain 33 = .ok (.goto (-29), 3) := dB_796.1
theorem dX5_readPlain_24 : decode cX5_readPlain 24 = .ok (.iconst 1, 1) := dB_796.2.1
theorem dX5_readPlain_25 : decode cX5_readPlain 25 = .ok (.goto 4, 3) := dB_796.2.2.1
theorem dX5_readPlain_36 : decode cX5_readPlain 36 = .ok (.aload_n 0, 1) := dB_796.2.2.2.1
theorem dX5_readPlain_37 : decode cX5_readPlain 37 = .ok (.invokevirtual 86, 3) := dB_796.2.2.2.2.1
theorem dX5_readPlain_40 : decode cX5_readPlain 40 = .ok (.sipush 140, 3) := dB_796.2.2.2.2.2.1
theorem dX5_readPlain_43 : decode cX5_readPlain 43 = .ok (.if_icmp .ne 33, 3) := dB_796.2.2.2.2.2.2.1
theorem dX5_readPlain_76 : decode cX5_readPlain 76 = .ok (.aload_n 0, 1) := dB_796.2.2.2.2.2.2.2.1
theorem dX5_readPlain_77 : decode cX5_readPlain 77 = .ok (.iload_n 1, 1) := dB_796.2.2.2.2.2.2.2.2.1
theorem dX5_readPlain_78 : decode cX5_readPlain 78 = .ok (.invokevirtual 142, 3) := dB_796.2.2.2.2.2.2.2.2.2.1
theorem dX5_readPlain_81 : decode cX5_readPlain 81 = .ok (.ifCond .ne 5, 3) := dB_796.2.2.2.2.2.2.2.2.2.2.1
theorem dX5_readPlain_86 : decode cX5_readPlain 86 = .ok (.aload_n 0, 1) := dB_796.2.2.2.2.2.2.2.2.2.2.2.1
theorem dX5_readPlain_87 : decode cX5_readPlain 87 = .ok (.invokevirtual 86, 3) := dB_796.2.2.2.2.2.2.2.2.2.2.2.2.1
theorem dX5_readPlain_90 : decode cX5_readPlain 90 = .ok (.invokestatic 163, 3) := dB_796.2.2.2.2.2.2.2.2.2.2.2.2.2.1
theorem dX5_readPlain_93 : decode cX5_readPlain 93 = .ok (.istore_n 3, 1) := dB_796.2.2.2.2.2.2.2.2.2.2.2.2.2.2.1
theorem dX5_readPlain_94 : decode cX5_readPlain 94 = .ok (.iload_n 3, 1) := dB_796.2.2.2.2.2.2.2.2.2.2.2.2.2.2.2
theorem lk_RX5_163 : Cond.methodLink RX5 163 yX5_comparisonOf ∈ gW := gW_u tb_4 90 (by rfl) (by decide +kernel)
theorem mT_X5_comparisonOf : Cond.static yX5_comparisonOf ∈ gW := gW_u tb_4 91 (by rfl) (by decide +kernel)
theorem mC_X5_comparisonOf : Cond.code yX5_comparisonOf cX5_comparisonOf 1 (some .int) ∈ gW := gW_u tb_4 92 (by rfl) (by decide +kernel)
theorem ok_X5_comparisonOf : okD yX5_comparisonOf 1 := ⟨by decide +kernel, by decide +kernel, by decide +kernel⟩
theorem dB_797 : (decode cX5_readPlain 95 = .ok (.iconst (-1), 1)) ∧ (decode cX5_readPlain 96 = .ok (.if_icmp .ne 5, 3)) ∧ (decode cX5_readPlain 101 = .ok (.aload_n 0, 1)) ∧ (decode cX5_readPlain 102 = .ok (.dup, 1)) ∧ (decode cX5_readPlain 103 = .ok (.getfield 63, 3)) ∧ (decode cX5_readPlain 106 = .ok (.iconst 1, 1)) ∧ (decode cX5_readPlain 107 = .ok (.iadd, 1)) ∧ (decode cX5_readPlain 108 = .ok (.putfield 63, 3)) ∧ (decode cX5_readPlain 111 = .ok (.aload_n 0, 1)) ∧ (decode cX5_readPlain 112 = .ok (.iload_n 1, 1)) ∧ (decode cX5_readPlain 113 = .ok (.invokevirtual 142, 3)) ∧ (decode cX5_readPlain 116 = .ok (.ifCond .eq 12, 3)) ∧ (decode cX5_readPlain 128 = .ok (.iconst 0, 1)) ∧ (decode cX5_readPlain 129 = .ok (.ireturn, 1)) ∧ (decode cX5_readPlain 119 = .ok (.aload_n 0, 1)) ∧ (decode cX5_readPlain 120 = .ok (.iload_n 3, 1)) := by decide +kernel
theorem dX5_readPlain_95 : decode cX5_readPlain 95 = .ok (.iconst (-1), 1) := dB_797.1
theorem dX5_readPlain_96 : decode cX5_readPlain 96 = .ok (.if_icmp .ne 5, 3) := dB_797.2.1
theorem dX5_readPlain_101 : decode cX5_readPlain 101 = .ok (.aload_n 0, 1) := dB_797.2.2.1
theorem dX5_readPlain_102 : decode cX5_readPlain 102 = .ok (.dup, 1) := dB_797.2.2.2.1
theorem dX5_readPlain_103 : decode cX5_readPlain 103 = .ok (.getfield 63, 3) := dB_797.2.2.2.2.1
theorem dX5_readPlain_106 : decode cX5_readPlain 106 = .ok (.iconst 1, 1) := dB_797.2.2.2.2.2.1
theorem dX5_readPlain_107 : decode cX5_readPlain 107 = .ok (.iadd, 1) := dB_797.2.2.2.2.2.2.1
theorem dX5_readPlain_108 : decode cX5_readPlain 108 = .ok (.putfield 63, 3) := dB_797.2.2.2.2.2.2.2.1
theorem dX5_readPlain_111 : decode cX5_readPlain 111 = .ok (.aload_n 0, 1) := dB_797.2.2.2.2.2.2.2.2.1
theorem dX5_readPlain_112 : decode cX5_readPlain 112 = .ok (.iload_n 1, 1) := dB_797.2.2.2.2.2.2.2.2.2.1
theorem dX5_readPlain_113 : decode cX5_readPlain 113 = .ok (.invokevirtual 142, 3) := dB_797.2.2.2.2.2.2.2.2.2.2.1
theorem dX5_readPlain_116 : decode cX5_readPlain 116 = .ok (.ifCond .eq 12, 3) := dB_797.2.2.2.2.2.2.2.2.2.2.2.1
theorem dX5_readPlain_128 : decode cX5_readPlain 128 = .ok (.iconst 0, 1) := dB_797.2.2.2.2.2.2.2.2.2.2.2.2.1
theorem dX5_readPlain_129 : decode cX5_readPlain 129 = .ok (.ireturn, 1) := dB_797.2.2.2.2.2.2.2.2.2.2.2.2.2.1
theorem dX5_readPlain_119 : decode cX5_readPlain 119 = .ok (.aload_n 0, 1) := dB_797.2.2.2.2.2.2.2.2.2.2.2.2.2.2.1
theorem dX5_readPlain_120 : decode cX5_readPlain 120 = .ok (.iload_n 3, 1) := dB_797.2.2.2.2.2.2.2.2.2.2.2.2.2.2.2
theorem dB_798 : (decode cX5_readPlain 121 = .ok (.iconst 0, 1)) ∧ (decode cX5_readPlain 122 = .ok (.invokevirtual 147, 3)) ∧ (decode cX5_readPlain 125 = .ok (.ifCond .ne 5, 3)) ∧ (decode cX5_readPlain 99 = .ok (.iconst 0, 1)) ∧ (decode cX5_readPlain 100 = .ok (.ireturn, 1)) ∧ (decode cX5_readPlain 84 = .ok (.iconst 0, 1)) ∧ (decode cX5_readPlain 85 = .ok (.ireturn, 1)) ∧ (decode cX5_readPlain 46 = .ok (.aload_n 0, 1)) ∧ (decode cX5_readPlain 47 = .ok (.iload_n 1, 1)) ∧ (decode cX5_readPlain 48 = .ok (.invokevirtual 160, 3)) ∧ (decode cX5_readPlain 51 = .ok (.ifCond .eq 23, 3)) ∧ (decode cX5_readPlain 74 = .ok (.iconst 0, 1)) ∧ (decode cX5_readPlain 75 = .ok (.ireturn, 1)) ∧ (decode cX5_readPlain 54 = .ok (.aload_n 0, 1)) ∧ (decode cX5_readPlain 55 = .ok (.iload_n 1, 1)) ∧ (decode cX5_readPlain 56 = .ok (.iconst 1, 1)) := by decide +kernel
theorem dX5_readPlain_121 : decode cX5_readPlain 121 = .ok (.iconst 0, 1) := dB_798.1
theorem dX5_readPlain_122 : decode cX5_readPlain 122 = .ok (.invokevirtual 147, 3) := dB_798.2.1
theorem dX5_readPlain_125 : decode cX5_readPlain 125 = .ok (.ifCond .ne 5, 3) := dB_798.2.2.1
theorem dX5_readPlain_99 : decode cX5_readPlain 99 = .ok (.iconst 0, 1) := dB_798.2.2.2.1
theorem dX5_readPlain_100 : decode cX5_readPlain 100 = .ok (.ireturn, 1) := dB_798.2.2.2.2.1
theorem dX5_readPlain_84 : decode cX5_readPlain 84 = .ok (.iconst 0, 1) := dB_798.2.2.2.2.2.1
theorem dX5_readPlain_85 : decode cX5_readPlain 85 = .ok (.ireturn, 1) := dB_798.2.2.2.2.2.2.1
theorem dX5_readPlain_46 : decode cX5_readPlain 46 = .ok (.aload_n 0, 1) := dB_798.2.2.2.2.2.2.2.1
theorem dX5_readPlain_47 : decode cX5_readPlain 47 = .ok (.iload_n 1, 1) := dB_798.2.2.2.2.2.2.2.2.1
theorem dX5_readPlain_48 : decode cX5_readPlain 48 = .ok (.invokevirtual 160, 3) := dB_798.2.2.2.2.2.2.2.2.2.1
theorem dX5_readPlain_51 : decode cX5_readPlain 51 = .ok (.ifCond .eq 23, 3) := dB_798.2.2.2.2.2.2.2.2.2.2.1
theorem dX5_readPlain_74 : decode cX5_readPlain 74 = .ok (.iconst 0, 1) := dB_798.2.2.2.2.2.2.2.2.2.2.2.1
theorem dX5_readPlain_75 : decode cX5_readPlain 75 = .ok (.ireturn, 1) := dB_798.2.2.2.2.2.2.2.2.2.2.2.2.1
theorem dX5_readPlain_54 : decode cX5_readPlain 54 = .ok (.aload_n 0, 1) := dB_798.2.2.2.2.2.2.2.2.2.2.2.2.2.1
theorem dX5_readPlain_55 : decode cX5_readPlain 55 = .ok (.iload_n 1, 1) := dB_798.2.2.2.2.2.2.2.2.2.2.2.2.2.2.1
theorem dX5_readPlain_56 : decode cX5_readPlain 56 = .ok (.iconst 1, 1) := dB_798.2.2.2.2.2.2.2.2.2.2.2.2.2.2.2
theorem dB_799 : (decode cX5_readPlain 57 = .ok (.iadd, 1)) ∧ (decode cX5_readPlain 58 = .ok (.invokevirtual 150, 3)) ∧ (decode cX5_readPlain 61 = .ok (.ifCond .eq 13, 3)) ∧ (decode cX5_readPlain 64 = .ok (.aload_n 0, 1)) ∧ (decode cX5_readPlain 65 = .ok (.sipush 141, 3)) ∧ (decode cX5_readPlain 68 = .ok (.invokevirtual 90, 3)) ∧ (decode cX5_readPlain 71 = .ok (.ifCond .ne 59, 3)) ∧ (decode cX5_readPlain 130 = .ok (.iload_n 2, 1)) ∧ (decode cX5_readPlain 131 = .ok (.ifCond .eq 13, 3)) ∧ (decode cX5_readPlain 144 = .ok (.iconst 1, 1)) ∧ (decode cX5_readPlain 145 = .ok (.goto 4, 3)) ∧ (decode cX5_readPlain 149 = .ok (.ireturn, 1)) ∧ (decode cX5_readPlain 134 = .ok (.aload_n 0, 1)) ∧ (decode cX5_readPlain 135 = .ok (.bipush 10, 2)) ∧ (decode cX5_readPlain 137 = .ok (.iconst 0, 1)) ∧ (decode cX5_readPlain 138 = .ok (.invokevirtual 147, 3)) := by decide +kernel
theorem dX5_readPlain_57 : decode cX5_readPlain 57 = .ok (.iadd, 1) := dB_799.1
theorem dX5_readPlain_58 : decode cX5_readPlain 58 = .ok (.invokevirtual 150, 3) := dB_799.2.1
theorem dX5_readPlain_61 : decode cX5_readPlain 61 = .ok (.ifCond .eq 13, 3) := dB_799.2.2.1
theorem dX5_readPlain_64 : decode cX5_readPlain 64 = .ok (.aload_n 0, 1) := dB_799.2.2.2.1
theorem dX5_readPlain_65 : decode cX5_readPlain 65 = .ok (.sipush 141, 3) := dB_799.2.2.2.2.1
theorem dX5_readPlain_68 : decode cX5_readPlain 68 = .ok (.invokevirtual 90, 3) := dB_799.2.2.2.2.2.1
theorem dX5_readPlain_71 : decode cX5_readPlain 71 = .ok (.ifCond .ne 59, 3) := dB_799.2.2.2.2.2.2.1
theorem dX5_readPlain_130 : decode cX5_readPlain 130 = .ok (.iload_n 2, 1) := dB_799.2.2.2.2.2.2.2.1
theorem dX5_readPlain_131 : decode cX5_readPlain 131 = .ok (.ifCond .eq 13, 3) := dB_799.2.2.2.2.2.2.2.2.1
theorem dX5_readPlain_144 : decode cX5_readPlain 144 = .ok (.iconst 1, 1) := dB_799.2.2.2.2.2.2.2.2.2.1
theorem dX5_readPlain_145 : decode cX5_readPlain 145 = .ok (.goto 4, 3) := dB_799.2.2.2.2.2.2.2.2.2.2.1
theorem dX5_readPlain_149 : decode cX5_readPlain 149 = .ok (.ireturn, 1) := dB_799.2.2.2.2.2.2.2.2.2.2.2.1
theorem dX5_readPlain_134 : decode cX5_readPlain 134 = .ok (.aload_n 0, 1) := dB_799.2.2.2.2.2.2.2.2.2.2.2.2.1
theorem dX5_readPlain_135 : decode cX5_readPlain 135 = .ok (.bipush 10, 2) := dB_799.2.2.2.2.2.2.2.2.2.2.2.2.2.1
theorem dX5_readPlain_137 : decode cX5_readPlain 137 = .ok (.iconst 0, 1) := dB_799.2.2.2.2.2.2.2.2.2.2.2.2.2.2.1
theorem dX5_readPlain_138 : decode cX5_readPlain 138 = .ok (.invokevirtual 147, 3) := dB_799.2.2.2.2.2.2.2.2.2.2.2.2.2.2.2
theorem lk_RX5_150 : Cond.methodLink RX5 150 yX5_readTest ∈ gW := gW_u tb_4 82 (by rfl) (by decide +kernel)
theorem mI_X5_readTest : Cond.instanceMethod yX5_readTest ∈ gW := gW_u tb_4 84 (by rfl) (by decide +kernel)
theorem mS_X5_readTest : Cond.selects RX5 yX5_readTest yX5_readTest ∈ gW := gW_p (q := (yX5_readTest, 10)) 24 (by decide +kernel)
theorem mC_X5_readTest : Cond.code yX5_readTest cX5_readTest 6 (some .boolean) ∈ gW := gW_u tb_4 85 (by rfl) (by decide +kernel)
theorem ok_X5_readTest : okD yX5_readTest 1 := ⟨by decide +kernel, by decide +kernel, by decide +kernel⟩
theorem dX5_readPlain_141 : decode cX5_readPlain 141 = .ok (.ifCond .eq 7, 3) := by decide +kernel
theorem dX5_readPlain_148 : decode cX5_readPlain 148 = .ok (.iconst 0, 1) := by decide +kernel
theorem dB_800 : (decode cX5_readTest 0 = .ok (.iconst (-1), 1)) ∧ (decode cX5_readTest 1 = .ok (.istore_n 2, 1)) ∧ (decode cX5_readTest 2 = .ok (.iconst 0, 1)) ∧ (decode cX5_readTest 3 = .ok (.istore_n 3, 1)) ∧ (decode cX5_readTest 4 = .ok (.iload_n 3, 1)) ∧ (decode cX5_readTest 5 = .ok (.sipush 400, 3)) ∧ (decode cX5_readTest 8 = .ok (.if_icmp .ge 114, 3)) ∧ (decode cX5_readTest 11 = .ok (.iconst (-1), 1)) ∧ (decode cX5_readTest 12 = .ok (.istore 4, 2)) ∧ (decode cX5_readTest 14 = .ok (.iconst 0, 1)) ∧ (decode cX5_readTest 15 = .ok (.istore 5, 2)) ∧ (decode cX5_readTest 17 = .ok (.iload 5, 2)) ∧ (decode cX5_readTest 19 = .ok (.sipush 400, 3)) ∧ (decode cX5_readTest 22 = .ok (.if_icmp .ge 58, 3)) ∧ (decode cX5_readTest 25 = .ok (.aload_n 0, 1)) ∧ (decode cX5_readTest 26 = .ok (.iload_n 1, 1)) := by decide +kernel
theorem dX5_readTest_0 : decode cX5_readTest 0 = .ok (.iconst (-1), 1) := dB_800.1
theorem dX5_readTest_1 : decode cX5_readTest 1 = .ok (.istore_n 2, 1) := dB_800.2.1
theorem dX5_readTest_2 : decode cX5_readTest 2 = .ok (.iconst 0, 1) := dB_800.2.2.1
theorem dX5_readTest_3 : decode cX5_readTest 3 = .ok (.istore_n 3, 1) := dB_800.2.2.2.1
theorem dX5_readTest_4 : decode cX5_readTest 4 = .ok (.iload_n 3, 1) := dB_800.2.2.2.2.1
theorem dX5_readTest_5 : decode cX5_readTest 5 = .ok (.sipush 400, 3) := dB_800.2.2.2.2.2.1
theorem dX5_readTest_8 : decode cX5_readTest 8 = .ok (.if_icmp .ge 114, 3) := dB_800.2.2.2.2.2.2.1
theorem dX5_readTest_11 : decode cX5_readTest 11 = .ok (.iconst (-1), 1) := dB_800.2.2.2.2.2.2.2.1
theorem dX5_readTest_12 : decode cX5_readTest 12 = .ok (.istore 4, 2) := dB_800.2.2.2.2.2.2.2.2.1
theorem dX5_readTest_14 : decode cX5_readTest 14 = .ok (.iconst 0, 1) := dB_800.2.2.2.2.2.2.2.2.2.1
theorem dX5_readTest_15 : decode cX5_readTest 15 = .ok (.istore 5, 2) := dB_800.2.2.2.2.2.2.2.2.2.2.1
theorem dX5_readTest_17 : decode cX5_readTest 17 = .ok (.iload 5, 2) := dB_800.2.2.2.2.2.2.2.2.2.2.2.1
theorem dX5_readTest_19 : decode cX5_readTest 19 = .ok (.sipush 400, 3) := dB_800.2.2.2.2.2.2.2.2.2.2.2.2.1
theorem dX5_readTest_22 : decode cX5_readTest 22 = .ok (.if_icmp .ge 58, 3) := dB_800.2.2.2.2.2.2.2.2.2.2.2.2.2.1
theorem dX5_readTest_25 : decode cX5_readTest 25 = .ok (.aload_n 0, 1) := dB_800.2.2.2.2.2.2.2.2.2.2.2.2.2.2.1
theorem dX5_readTest_26 : decode cX5_readTest 26 = .ok (.iload_n 1, 1) := dB_800.2.2.2.2.2.2.2.2.2.2.2.2.2.2.2
theorem dB_801 : (decode cX5_readTest 27 = .ok (.invokevirtual 153, 3)) ∧ (decode cX5_readTest 30 = .ok (.ifCond .ne 5, 3)) ∧ (decode cX5_readTest 35 = .ok (.aload_n 0, 1)) ∧ (decode cX5_readTest 36 = .ok (.iload 4, 2)) ∧ (decode cX5_readTest 38 = .ok (.invokevirtual 156, 3)) ∧ (decode cX5_readTest 41 = .ok (.aload_n 0, 1)) ∧ (decode cX5_readTest 42 = .ok (.bipush 7, 2)) ∧ (decode cX5_readTest 44 = .ok (.invokevirtual 90, 3)) ∧ (decode cX5_readTest 47 = .ok (.ifCond .ne 6, 3)) ∧ (decode cX5_readTest 53 = .ok (.aload_n 0, 1)) ∧ (decode cX5_readTest 54 = .ok (.getfield 30, 3)) ∧ (decode cX5_readTest 57 = .ok (.getfield 72, 3)) ∧ (decode cX5_readTest 60 = .ok (.istore 4, 2)) ∧ (decode cX5_readTest 62 = .ok (.aload_n 0, 1)) ∧ (decode cX5_readTest 63 = .ok (.bipush 11, 2)) ∧ (decode cX5_readTest 65 = .ok (.iconst 0, 1)) := by decide +kernel
theorem dX5_readTest_27 : decode cX5_readTest 27 = .ok (.invokevirtual 153, 3) := dB_801.1
theorem dX5_readTest_30 : decode cX5_readTest 30 = .ok (.ifCond .ne 5, 3) := dB_801.2.1
theorem dX5_readTest_35 : decode cX5_readTest 35 = .ok (.aload_n 0, 1) := dB_801.2.2.1
theorem dX5_readTest_36 : decode cX5_readTest 36 = .ok (.iload 4, 2) := dB_801.2.2.2.1
theorem dX5_readTest_38 : decode cX5_readTest 38 = .ok (.invokevirtual 156, 3) := dB_801.2.2.2.2.1
theorem dX5_readTest_41 : decode cX5_readTest 41 = .ok (.aload_n 0, 1) := dB_801.2.2.2.2.2.1
theorem dX5_readTest_42 : decode cX5_readTest 42 = .ok (.bipush 7, 2) := dB_801.2.2.2.2.2.2.1
theorem dX5_readTest_44 : decode cX5_readTest 44 = .ok (.invokevirtual 90, 3) := dB_801.2.2.2.2.2.2.2.1
theorem dX5_readTest_47 : decode cX5_readTest 47 = .ok (.ifCond .ne 6, 3) := dB_801.2.2.2.2.2.2.2.2.1
theorem dX5_readTest_53 : decode cX5_readTest 53 = .ok (.aload_n 0, 1) := dB_801.2.2.2.2.2.2.2.2.2.1
theorem dX5_readTest_54 : decode cX5_readTest 54 = .ok (.getfield 30, 3) := dB_801.2.2.2.2.2.2.2.2.2.2.1
theorem dX5_readTest_57 : decode cX5_readTest 57 = .ok (.getfield 72, 3) := dB_801.2.2.2.2.2.2.2.2.2.2.2.1
theorem dX5_readTest_60 : decode cX5_readTest 60 = .ok (.istore 4, 2) := dB_801.2.2.2.2.2.2.2.2.2.2.2.2.1
theorem dX5_readTest_62 : decode cX5_readTest 62 = .ok (.aload_n 0, 1) := dB_801.2.2.2.2.2.2.2.2.2.2.2.2.2.1
theorem dX5_readTest_63 : decode cX5_readTest 63 = .ok (.bipush 11, 2) := dB_801.2.2.2.2.2.2.2.2.2.2.2.2.2.2.1
theorem dX5_readTest_65 : decode cX5_readTest 65 = .ok (.iconst 0, 1) := dB_801.2.2.2.2.2.2.2.2.2.2.2.2.2.2.2
theorem lk_RX5_153 : Cond.methodLink RX5 153 yX5_readPlain ∈ gW := gW_u tb_4 86 (by rfl) (by decide +kernel)
theorem mI_X5_readPlain : Cond.instanceMethod yX5_readPlain ∈ gW := gW_u tb_4 88 (by rfl) (by decide +kernel)
theorem mS_X5_readPlain : Cond.selects RX5 yX5_readPlain yX5_readPlain ∈ gW := gW_p (q := (yX5_readPlain, 10)) 25 (by decide +kernel)
theorem mC_X5_readPlain : Cond.code yX5_readPlain cX5_readPlain 4 (some .boolean) ∈ gW := gW_u tb_4 89 (by rfl) (by decide +kernel)
theorem ok_X5_readPlain : okD yX5_readPlain 1 := ⟨by decide +kernel, by decide +kernel, by decide +kernel⟩
theorem lk_RX5_156 : Cond.methodLink RX5 156 yX5_aimHere ∈ gW := gW_u tb_4 93 (by rfl) (by decide +kernel)
theorem mI_X5_aimHere : Cond.instanceMethod yX5_aimHere ∈ gW := gW_u tb_4 95 (by rfl) (by decide +kernel)
theorem mS_X5_aimHere : Cond.selects RX5 yX5_aimHere yX5_aimHere ∈ gW := gW_p (q := (yX5_aimHere, 10)) 26 (by decide +kernel)
theorem mC_X5_aimHere : Cond.code yX5_aimHere cX5_aimHere 2 none ∈ gW := gW_u tb_4 96 (by rfl) (by decide +kernel)
theorem ok_X5_aimHere : okD yX5_aimHere 1 := ⟨by decide +kernel, by decide +kernel, by decide +kernel⟩
theorem dB_802 : (decode cX5_readTest 66 = .ok (.invokevirtual 147, 3)) ∧ (decode cX5_readTest 69 = .ok (.ifCond .ne 5, 3)) ∧ (decode cX5_readTest 74 = .ok (.iinc 5 1, 3)) ∧ (decode cX5_readTest 77 = .ok (.goto (-60), 3)) ∧ (decode cX5_readTest 72 = .ok (.iconst 0, 1)) ∧ (decode cX5_readTest 73 = .ok (.ireturn, 1)) ∧ (decode cX5_readTest 50 = .ok (.goto 30, 3)) ∧ (decode cX5_readTest 33 = .ok (.iconst 0, 1)) ∧ (decode cX5_readTest 34 = .ok (.ireturn, 1)) ∧ (decode cX5_readTest 80 = .ok (.aload_n 0, 1)) ∧ (decode cX5_readTest 81 = .ok (.iload_n 2, 1)) ∧ (decode cX5_readTest 82 = .ok (.invokevirtual 156, 3)) ∧ (decode cX5_readTest 85 = .ok (.aload_n 0, 1)) ∧ (decode cX5_readTest 86 = .ok (.bipush 6, 2)) ∧ (decode cX5_readTest 88 = .ok (.invokevirtual 90, 3)) ∧ (decode cX5_readTest 91 = .ok (.ifCond .ne 5, 3)) := by decide +kernel
theorem dX5_readTest_66 : decode cX5_readTest 66 = .ok (.invokevirtual 147, 3) := dB_802.1
theorem dX5_readTest_69 : decode cX5_readTest 69 = .ok (.ifCond .ne 5, 3) := dB_802.2.1
theorem dX5_readTest_74 : decode cX5_readTest 74 = .ok (.iinc 5 1, 3) := dB_802.2.2.1
theorem dX5_readTest_77 : decode cX5_readTest 77 = .ok (.goto (-60), 3) := dB_802.2.2.2.1
theorem dX5_readTest_72 : decode cX5_readTest 72 = .ok (.iconst 0, 1) := dB_802.2.2.2.2.1
theorem dX5_readTest_73 : decode cX5_readTest 73 = .ok (.ireturn, 1) := dB_802.2.2.2.2.2.1
theorem dX5_readTest_50 : decode cX5_readTest 50 = .ok (.goto 30, 3) := dB_802.2.2.2.2.2.2.1
theorem dX5_readTest_33 : decode cX5_readTest 33 = .ok (.iconst 0, 1) := dB_802.2.2.2.2.2.2.2.1
theorem dX5_readTest_34 : decode cX5_readTest 34 = .ok (.ireturn, 1) := dB_802.2.2.2.2.2.2.2.2.1
theorem dX5_readTest_80 : decode cX5_readTest 80 = .ok (.aload_n 0, 1) := dB_802.2.2.2.2.2.2.2.2.2.1
theorem dX5_readTest_81 : decode cX5_readTest 81 = .ok (.iload_n 2, 1) := dB_802.2.2.2.2.2.2.2.2.2.2.1
theorem dX5_readTest_82 : decode cX5_readTest 82 = .ok (.invokevirtual 156, 3) := dB_802.2.2.2.2.2.2.2.2.2.2.2.1
theorem dX5_readTest_85 : decode cX5_readTest 85 = .ok (.aload_n 0, 1) := dB_802.2.2.2.2.2.2.2.2.2.2.2.2.1
theorem dX5_readTest_86 : decode cX5_readTest 86 = .ok (.bipush 6, 2) := dB_802.2.2.2.2.2.2.2.2.2.2.2.2.2.1
theorem dX5_readTest_88 : decode cX5_readTest 88 = .ok (.invokevirtual 90, 3) := dB_802.2.2.2.2.2.2.2.2.2.2.2.2.2.2.1
theorem dX5_readTest_91 : decode cX5_readTest 91 = .ok (.ifCond .ne 5, 3) := dB_802.2.2.2.2.2.2.2.2.2.2.2.2.2.2.2
theorem dB_803 : (decode cX5_readTest 96 = .ok (.aload_n 0, 1)) ∧ (decode cX5_readTest 97 = .ok (.getfield 30, 3)) ∧ (decode cX5_readTest 100 = .ok (.getfield 72, 3)) ∧ (decode cX5_readTest 103 = .ok (.istore_n 2, 1)) ∧ (decode cX5_readTest 104 = .ok (.aload_n 0, 1)) ∧ (decode cX5_readTest 105 = .ok (.bipush 12, 2)) ∧ (decode cX5_readTest 107 = .ok (.iconst 0, 1)) ∧ (decode cX5_readTest 108 = .ok (.invokevirtual 147, 3)) ∧ (decode cX5_readTest 111 = .ok (.ifCond .ne 5, 3)) ∧ (decode cX5_readTest 116 = .ok (.iinc 3 1, 3)) ∧ (decode cX5_readTest 119 = .ok (.goto (-115), 3)) ∧ (decode cX5_readTest 114 = .ok (.iconst 0, 1)) ∧ (decode cX5_readTest 115 = .ok (.ireturn, 1)) ∧ (decode cX5_readTest 94 = .ok (.iconst 1, 1)) ∧ (decode cX5_readTest 95 = .ok (.ireturn, 1)) ∧ (decode cX5_readTest 122 = .ok (.iconst 0, 1)) := by decide +kernel
theorem dX5_readTest_96 : decode cX5_readTest 96 = .ok (.aload_n 0, 1) := dB_803.1
theorem dX5_readTest_97 : decode cX5_readTest 97 = .ok (.getfield 30, 3) := dB_803.2.1
theorem dX5_readTest_100 : decode cX5_readTest 100 = .ok (.getfield 72, 3) := dB_803.2.2.1
theorem dX5_readTest_103 : decode cX5_readTest 103 = .ok (.istore_n 2, 1) := dB_803.2.2.2.1
theorem dX5_readTest_104 : decode cX5_readTest 104 = .ok (.aload_n 0, 1) := dB_803.2.2.2.2.1
theorem dX5_readTest_105 : decode cX5_readTest 105 = .ok (.bipush 12, 2) := dB_803.2.2.2.2.2.1
theorem dX5_readTest_107 : decode cX5_readTest 107 = .ok (.iconst 0, 1) := dB_803.2.2.2.2.2.2.1
theorem dX5_readTest_108 : decode cX5_readTest 108 = .ok (.invokevirtual 147, 3) := dB_803.2.2.2.2.2.2.2.1
theorem dX5_readTest_111 : decode cX5_readTest 111 = .ok (.ifCond .ne 5, 3) := dB_803.2.2.2.2.2.2.2.2.1
theorem dX5_readTest_116 : decode cX5_readTest 116 = .ok (.iinc 3 1, 3) := dB_803.2.2.2.2.2.2.2.2.2.1
theorem dX5_readTest_119 : decode cX5_readTest 119 = .ok (.goto (-115), 3) := dB_803.2.2.2.2.2.2.2.2.2.2.1
theorem dX5_readTest_114 : decode cX5_readTest 114 = .ok (.iconst 0, 1) := dB_803.2.2.2.2.2.2.2.2.2.2.2.1
theorem dX5_readTest_115 : decode cX5_readTest 115 = .ok (.ireturn, 1) := dB_803.2.2.2.2.2.2.2.2.2.2.2.2.1
theorem dX5_readTest_94 : decode cX5_readTest 94 = .ok (.iconst 1, 1) := dB_803.2.2.2.2.2.2.2.2.2.2.2.2.2.1
theorem dX5_readTest_95 : decode cX5_readTest 95 = .ok (.ireturn, 1) := dB_803.2.2.2.2.2.2.2.2.2.2.2.2.2.2.1
theorem dX5_readTest_122 : decode cX5_readTest 122 = .ok (.iconst 0, 1) := dB_803.2.2.2.2.2.2.2.2.2.2.2.2.2.2.2
theorem dX5_readTest_123 : decode cX5_readTest 123 = .ok (.ireturn, 1) := by decide +kernel
def yX8_init : MethodName := ⟨RX8, "<init>", "(II)V"⟩
abbrev cX8_init : ByteArray := prog_10_method_1_code
theorem dB_804 : (decode cX8_init 0 = .ok (.aload_n 0, 1)) ∧ (decode cX8_init 1 = .ok (.invokespecial 3, 3)) ∧ (decode cX8_init 4 = .ok (.aload_n 0, 1)) ∧ (decode cX8_init 5 = .ok (.iconst 5, 1)) ∧ (decode cX8_init 6 = .ok (.iconst 0, 1)) ∧ (decode cX8_init 7 = .ok (.iload_n 1, 1)) ∧ (decode cX8_init 8 = .ok (.invokestatic 11, 3)) ∧ (decode cX8_init 11 = .ok (.imul, 1)) ∧ (decode cX8_init 12 = .ok (.newarray .int, 2)) ∧ (decode cX8_init 14 = .ok (.putfield 17, 3)) ∧ (decode cX8_init 17 = .ok (.aload_n 0, 1)) ∧ (decode cX8_init 18 = .ok (.iconst 0, 1)) ∧ (decode cX8_init 19 = .ok (.iload_n 2, 1)) ∧ (decode cX8_init 20 = .ok (.invokestatic 11, 3)) ∧ (decode cX8_init 23 = .ok (.newarray .int, 2)) ∧ (decode cX8_init 25 = .ok (.putfield 21, 3)) := by decide +kernel
theorem dX8_init_0 : decode cX8_init 0 = .ok (.aload_n 0, 1) := dB_804.1
theorem dX8_init_1 : decode cX8_init 1 = .ok (.invokespecial 3, 3) := dB_804.2.1
theorem dX8_init_4 : decode cX8_init 4 = .ok (.aload_n 0, 1) := dB_804.2.2.1
theorem dX8_init_5 : decode cX8_init 5 = .ok (.iconst 5, 1) := dB_804.2.2.2.1
theorem dX8_init_6 : decode cX8_init 6 = .ok (.iconst 0, 1) := dB_804.2.2.2.2.1
theorem dX8_init_7 : decode cX8_init 7 = .ok (.iload_n 1, 1) := dB_804.2.2.2.2.2.1
theorem dX8_init_8 : decode cX8_init 8 = .ok (.invokestatic 11, 3) := dB_804.2.2.2.2.2.2.1
theorem dX8_init_11 : decode cX8_init 11 = .ok (.imul, 1) := dB_804.2.2.2.2.2.2.2.1
theorem dX8_init_12 : decode cX8_init 12 = .ok (.newarray .int, 2) := dB_804.2.2.2.2.2.2.2.2.1
theorem dX8_init_14 : decode cX8_init 14 = .ok (.putfield 17, 3) := dB_804.2.2.2.2.2.2.2.2.2.1
theorem dX8_init_17 : decode cX8_init 17 = .ok (.aload_n 0, 1) := dB_804.2.2.2.2.2.2.2.2.2.2.1
theorem dX8_init_18 : decode cX8_init 18 = .ok (.iconst 0, 1) := dB_804.2.2.2.2.2.2.2.2.2.2.2.1
theorem dX8_init_19 : decode cX8_init 19 = .ok (.iload_n 2, 1) := dB_804.2.2.2.2.2.2.2.2.2.2.2.2.1
theorem dX8_init_20 : decode cX8_init 20 = .ok (.invokestatic 11, 3) := dB_804.2.2.2.2.2.2.2.2.2.2.2.2.2.1
theorem dX8_init_23 : decode cX8_init 23 = .ok (.newarray .int, 2) := dB_804.2.2.2.2.2.2.2.2.2.2.2.2.2.2.1
theorem dX8_init_25 : decode cX8_init 25 = .ok (.putfield 21, 3) := dB_804.2.2.2.2.2.2.2.2.2.2.2.2.2.2.2
theorem lk_RX8_3 : Cond.methodLink RX8 3 objectInit ∈ gW := gW_u tb_2 82 (by rfl) (by decide +kernel)
theorem ob_i : Cond.instanceMethod objectInit ∈ gW := gW_u tb_1 29 (by rfl) (by decide +kernel)
theorem ob_c : Cond.code objectInit ⟨#[0xb1]⟩ 1 none ∈ gW := gW_u tb_1 30 (by rfl) (by decide +kernel)
theorem lk_RX8_11 : Cond.methodLink RX8 11 Lib.Math.max.name ∈ gW := gW_u tb_2 83 (by rfl) (by decide +kernel)
theorem fl_RX8_21 : Cond.fieldLink RX8 21 RX8 "code" "[I" ∈ gW := gW_u tb_2 87 (by rfl) (by decide +kernel)
theorem dX8_init_28 : decode cX8_init 28 = .ok (.return_, 1) := by decide +kernel
def yX8_trimmed : MethodName := ⟨RX8, "trimmed", "()LListenWells$Text;"⟩
abbrev cX8_trimmed : ByteArray := prog_10_method_4_code
theorem dB_805 : (decode cX8_trimmed 0 = .ok (.new 9, 3)) ∧ (decode cX8_trimmed 3 = .ok (.dup, 1)) ∧ (decode cX8_trimmed 4 = .ok (.aload_n 0, 1)) ∧ (decode cX8_trimmed 5 = .ok (.getfield 24, 3)) ∧ (decode cX8_trimmed 8 = .ok (.aload_n 0, 1)) ∧ (decode cX8_trimmed 9 = .ok (.getfield 28, 3)) ∧ (decode cX8_trimmed 12 = .ok (.invokespecial 31, 3)) ∧ (decode cX8_trimmed 15 = .ok (.astore_n 1, 1)) ∧ (decode cX8_trimmed 16 = .ok (.aload_n 0, 1)) ∧ (decode cX8_trimmed 17 = .ok (.getfield 17, 3)) ∧ (decode cX8_trimmed 20 = .ok (.iconst 0, 1)) ∧ (decode cX8_trimmed 21 = .ok (.aload_n 1, 1)) ∧ (decode cX8_trimmed 22 = .ok (.getfield 17, 3)) ∧ (decode cX8_trimmed 25 = .ok (.iconst 0, 1)) ∧ (decode cX8_trimmed 26 = .ok (.aload_n 1, 1)) ∧ (decode cX8_trimmed 27 = .ok (.getfield 17, 3)) := by decide +kernel
theorem dX8_trimmed_0 : decode cX8_trimmed 0 = .ok (.new 9, 3) := dB_805.1
theorem dX8_trimmed_3 : decode cX8_trimmed 3 = .ok (.dup, 1) := dB_805.2.1
theorem dX8_trimmed_4 : decode cX8_trimmed 4 = .ok (.aload_n 0, 1) := dB_805.2.2.1
theorem dX8_trimmed_5 : decode cX8_trimmed 5 = .ok (.getfield 24, 3) := dB_805.2.2.2.1
theorem dX8_trimmed_8 : decode cX8_trimmed 8 = .ok (.aload_n 0, 1) := dB_805.2.2.2.2.1
theorem dX8_trimmed_9 : decode cX8_trimmed 9 = .ok (.getfield 28, 3) := dB_805.2.2.2.2.2.1
theorem dX8_trimmed_12 : decode cX8_trimmed 12 = .ok (.invokespecial 31, 3) := dB_805.2.2.2.2.2.2.1
theorem dX8_trimmed_15 : decode cX8_trimmed 15 = .ok (.astore_n 1, 1) := dB_805.2.2.2.2.2.2.2.1
theorem dX8_trimmed_16 : decode cX8_trimmed 16 = .ok (.aload_n 0, 1) := dB_805.2.2.2.2.2.2.2.2.1
theorem dX8_trimmed_17 : decode cX8_trimmed 17 = .ok (.getfield 17, 3) := dB_805.2.2.2.2.2.2.2.2.2.1
theorem dX8_trimmed_20 : decode cX8_trimmed 20 = .ok (.iconst 0, 1) := dB_805.2.2.2.2.2.2.2.2.2.2.1
theorem dX8_trimmed_21 : decode cX8_trimmed 21 = .ok (.aload_n 1, 1) := dB_805.2.2.2.2.2.2.2.2.2.2.2.1
theorem dX8_trimmed_22 : decode cX8_trimmed 22 = .ok (.getfield 17, 3) := dB_805.2.2.2.2.2.2.2.2.2.2.2.2.1
theorem dX8_trimmed_25 : decode cX8_trimmed 25 = .ok (.iconst 0, 1) := dB_805.2.2.2.2.2.2.2.2.2.2.2.2.2.1
theorem dX8_trimmed_26 : decode cX8_trimmed 26 = .ok (.aload_n 1, 1) := dB_805.2.2.2.2.2.2.2.2.2.2.2.2.2.2.1
theorem dX8_trimmed_27 : decode cX8_trimmed 27 = .ok (.getfield 17, 3) := dB_805.2.2.2.2.2.2.2.2.2.2.2.2.2.2.2
theorem cl_RX8_9 : Cond.classLink RX8 9 RX8 ∈ gW := gW_u tb_4 105 (by rfl) (by decide +kernel)
theorem it_RX8 : Cond.instantiable RX8 4 ∈ gW := gW_u tb_2 78 (by rfl) (by decide +kernel)
theorem fl_RX8_24 : Cond.fieldLink RX8 24 RX8 "clauses" "I" ∈ gW := gW_u tb_2 90 (by rfl) (by decide +kernel)
theorem fl_RX8_28 : Cond.fieldLink RX8 28 RX8 "length" "I" ∈ gW := gW_u tb_2 94 (by rfl) (by decide +kernel)
theorem lk_RX8_31 : Cond.methodLink RX8 31 yX8_init ∈ gW := gW_u tb_4 106 (by rfl) (by decide +kernel)
theorem mI_X8_init : Cond.instanceMethod yX8_init ∈ gW := gW_u tb_2 80 (by rfl) (by decide +kernel)
theorem mC_X8_init : Cond.code yX8_init cX8_init 3 none ∈ gW := gW_u tb_2 81 (by rfl) (by decide +kernel)
theorem ok_X8_init : okD yX8_init 2 := ⟨by decide +kernel, by decide +kernel, by decide +kernel⟩
theorem dB_806 : (decode cX8_trimmed 30 = .ok (.arraylength, 1)) ∧ (decode cX8_trimmed 31 = .ok (.invokestatic 34, 3)) ∧ (decode cX8_trimmed 34 = .ok (.aload_n 0, 1)) ∧ (decode cX8_trimmed 35 = .ok (.getfield 21, 3)) ∧ (decode cX8_trimmed 38 = .ok (.iconst 0, 1)) ∧ (decode cX8_trimmed 39 = .ok (.aload_n 1, 1)) ∧ (decode cX8_trimmed 40 = .ok (.getfield 21, 3)) ∧ (decode cX8_trimmed 43 = .ok (.iconst 0, 1)) ∧ (decode cX8_trimmed 44 = .ok (.aload_n 1, 1)) ∧ (decode cX8_trimmed 45 = .ok (.getfield 21, 3)) ∧ (decode cX8_trimmed 48 = .ok (.arraylength, 1)) ∧ (decode cX8_trimmed 49 = .ok (.invokestatic 34, 3)) ∧ (decode cX8_trimmed 52 = .ok (.aload_n 1, 1)) ∧ (decode cX8_trimmed 53 = .ok (.aload_n 0, 1)) ∧ (decode cX8_trimmed 54 = .ok (.getfield 24, 3)) ∧ (decode cX8_trimmed 57 = .ok (.putfield 24, 3)) := by decide +kernel
theorem dX8_trimmed_30 : decode cX8_trimmed 30 = .ok (.arraylength, 1) := dB_806.1
theorem dX8_trimmed_31 : decode cX8_trimmed 31 = .ok (.invokestatic 34, 3) := dB_806.2.1
theorem dX8_trimmed_34 : decode cX8_trimmed 34 = .ok (.aload_n 0, 1) := dB_806.2.2.1
theorem dX8_trimmed_35 : decode cX8_trimmed 35 = .ok (.getfield 21, 3) := dB_806.2.2.2.1
theorem dX8_trimmed_38 : decode cX8_trimmed 38 = .ok (.iconst 0, 1) := dB_806.2.2.2.2.1
theorem dX8_trimmed_39 : decode cX8_trimmed 39 = .ok (.aload_n 1, 1) := dB_806.2.2.2.2.2.1
theorem dX8_trimmed_40 : decode cX8_trimmed 40 = .ok (.getfield 21, 3) := dB_806.2.2.2.2.2.2.1
theorem dX8_trimmed_43 : decode cX8_trimmed 43 = .ok (.iconst 0, 1) := dB_806.2.2.2.2.2.2.2.1
theorem dX8_trimmed_44 : decode cX8_trimmed 44 = .ok (.aload_n 1, 1) := dB_806.2.2.2.2.2.2.2.2.1
theorem dX8_trimmed_45 : decode cX8_trimmed 45 = .ok (.getfield 21, 3) := dB_806.2.2.2.2.2.2.2.2.2.1
theorem dX8_trimmed_48 : decode cX8_trimmed 48 = .ok (.arraylength, 1) := dB_806.2.2.2.2.2.2.2.2.2.2.1
theorem dX8_trimmed_49 : decode cX8_trimmed 49 = .ok (.invokestatic 34, 3) := dB_806.2.2.2.2.2.2.2.2.2.2.2.1
theorem dX8_trimmed_52 : decode cX8_trimmed 52 = .ok (.aload_n 1, 1) := dB_806.2.2.2.2.2.2.2.2.2.2.2.2.1
theorem dX8_trimmed_53 : decode cX8_trimmed 53 = .ok (.aload_n 0, 1) := dB_806.2.2.2.2.2.2.2.2.2.2.2.2.2.1
theorem dX8_trimmed_54 : decode cX8_trimmed 54 = .ok (.getfield 24, 3) := dB_806.2.2.2.2.2.2.2.2.2.2.2.2.2.2.1
theorem dX8_trimmed_57 : decode cX8_trimmed 57 = .ok (.putfield 24, 3) := dB_806.2.2.2.2.2.2.2.2.2.2.2.2.2.2.2
theorem lk_RX8_34 : Cond.methodLink RX8 34 arraycopyName ∈ gW := gW_u tb_4 107 (by rfl) (by decide +kernel)
theorem dB_807 : (decode cX8_trimmed 60 = .ok (.aload_n 1, 1)) ∧ (decode cX8_trimmed 61 = .ok (.aload_n 0, 1)) ∧ (decode cX8_trimmed 62 = .ok (.getfield 28, 3)) ∧ (decode cX8_trimmed 65 = .ok (.putfield 28, 3)) ∧ (decode cX8_trimmed 68 = .ok (.aload_n 1, 1)) ∧ (decode cX8_trimmed 69 = .ok (.areturn, 1)) := by decide +kernel
theorem dX8_trimmed_60 : decode cX8_trimmed 60 = .ok (.aload_n 1, 1) := dB_807.1
theorem dX8_trimmed_61 : decode cX8_trimmed 61 = .ok (.aload_n 0, 1) := dB_807.2.1
theorem dX8_trimmed_62 : decode cX8_trimmed 62 = .ok (.getfield 28, 3) := dB_807.2.2.1
theorem dX8_trimmed_65 : decode cX8_trimmed 65 = .ok (.putfield 28, 3) := dB_807.2.2.2.1
theorem dX8_trimmed_68 : decode cX8_trimmed 68 = .ok (.aload_n 1, 1) := dB_807.2.2.2.2.1
theorem dX8_trimmed_69 : decode cX8_trimmed 69 = .ok (.areturn, 1) := dB_807.2.2.2.2.2
def yX5_isWord : MethodName := ⟨RX5, "isWord", "(III)Z"⟩
abbrev cX5_isWord : ByteArray := prog_7_method_11_code
theorem dB_808 : (decode cX5_isWord 0 = .ok (.bipush 8, 2)) ∧ (decode cX5_isWord 2 = .ok (.iload_n 1, 1)) ∧ (decode cX5_isWord 3 = .ok (.imul, 1)) ∧ (decode cX5_isWord 4 = .ok (.istore 4, 2)) ∧ (decode cX5_isWord 6 = .ok (.iload_n 2, 1)) ∧ (decode cX5_isWord 7 = .ok (.istore 5, 2)) ∧ (decode cX5_isWord 9 = .ok (.iload 5, 2)) ∧ (decode cX5_isWord 11 = .ok (.iload_n 3, 1)) ∧ (decode cX5_isWord 12 = .ok (.if_icmp .ge 33, 3)) ∧ (decode cX5_isWord 15 = .ok (.ldc 122, 2)) ∧ (decode cX5_isWord 17 = .ok (.iload 4, 2)) ∧ (decode cX5_isWord 19 = .ok (.iload 5, 2)) ∧ (decode cX5_isWord 21 = .ok (.iadd, 1)) ∧ (decode cX5_isWord 22 = .ok (.iload_n 2, 1)) ∧ (decode cX5_isWord 23 = .ok (.isub, 1)) ∧ (decode cX5_isWord 24 = .ok (.invokevirtual 124, 3)) := by decide +kernel
theorem dX5_isWord_0 : decode cX5_isWord 0 = .ok (.bipush 8, 2) := dB_808.1
theorem dX5_isWord_2 : decode cX5_isWord 2 = .ok (.iload_n 1, 1) := dB_808.2.1
theorem dX5_isWord_3 : decode cX5_isWord 3 = .ok (.imul, 1) := dB_808.2.2.1
theorem dX5_isWord_4 : decode cX5_isWord 4 = .ok (.istore 4, 2) := dB_808.2.2.2.1
theorem dX5_isWord_6 : decode cX5_isWord 6 = .ok (.iload_n 2, 1) := dB_808.2.2.2.2.1
theorem dX5_isWord_7 : decode cX5_isWord 7 = .ok (.istore 5, 2) := dB_808.2.2.2.2.2.1
theorem dX5_isWord_9 : decode cX5_isWord 9 = .ok (.iload 5, 2) := dB_808.2.2.2.2.2.2.1
theorem dX5_isWord_11 : decode cX5_isWord 11 = .ok (.iload_n 3, 1) := dB_808.2.2.2.2.2.2.2.1
theorem dX5_isWord_12 : decode cX5_isWord 12 = .ok (.if_icmp .ge 33, 3) := dB_808.2.2.2.2.2.2.2.2.1
theorem dX5_isWord_15 : decode cX5_isWord 15 = .ok (.ldc 122, 2) := dB_808.2.2.2.2.2.2.2.2.2.1
theorem dX5_isWord_17 : decode cX5_isWord 17 = .ok (.iload 4, 2) := dB_808.2.2.2.2.2.2.2.2.2.2.1
theorem dX5_isWord_19 : decode cX5_isWord 19 = .ok (.iload 5, 2) := dB_808.2.2.2.2.2.2.2.2.2.2.2.1
theorem dX5_isWord_21 : decode cX5_isWord 21 = .ok (.iadd, 1) := dB_808.2.2.2.2.2.2.2.2.2.2.2.2.1
theorem dX5_isWord_22 : decode cX5_isWord 22 = .ok (.iload_n 2, 1) := dB_808.2.2.2.2.2.2.2.2.2.2.2.2.2.1
theorem dX5_isWord_23 : decode cX5_isWord 23 = .ok (.isub, 1) := dB_808.2.2.2.2.2.2.2.2.2.2.2.2.2.2.1
theorem dX5_isWord_24 : decode cX5_isWord 24 = .ok (.invokevirtual 124, 3) := dB_808.2.2.2.2.2.2.2.2.2.2.2.2.2.2.2
theorem lk_RX5_124 : Cond.methodLink RX5 124 yJ0_charAt_5068e ∈ gW := gW_u tb_3 204 (by rfl) (by decide +kernel)
theorem mI_J0_charAt_5068e : Cond.instanceMethod yJ0_charAt_5068e ∈ gW := gW_u tb_3 205 (by rfl) (by decide +kernel)
theorem mS_J0_charAt_5068e : Cond.selects RJ0 yJ0_charAt_5068e yJ0_charAt_5068e ∈ gW := gW_u tb_3 206 (by rfl) (by decide +kernel)
theorem mC_J0_charAt_5068e : Cond.code yJ0_charAt_5068e cJ0_charAt_5068e 2 (some .char) ∈ gW := gW_u tb_3 207 (by rfl) (by decide +kernel)
theorem ok_J0_charAt_5068e : okD yJ0_charAt_5068e 1 := ⟨by decide +kernel, by decide +kernel, by decide +kernel⟩
theorem dB_809 : (decode cX5_isWord 27 = .ok (.aload_n 0, 1)) ∧ (decode cX5_isWord 28 = .ok (.getfield 9, 3)) ∧ (decode cX5_isWord 31 = .ok (.iload 5, 2)) ∧ (decode cX5_isWord 33 = .ok (.iaload, 1)) ∧ (decode cX5_isWord 34 = .ok (.if_icmp .eq 5, 3)) ∧ (decode cX5_isWord 39 = .ok (.iinc 5 1, 3)) ∧ (decode cX5_isWord 42 = .ok (.goto (-33), 3)) ∧ (decode cX5_isWord 37 = .ok (.iconst 0, 1)) ∧ (decode cX5_isWord 38 = .ok (.ireturn, 1)) ∧ (decode cX5_isWord 45 = .ok (.ldc 122, 2)) ∧ (decode cX5_isWord 47 = .ok (.iload 4, 2)) ∧ (decode cX5_isWord 49 = .ok (.iload_n 3, 1)) ∧ (decode cX5_isWord 50 = .ok (.iadd, 1)) ∧ (decode cX5_isWord 51 = .ok (.iload_n 2, 1)) ∧ (decode cX5_isWord 52 = .ok (.isub, 1)) ∧ (decode cX5_isWord 53 = .ok (.invokevirtual 124, 3)) := by decide +kernel
theorem dX5_isWord_27 : decode cX5_isWord 27 = .ok (.aload_n 0, 1) := dB_809.1
theorem dX5_isWord_28 : decode cX5_isWord 28 = .ok (.getfield 9, 3) := dB_809.2.1
theorem dX5_isWord_31 : decode cX5_isWord 31 = .ok (.iload 5, 2) := dB_809.2.2.1
theorem dX5_isWord_33 : decode cX5_isWord 33 = .ok (.iaload, 1) := dB_809.2.2.2.1
theorem dX5_isWord_34 : decode cX5_isWord 34 = .ok (.if_icmp .eq 5, 3) := dB_809.2.2.2.2.1
theorem dX5_isWord_39 : decode cX5_isWord 39 = .ok (.iinc 5 1, 3) := dB_809.2.2.2.2.2.1
theorem dX5_isWord_42 : decode cX5_isWord 42 = .ok (.goto (-33), 3) := dB_809.2.2.2.2.2.2.1
theorem dX5_isWord_37 : decode cX5_isWord 37 = .ok (.iconst 0, 1) := dB_809.2.2.2.2.2.2.2.1
theorem dX5_isWord_38 : decode cX5_isWord 38 = .ok (.ireturn, 1) := dB_809.2.2.2.2.2.2.2.2.1
theorem dX5_isWord_45 : decode cX5_isWord 45 = .ok (.ldc 122, 2) := dB_809.2.2.2.2.2.2.2.2.2.1
theorem dX5_isWord_47 : decode cX5_isWord 47 = .ok (.iload 4, 2) := dB_809.2.2.2.2.2.2.2.2.2.2.1
theorem dX5_isWord_49 : decode cX5_isWord 49 = .ok (.iload_n 3, 1) := dB_809.2.2.2.2.2.2.2.2.2.2.2.1
theorem dX5_isWord_50 : decode cX5_isWord 50 = .ok (.iadd, 1) := dB_809.2.2.2.2.2.2.2.2.2.2.2.2.1
theorem dX5_isWord_51 : decode cX5_isWord 51 = .ok (.iload_n 2, 1) := dB_809.2.2.2.2.2.2.2.2.2.2.2.2.2.1
theorem dX5_isWord_52 : decode cX5_isWord 52 = .ok (.isub, 1) := dB_809.2.2.2.2.2.2.2.2.2.2.2.2.2.2.1
theorem dX5_isWord_53 : decode cX5_isWord 53 = .ok (.invokevirtual 124, 3) := dB_809.2.2.2.2.2.2.2.2.2.2.2.2.2.2.2
theorem dB_810 : (decode cX5_isWord 56 = .ok (.bipush 32, 2)) ∧ (decode cX5_isWord 58 = .ok (.if_icmp .ne 7, 3)) ∧ (decode cX5_isWord 65 = .ok (.iconst 0, 1)) ∧ (decode cX5_isWord 66 = .ok (.ireturn, 1)) ∧ (decode cX5_isWord 61 = .ok (.iconst 1, 1)) ∧ (decode cX5_isWord 62 = .ok (.goto 4, 3)) := by decide +kernel
theorem dX5_isWord_56 : decode cX5_isWord 56 = .ok (.bipush 32, 2) := dB_810.1
theorem dX5_isWord_58 : decode cX5_isWord 58 = .ok (.if_icmp .ne 7, 3) := dB_810.2.1
theorem dX5_isWord_65 : decode cX5_isWord 65 = .ok (.iconst 0, 1) := dB_810.2.2.1
theorem dX5_isWord_66 : decode cX5_isWord 66 = .ok (.ireturn, 1) := dB_810.2.2.2.1
theorem dX5_isWord_61 : decode cX5_isWord 61 = .ok (.iconst 1, 1) := dB_810.2.2.2.2.1
theorem dX5_isWord_62 : decode cX5_isWord 62 = .ok (.goto 4, 3) := dB_810.2.2.2.2.2
def yX5_readSumOf : MethodName := ⟨RX5, "readSumOf", "(I)Z"⟩
abbrev cX5_readSumOf : ByteArray := prog_7_method_19_code
theorem dB_811 : (decode cX5_readSumOf 0 = .ok (.aload_n 0, 1)) ∧ (decode cX5_readSumOf 1 = .ok (.iload_n 1, 1)) ∧ (decode cX5_readSumOf 2 = .ok (.aload_n 0, 1)) ∧ (decode cX5_readSumOf 3 = .ok (.getfield 30, 3)) ∧ (decode cX5_readSumOf 6 = .ok (.getfield 72, 3)) ∧ (decode cX5_readSumOf 9 = .ok (.invokevirtual 130, 3)) ∧ (decode cX5_readSumOf 12 = .ok (.aload_n 0, 1)) ∧ (decode cX5_readSumOf 13 = .ok (.iconst 0, 1)) ∧ (decode cX5_readSumOf 14 = .ok (.invokevirtual 142, 3)) ∧ (decode cX5_readSumOf 17 = .ok (.ifCond .eq 16, 3)) ∧ (decode cX5_readSumOf 33 = .ok (.iconst 0, 1)) ∧ (decode cX5_readSumOf 34 = .ok (.ireturn, 1)) ∧ (decode cX5_readSumOf 20 = .ok (.aload_n 0, 1)) ∧ (decode cX5_readSumOf 21 = .ok (.iconst 0, 1)) ∧ (decode cX5_readSumOf 22 = .ok (.iconst 0, 1)) ∧ (decode cX5_readSumOf 23 = .ok (.invokevirtual 147, 3)) := by decide +kernel
theorem dX5_readSumOf_0 : decode cX5_readSumOf 0 = .ok (.aload_n 0, 1) := dB_811.1
theorem dX5_readSumOf_1 : decode cX5_readSumOf 1 = .ok (.iload_n 1, 1) := dB_811.2.1
theorem dX5_readSumOf_2 : decode cX5_readSumOf 2 = .ok (.aload_n 0, 1) := dB_811.2.2.1
theorem dX5_readSumOf_3 : decode cX5_readSumOf 3 = .ok (.getfield 30, 3) := dB_811.2.2.2.1
theorem dX5_readSumOf_6 : decode cX5_readSumOf 6 = .ok (.getfield 72, 3) := dB_811.2.2.2.2.1
theorem dX5_readSumOf_9 : decode cX5_readSumOf 9 = .ok (.invokevirtual 130, 3) := dB_811.2.2.2.2.2.1
theorem dX5_readSumOf_12 : decode cX5_readSumOf 12 = .ok (.aload_n 0, 1) := dB_811.2.2.2.2.2.2.1
theorem dX5_readSumOf_13 : decode cX5_readSumOf 13 = .ok (.iconst 0, 1) := dB_811.2.2.2.2.2.2.2.1
theorem dX5_readSumOf_14 : decode cX5_readSumOf 14 = .ok (.invokevirtual 142, 3) := dB_811.2.2.2.2.2.2.2.2.1
theorem dX5_readSumOf_17 : decode cX5_readSumOf 17 = .ok (.ifCond .eq 16, 3) := dB_811.2.2.2.2.2.2.2.2.2.1
theorem dX5_readSumOf_33 : decode cX5_readSumOf 33 = .ok (.iconst 0, 1) := dB_811.2.2.2.2.2.2.2.2.2.2.1
theorem dX5_readSumOf_34 : decode cX5_readSumOf 34 = .ok (.ireturn, 1) := dB_811.2.2.2.2.2.2.2.2.2.2.2.1
theorem dX5_readSumOf_20 : decode cX5_readSumOf 20 = .ok (.aload_n 0, 1) := dB_811.2.2.2.2.2.2.2.2.2.2.2.2.1
theorem dX5_readSumOf_21 : decode cX5_readSumOf 21 = .ok (.iconst 0, 1) := dB_811.2.2.2.2.2.2.2.2.2.2.2.2.2.1
theorem dX5_readSumOf_22 : decode cX5_readSumOf 22 = .ok (.iconst 0, 1) := dB_811.2.2.2.2.2.2.2.2.2.2.2.2.2.2.1
theorem dX5_readSumOf_23 : decode cX5_readSumOf 23 = .ok (.invokevirtual 147, 3) := dB_811.2.2.2.2.2.2.2.2.2.2.2.2.2.2.2
theorem dB_812 : (decode cX5_readSumOf 26 = .ok (.ifCond .eq 7, 3)) ∧ (decode cX5_readSumOf 29 = .ok (.iconst 1, 1)) ∧ (decode cX5_readSumOf 30 = .ok (.goto 4, 3)) := by decide +kernel
theorem dX5_readSumOf_26 : decode cX5_readSumOf 26 = .ok (.ifCond .eq 7, 3) := dB_812.1
theorem dX5_readSumOf_29 : decode cX5_readSumOf 29 = .ok (.iconst 1, 1) := dB_812.2.1
theorem dX5_readSumOf_30 : decode cX5_readSumOf 30 = .ok (.goto 4, 3) := dB_812.2.2
def yX5_readIf : MethodName := ⟨RX5, "readIf", "()Z"⟩
abbrev cX5_readIf : ByteArray := prog_7_method_20_code
theorem dB_813 : (decode cX5_readIf 0 = .ok (.aload_n 0, 1)) ∧ (decode cX5_readIf 1 = .ok (.iconst 5, 1)) ∧ (decode cX5_readIf 2 = .ok (.invokevirtual 90, 3)) ∧ (decode cX5_readIf 5 = .ok (.ifCond .ne 5, 3)) ∧ (decode cX5_readIf 10 = .ok (.aload_n 0, 1)) ∧ (decode cX5_readIf 11 = .ok (.iconst 3, 1)) ∧ (decode cX5_readIf 12 = .ok (.aload_n 0, 1)) ∧ (decode cX5_readIf 13 = .ok (.getfield 30, 3)) ∧ (decode cX5_readIf 16 = .ok (.getfield 72, 3)) ∧ (decode cX5_readIf 19 = .ok (.invokevirtual 130, 3)) ∧ (decode cX5_readIf 22 = .ok (.aload_n 0, 1)) ∧ (decode cX5_readIf 23 = .ok (.iconst 0, 1)) ∧ (decode cX5_readIf 24 = .ok (.invokevirtual 150, 3)) ∧ (decode cX5_readIf 27 = .ok (.ifCond .eq 16, 3)) ∧ (decode cX5_readIf 43 = .ok (.iconst 0, 1)) ∧ (decode cX5_readIf 44 = .ok (.ireturn, 1)) := by decide +kernel
theorem dX5_readIf_0 : decode cX5_readIf 0 = .ok (.aload_n 0, 1) := dB_813.1
theorem dX5_readIf_1 : decode cX5_readIf 1 = .ok (.iconst 5, 1) := dB_813.2.1
theorem dX5_readIf_2 : decode cX5_readIf 2 = .ok (.invokevirtual 90, 3) := dB_813.2.2.1
theorem dX5_readIf_5 : decode cX5_readIf 5 = .ok (.ifCond .ne 5, 3) := dB_813.2.2.2.1
theorem dX5_readIf_10 : decode cX5_readIf 10 = .ok (.aload_n 0, 1) := dB_813.2.2.2.2.1
theorem dX5_readIf_11 : decode cX5_readIf 11 = .ok (.iconst 3, 1) := dB_813.2.2.2.2.2.1
theorem dX5_readIf_12 : decode cX5_readIf 12 = .ok (.aload_n 0, 1) := dB_813.2.2.2.2.2.2.1
theorem dX5_readIf_13 : decode cX5_readIf 13 = .ok (.getfield 30, 3) := dB_813.2.2.2.2.2.2.2.1
theorem dX5_readIf_16 : decode cX5_readIf 16 = .ok (.getfield 72, 3) := dB_813.2.2.2.2.2.2.2.2.1
theorem dX5_readIf_19 : decode cX5_readIf 19 = .ok (.invokevirtual 130, 3) := dB_813.2.2.2.2.2.2.2.2.2.1
theorem dX5_readIf_22 : decode cX5_readIf 22 = .ok (.aload_n 0, 1) := dB_813.2.2.2.2.2.2.2.2.2.2.1
theorem dX5_readIf_23 : decode cX5_readIf 23 = .ok (.iconst 0, 1) := dB_813.2.2.2.2.2.2.2.2.2.2.2.1
theorem dX5_readIf_24 : decode cX5_readIf 24 = .ok (.invokevirtual 150, 3) := dB_813.2.2.2.2.2.2.2.2.2.2.2.2.1
theorem dX5_readIf_27 : decode cX5_readIf 27 = .ok (.ifCond .eq 16, 3) := dB_813.2.2.2.2.2.2.2.2.2.2.2.2.2.1
theorem dX5_readIf_43 : decode cX5_readIf 43 = .ok (.iconst 0, 1) := dB_813.2.2.2.2.2.2.2.2.2.2.2.2.2.2.1
theorem dX5_readIf_44 : decode cX5_readIf 44 = .ok (.ireturn, 1) := dB_813.2.2.2.2.2.2.2.2.2.2.2.2.2.2.2
theorem dB_814 : (decode cX5_readIf 30 = .ok (.aload_n 0, 1)) ∧ (decode cX5_readIf 31 = .ok (.iconst 0, 1)) ∧ (decode cX5_readIf 32 = .ok (.iconst 0, 1)) ∧ (decode cX5_readIf 33 = .ok (.invokevirtual 147, 3)) ∧ (decode cX5_readIf 36 = .ok (.ifCond .eq 7, 3)) ∧ (decode cX5_readIf 39 = .ok (.iconst 1, 1)) ∧ (decode cX5_readIf 40 = .ok (.goto 4, 3)) ∧ (decode cX5_readIf 8 = .ok (.iconst 1, 1)) ∧ (decode cX5_readIf 9 = .ok (.ireturn, 1)) := by decide +kernel
theorem dX5_readIf_30 : decode cX5_readIf 30 = .ok (.aload_n 0, 1) := dB_814.1
theorem dX5_readIf_31 : decode cX5_readIf 31 = .ok (.iconst 0, 1) := dB_814.2.1
theorem dX5_readIf_32 : decode cX5_readIf 32 = .ok (.iconst 0, 1) := dB_814.2.2.1
theorem dX5_readIf_33 : decode cX5_readIf 33 = .ok (.invokevirtual 147, 3) := dB_814.2.2.2.1
theorem dX5_readIf_36 : decode cX5_readIf 36 = .ok (.ifCond .eq 7, 3) := dB_814.2.2.2.2.1
theorem dX5_readIf_39 : decode cX5_readIf 39 = .ok (.iconst 1, 1) := dB_814.2.2.2.2.2.1
theorem dX5_readIf_40 : decode cX5_readIf 40 = .ok (.goto 4, 3) := dB_814.2.2.2.2.2.2.1
theorem dX5_readIf_8 : decode cX5_readIf 8 = .ok (.iconst 1, 1) := dB_814.2.2.2.2.2.2.2.1
theorem dX5_readIf_9 : decode cX5_readIf 9 = .ok (.ireturn, 1) := dB_814.2.2.2.2.2.2.2.2
def yX7_runSeasons : MethodName := ⟨RX7, "runSeasons", "(II)V"⟩
abbrev cX7_runSeasons : ByteArray := prog_9_method_11_code
theorem dB_815 : (decode cX7_runSeasons 0 = .ok (.aload_n 0, 1)) ∧ (decode cX7_runSeasons 1 = .ok (.getfield 12, 3)) ∧ (decode cX7_runSeasons 4 = .ok (.getfield 36, 3)) ∧ (decode cX7_runSeasons 7 = .ok (.getfield 40, 3)) ∧ (decode cX7_runSeasons 10 = .ok (.istore_n 3, 1)) ∧ (decode cX7_runSeasons 11 = .ok (.iload_n 3, 1)) ∧ (decode cX7_runSeasons 12 = .ok (.ifCond .ne 4, 3)) ∧ (decode cX7_runSeasons 16 = .ok (.iload_n 1, 1)) ∧ (decode cX7_runSeasons 17 = .ok (.istore 4, 2)) ∧ (decode cX7_runSeasons 19 = .ok (.iconst 0, 1)) ∧ (decode cX7_runSeasons 20 = .ok (.istore 5, 2)) ∧ (decode cX7_runSeasons 22 = .ok (.iload 5, 2)) ∧ (decode cX7_runSeasons 24 = .ok (.iload_n 2, 1)) ∧ (decode cX7_runSeasons 25 = .ok (.if_icmp .ge 111, 3)) ∧ (decode cX7_runSeasons 28 = .ok (.iload 4, 2)) ∧ (decode cX7_runSeasons 30 = .ok (.sipush 1103, 3)) := by decide +kernel
theorem dX7_runSeasons_0 : decode cX7_runSeasons 0 = .ok (.aload_n 0, 1) := dB_815.1
theorem dX7_runSeasons_1 : decode cX7_runSeasons 1 = .ok (.getfield 12, 3) := dB_815.2.1
theorem dX7_runSeasons_4 : decode cX7_runSeasons 4 = .ok (.getfield 36, 3) := dB_815.2.2.1
theorem dX7_runSeasons_7 : decode cX7_runSeasons 7 = .ok (.getfield 40, 3) := dB_815.2.2.2.1
theorem dX7_runSeasons_10 : decode cX7_runSeasons 10 = .ok (.istore_n 3, 1) := dB_815.2.2.2.2.1
theorem dX7_runSeasons_11 : decode cX7_runSeasons 11 = .ok (.iload_n 3, 1) := dB_815.2.2.2.2.2.1
theorem dX7_runSeasons_12 : decode cX7_runSeasons 12 = .ok (.ifCond .ne 4, 3) := dB_815.2.2.2.2.2.2.1
theorem dX7_runSeasons_16 : decode cX7_runSeasons 16 = .ok (.iload_n 1, 1) := dB_815.2.2.2.2.2.2.2.1
theorem dX7_runSeasons_17 : decode cX7_runSeasons 17 = .ok (.istore 4, 2) := dB_815.2.2.2.2.2.2.2.2.1
theorem dX7_runSeasons_19 : decode cX7_runSeasons 19 = .ok (.iconst 0, 1) := dB_815.2.2.2.2.2.2.2.2.2.1
theorem dX7_runSeasons_20 : decode cX7_runSeasons 20 = .ok (.istore 5, 2) := dB_815.2.2.2.2.2.2.2.2.2.2.1
theorem dX7_runSeasons_22 : decode cX7_runSeasons 22 = .ok (.iload 5, 2) := dB_815.2.2.2.2.2.2.2.2.2.2.2.1
theorem dX7_runSeasons_24 : decode cX7_runSeasons 24 = .ok (.iload_n 2, 1) := dB_815.2.2.2.2.2.2.2.2.2.2.2.2.1
theorem dX7_runSeasons_25 : decode cX7_runSeasons 25 = .ok (.if_icmp .ge 111, 3) := dB_815.2.2.2.2.2.2.2.2.2.2.2.2.2.1
theorem dX7_runSeasons_28 : decode cX7_runSeasons 28 = .ok (.iload 4, 2) := dB_815.2.2.2.2.2.2.2.2.2.2.2.2.2.2.1
theorem dX7_runSeasons_30 : decode cX7_runSeasons 30 = .ok (.sipush 1103, 3) := dB_815.2.2.2.2.2.2.2.2.2.2.2.2.2.2.2
theorem dB_816 : (decode cX7_runSeasons 33 = .ok (.imul, 1)) ∧ (decode cX7_runSeasons 34 = .ok (.sipush 12345, 3)) ∧ (decode cX7_runSeasons 37 = .ok (.iadd, 1)) ∧ (decode cX7_runSeasons 38 = .ok (.ldc 208, 2)) ∧ (decode cX7_runSeasons 40 = .ok (.irem, 1)) ∧ (decode cX7_runSeasons 41 = .ok (.istore 4, 2)) ∧ (decode cX7_runSeasons 43 = .ok (.iload 4, 2)) ∧ (decode cX7_runSeasons 45 = .ok (.iload_n 3, 1)) ∧ (decode cX7_runSeasons 46 = .ok (.irem, 1)) ∧ (decode cX7_runSeasons 47 = .ok (.istore 6, 2)) ∧ (decode cX7_runSeasons 49 = .ok (.iload 4, 2)) ∧ (decode cX7_runSeasons 51 = .ok (.sipush 1103, 3)) ∧ (decode cX7_runSeasons 54 = .ok (.imul, 1)) ∧ (decode cX7_runSeasons 55 = .ok (.sipush 12345, 3)) ∧ (decode cX7_runSeasons 58 = .ok (.iadd, 1)) ∧ (decode cX7_runSeasons 59 = .ok (.ldc 208, 2)) := by decide +kernel
theorem dX7_runSeasons_33 : decode cX7_runSeasons 33 = .ok (.imul, 1) := dB_816.1
theorem dX7_runSeasons_34 : decode cX7_runSeasons 34 = .ok (.sipush 12345, 3) := dB_816.2.1
theorem dX7_runSeasons_37 : decode cX7_runSeasons 37 = .ok (.iadd, 1) := dB_816.2.2.1
theorem dX7_runSeasons_38 : decode cX7_runSeasons 38 = .ok (.ldc 208, 2) := dB_816.2.2.2.1
theorem dX7_runSeasons_40 : decode cX7_runSeasons 40 = .ok (.irem, 1) := dB_816.2.2.2.2.1
theorem dX7_runSeasons_41 : decode cX7_runSeasons 41 = .ok (.istore 4, 2) := dB_816.2.2.2.2.2.1
theorem dX7_runSeasons_43 : decode cX7_runSeasons 43 = .ok (.iload 4, 2) := dB_816.2.2.2.2.2.2.1
theorem dX7_runSeasons_45 : decode cX7_runSeasons 45 = .ok (.iload_n 3, 1) := dB_816.2.2.2.2.2.2.2.1
theorem dX7_runSeasons_46 : decode cX7_runSeasons 46 = .ok (.irem, 1) := dB_816.2.2.2.2.2.2.2.2.1
theorem dX7_runSeasons_47 : decode cX7_runSeasons 47 = .ok (.istore 6, 2) := dB_816.2.2.2.2.2.2.2.2.2.1
theorem dX7_runSeasons_49 : decode cX7_runSeasons 49 = .ok (.iload 4, 2) := dB_816.2.2.2.2.2.2.2.2.2.2.1
theorem dX7_runSeasons_51 : decode cX7_runSeasons 51 = .ok (.sipush 1103, 3) := dB_816.2.2.2.2.2.2.2.2.2.2.2.1
theorem dX7_runSeasons_54 : decode cX7_runSeasons 54 = .ok (.imul, 1) := dB_816.2.2.2.2.2.2.2.2.2.2.2.2.1
theorem dX7_runSeasons_55 : decode cX7_runSeasons 55 = .ok (.sipush 12345, 3) := dB_816.2.2.2.2.2.2.2.2.2.2.2.2.2.1
theorem dX7_runSeasons_58 : decode cX7_runSeasons 58 = .ok (.iadd, 1) := dB_816.2.2.2.2.2.2.2.2.2.2.2.2.2.2.1
theorem dX7_runSeasons_59 : decode cX7_runSeasons 59 = .ok (.ldc 208, 2) := dB_816.2.2.2.2.2.2.2.2.2.2.2.2.2.2.2
theorem ct_RX7_208 : Cond.constant RX7 208 1000003 ∈ gW := gW_u tb_6 18 (by rfl) (by decide +kernel)
theorem dB_817 : (decode cX7_runSeasons 61 = .ok (.irem, 1)) ∧ (decode cX7_runSeasons 62 = .ok (.istore 4, 2)) ∧ (decode cX7_runSeasons 64 = .ok (.iload 4, 2)) ∧ (decode cX7_runSeasons 66 = .ok (.iconst 3, 1)) ∧ (decode cX7_runSeasons 67 = .ok (.irem, 1)) ∧ (decode cX7_runSeasons 68 = .ok (.istore 7, 2)) ∧ (decode cX7_runSeasons 70 = .ok (.aload_n 0, 1)) ∧ (decode cX7_runSeasons 71 = .ok (.iload 6, 2)) ∧ (decode cX7_runSeasons 73 = .ok (.invokevirtual 199, 3)) ∧ (decode cX7_runSeasons 76 = .ok (.ifCond .ge 14, 3)) ∧ (decode cX7_runSeasons 90 = .ok (.iconst 1, 1)) ∧ (decode cX7_runSeasons 91 = .ok (.goto 4, 3)) ∧ (decode cX7_runSeasons 95 = .ok (.istore 8, 2)) ∧ (decode cX7_runSeasons 97 = .ok (.iload 8, 2)) ∧ (decode cX7_runSeasons 99 = .ok (.ifCond .ne 31, 3)) ∧ (decode cX7_runSeasons 130 = .ok (.iinc 5 1, 3)) := by decide +kernel
theorem dX7_runSeasons_61 : decode cX7_runSeasons 61 = .ok (.irem, 1) := dB_817.1
theorem dX7_runSeasons_62 : decode cX7_runSeasons 62 = .ok (.istore 4, 2) := dB_817.2.1
theorem dX7_runSeasons_64 : decode cX7_runSeasons 64 = .ok (.iload 4, 2) := dB_817.2.2.1
theorem dX7_runSeasons_66 : decode cX7_runSeasons 66 = .ok (.iconst 3, 1) := dB_817.2.2.2.1
theorem dX7_runSeasons_67 : decode cX7_runSeasons 67 = .ok (.irem, 1) := dB_817.2.2.2.2.1
theorem dX7_runSeasons_68 : decode cX7_runSeasons 68 = .ok (.istore 7, 2) := dB_817.2.2.2.2.2.1
theorem dX7_runSeasons_70 : decode cX7_runSeasons 70 = .ok (.aload_n 0, 1) := dB_817.2.2.2.2.2.2.1
theorem dX7_runSeasons_71 : decode cX7_runSeasons 71 = .ok (.iload 6, 2) := dB_817.2.2.2.2.2.2.2.1
theorem dX7_runSeasons_73 : decode cX7_runSeasons 73 = .ok (.invokevirtual 199, 3) := dB_817.2.2.2.2.2.2.2.2.1
theorem dX7_runSeasons_76 : decode cX7_runSeasons 76 = .ok (.ifCond .ge 14, 3) := dB_817.2.2.2.2.2.2.2.2.2.1
theorem dX7_runSeasons_90 : decode cX7_runSeasons 90 = .ok (.iconst 1, 1) := dB_817.2.2.2.2.2.2.2.2.2.2.1
theorem dX7_runSeasons_91 : decode cX7_runSeasons 91 = .ok (.goto 4, 3) := dB_817.2.2.2.2.2.2.2.2.2.2.2.1
theorem dX7_runSeasons_95 : decode cX7_runSeasons 95 = .ok (.istore 8, 2) := dB_817.2.2.2.2.2.2.2.2.2.2.2.2.1
theorem dX7_runSeasons_97 : decode cX7_runSeasons 97 = .ok (.iload 8, 2) := dB_817.2.2.2.2.2.2.2.2.2.2.2.2.2.1
theorem dX7_runSeasons_99 : decode cX7_runSeasons 99 = .ok (.ifCond .ne 31, 3) := dB_817.2.2.2.2.2.2.2.2.2.2.2.2.2.2.1
theorem dX7_runSeasons_130 : decode cX7_runSeasons 130 = .ok (.iinc 5 1, 3) := dB_817.2.2.2.2.2.2.2.2.2.2.2.2.2.2.2
theorem dB_818 : (decode cX7_runSeasons 133 = .ok (.goto (-111), 3)) ∧ (decode cX7_runSeasons 79 = .ok (.aload_n 0, 1)) ∧ (decode cX7_runSeasons 80 = .ok (.iload 6, 2)) ∧ (decode cX7_runSeasons 82 = .ok (.iload 7, 2)) ∧ (decode cX7_runSeasons 84 = .ok (.invokevirtual 205, 3)) ∧ (decode cX7_runSeasons 87 = .ok (.ifCond .lt 7, 3)) ∧ (decode cX7_runSeasons 94 = .ok (.iconst 0, 1)) ∧ (decode cX7_runSeasons 102 = .ok (.aload_n 0, 1)) ∧ (decode cX7_runSeasons 103 = .ok (.getfield 12, 3)) ∧ (decode cX7_runSeasons 106 = .ok (.getfield 81, 3)) ∧ (decode cX7_runSeasons 109 = .ok (.iconst 0, 1)) ∧ (decode cX7_runSeasons 110 = .ok (.iaload, 1)) ∧ (decode cX7_runSeasons 111 = .ok (.sipush 9999, 3)) ∧ (decode cX7_runSeasons 114 = .ok (.if_icmp .ge 16, 3)) ∧ (decode cX7_runSeasons 117 = .ok (.aload_n 0, 1)) ∧ (decode cX7_runSeasons 118 = .ok (.getfield 12, 3)) := by decide +kernel
theorem dX7_runSeasons_133 : decode cX7_runSeasons 133 = .ok (.goto (-111), 3) := dB_818.1
theorem dX7_runSeasons_79 : decode cX7_runSeasons 79 = .ok (.aload_n 0, 1) := dB_818.2.1
theorem dX7_runSeasons_80 : decode cX7_runSeasons 80 = .ok (.iload 6, 2) := dB_818.2.2.1
theorem dX7_runSeasons_82 : decode cX7_runSeasons 82 = .ok (.iload 7, 2) := dB_818.2.2.2.1
theorem dX7_runSeasons_84 : decode cX7_runSeasons 84 = .ok (.invokevirtual 205, 3) := dB_818.2.2.2.2.1
theorem dX7_runSeasons_87 : decode cX7_runSeasons 87 = .ok (.ifCond .lt 7, 3) := dB_818.2.2.2.2.2.1
theorem dX7_runSeasons_94 : decode cX7_runSeasons 94 = .ok (.iconst 0, 1) := dB_818.2.2.2.2.2.2.1
theorem dX7_runSeasons_102 : decode cX7_runSeasons 102 = .ok (.aload_n 0, 1) := dB_818.2.2.2.2.2.2.2.1
theorem dX7_runSeasons_103 : decode cX7_runSeasons 103 = .ok (.getfield 12, 3) := dB_818.2.2.2.2.2.2.2.2.1
theorem dX7_runSeasons_106 : decode cX7_runSeasons 106 = .ok (.getfield 81, 3) := dB_818.2.2.2.2.2.2.2.2.2.1
theorem dX7_runSeasons_109 : decode cX7_runSeasons 109 = .ok (.iconst 0, 1) := dB_818.2.2.2.2.2.2.2.2.2.2.1
theorem dX7_runSeasons_110 : decode cX7_runSeasons 110 = .ok (.iaload, 1) := dB_818.2.2.2.2.2.2.2.2.2.2.2.1
theorem dX7_runSeasons_111 : decode cX7_runSeasons 111 = .ok (.sipush 9999, 3) := dB_818.2.2.2.2.2.2.2.2.2.2.2.2.1
theorem dX7_runSeasons_114 : decode cX7_runSeasons 114 = .ok (.if_icmp .ge 16, 3) := dB_818.2.2.2.2.2.2.2.2.2.2.2.2.2.1
theorem dX7_runSeasons_117 : decode cX7_runSeasons 117 = .ok (.aload_n 0, 1) := dB_818.2.2.2.2.2.2.2.2.2.2.2.2.2.2.1
theorem dX7_runSeasons_118 : decode cX7_runSeasons 118 = .ok (.getfield 12, 3) := dB_818.2.2.2.2.2.2.2.2.2.2.2.2.2.2.2
theorem dB_819 : (decode cX7_runSeasons 121 = .ok (.getfield 81, 3)) ∧ (decode cX7_runSeasons 124 = .ok (.iconst 0, 1)) ∧ (decode cX7_runSeasons 125 = .ok (.dup2, 1)) ∧ (decode cX7_runSeasons 126 = .ok (.iaload, 1)) ∧ (decode cX7_runSeasons 127 = .ok (.iconst 1, 1)) ∧ (decode cX7_runSeasons 128 = .ok (.iadd, 1)) ∧ (decode cX7_runSeasons 129 = .ok (.iastore, 1)) ∧ (decode cX7_runSeasons 136 = .ok (.return_, 1)) ∧ (decode cX7_runSeasons 15 = .ok (.return_, 1)) := by decide +kernel
theorem dX7_runSeasons_121 : decode cX7_runSeasons 121 = .ok (.getfield 81, 3) := dB_819.1
theorem dX7_runSeasons_124 : decode cX7_runSeasons 124 = .ok (.iconst 0, 1) := dB_819.2.1
theorem dX7_runSeasons_125 : decode cX7_runSeasons 125 = .ok (.dup2, 1) := dB_819.2.2.1
theorem dX7_runSeasons_126 : decode cX7_runSeasons 126 = .ok (.iaload, 1) := dB_819.2.2.2.1
theorem dX7_runSeasons_127 : decode cX7_runSeasons 127 = .ok (.iconst 1, 1) := dB_819.2.2.2.2.1
theorem dX7_runSeasons_128 : decode cX7_runSeasons 128 = .ok (.iadd, 1) := dB_819.2.2.2.2.2.1
theorem dX7_runSeasons_129 : decode cX7_runSeasons 129 = .ok (.iastore, 1) := dB_819.2.2.2.2.2.2.1
theorem dX7_runSeasons_136 : decode cX7_runSeasons 136 = .ok (.return_, 1) := dB_819.2.2.2.2.2.2.2.1
theorem dX7_runSeasons_15 : decode cX7_runSeasons 15 = .ok (.return_, 1) := dB_819.2.2.2.2.2.2.2.2
def yX11_seasons : MethodName := ⟨RX11, "seasons", "(II)I"⟩
abbrev cX11_seasons : ByteArray := prog_1_method_40_code
theorem dB_820 : (decode cX11_seasons 0 = .ok (.iload_n 1, 1)) ∧ (decode cX11_seasons 1 = .ok (.ldc_w 370, 3)) ∧ (decode cX11_seasons 4 = .ok (.invokestatic 82, 3)) ∧ (decode cX11_seasons 7 = .ok (.ifCond .eq 14, 3)) ∧ (decode cX11_seasons 21 = .ok (.aload_n 0, 1)) ∧ (decode cX11_seasons 22 = .ok (.iconst (-1), 1)) ∧ (decode cX11_seasons 23 = .ok (.invokevirtual 91, 3)) ∧ (decode cX11_seasons 26 = .ok (.ireturn, 1)) ∧ (decode cX11_seasons 10 = .ok (.iload_n 2, 1)) ∧ (decode cX11_seasons 11 = .ok (.iconst 1, 1)) ∧ (decode cX11_seasons 12 = .ok (.if_icmp .lt 9, 3)) ∧ (decode cX11_seasons 15 = .ok (.iload_n 2, 1)) ∧ (decode cX11_seasons 16 = .ok (.bipush 60, 2)) ∧ (decode cX11_seasons 18 = .ok (.if_icmp .le 9, 3)) ∧ (decode cX11_seasons 27 = .ok (.aload_n 0, 1)) ∧ (decode cX11_seasons 28 = .ok (.getfield 21, 3)) := by decide +kernel
theorem dX11_seasons_0 : decode cX11_seasons 0 = .ok (.iload_n 1, 1) := dB_820.1
theorem dX11_seasons_1 : decode cX11_seasons 1 = .ok (.ldc_w 370, 3) := dB_820.2.1
theorem dX11_seasons_4 : decode cX11_seasons 4 = .ok (.invokestatic 82, 3) := dB_820.2.2.1
theorem dX11_seasons_7 : decode cX11_seasons 7 = .ok (.ifCond .eq 14, 3) := dB_820.2.2.2.1
theorem dX11_seasons_21 : decode cX11_seasons 21 = .ok (.aload_n 0, 1) := dB_820.2.2.2.2.1
theorem dX11_seasons_22 : decode cX11_seasons 22 = .ok (.iconst (-1), 1) := dB_820.2.2.2.2.2.1
theorem dX11_seasons_23 : decode cX11_seasons 23 = .ok (.invokevirtual 91, 3) := dB_820.2.2.2.2.2.2.1
theorem dX11_seasons_26 : decode cX11_seasons 26 = .ok (.ireturn, 1) := dB_820.2.2.2.2.2.2.2.1
theorem dX11_seasons_10 : decode cX11_seasons 10 = .ok (.iload_n 2, 1) := dB_820.2.2.2.2.2.2.2.2.1
theorem dX11_seasons_11 : decode cX11_seasons 11 = .ok (.iconst 1, 1) := dB_820.2.2.2.2.2.2.2.2.2.1
theorem dX11_seasons_12 : decode cX11_seasons 12 = .ok (.if_icmp .lt 9, 3) := dB_820.2.2.2.2.2.2.2.2.2.2.1
theorem dX11_seasons_15 : decode cX11_seasons 15 = .ok (.iload_n 2, 1) := dB_820.2.2.2.2.2.2.2.2.2.2.2.1
theorem dX11_seasons_16 : decode cX11_seasons 16 = .ok (.bipush 60, 2) := dB_820.2.2.2.2.2.2.2.2.2.2.2.2.1
theorem dX11_seasons_18 : decode cX11_seasons 18 = .ok (.if_icmp .le 9, 3) := dB_820.2.2.2.2.2.2.2.2.2.2.2.2.2.1
theorem dX11_seasons_27 : decode cX11_seasons 27 = .ok (.aload_n 0, 1) := dB_820.2.2.2.2.2.2.2.2.2.2.2.2.2.2.1
theorem dX11_seasons_28 : decode cX11_seasons 28 = .ok (.getfield 21, 3) := dB_820.2.2.2.2.2.2.2.2.2.2.2.2.2.2.2
theorem ct_RX11_370 : Cond.constant RX11 370 1000001 ∈ gW := gW_u tb_6 13 (by rfl) (by decide +kernel)
theorem dB_821 : (decode cX11_seasons 31 = .ok (.getfield 78, 3)) ∧ (decode cX11_seasons 34 = .ok (.getfield 134, 3)) ∧ (decode cX11_seasons 37 = .ok (.getfield 137, 3)) ∧ (decode cX11_seasons 40 = .ok (.ifCond .ne 10, 3)) ∧ (decode cX11_seasons 50 = .ok (.aload_n 0, 1)) ∧ (decode cX11_seasons 51 = .ok (.getfield 25, 3)) ∧ (decode cX11_seasons 54 = .ok (.aload_n 0, 1)) ∧ (decode cX11_seasons 55 = .ok (.getfield 21, 3)) ∧ (decode cX11_seasons 58 = .ok (.invokevirtual 229, 3)) ∧ (decode cX11_seasons 61 = .ok (.aload_n 0, 1)) ∧ (decode cX11_seasons 62 = .ok (.getfield 25, 3)) ∧ (decode cX11_seasons 65 = .ok (.iload_n 1, 1)) ∧ (decode cX11_seasons 66 = .ok (.iload_n 2, 1)) ∧ (decode cX11_seasons 67 = .ok (.invokevirtual 371, 3)) ∧ (decode cX11_seasons 70 = .ok (.aload_n 0, 1)) ∧ (decode cX11_seasons 71 = .ok (.getfield 63, 3)) := by decide +kernel
theorem dX11_seasons_31 : decode cX11_seasons 31 = .ok (.getfield 78, 3) := dB_821.1
theorem dX11_seasons_34 : decode cX11_seasons 34 = .ok (.getfield 134, 3) := dB_821.2.1
theorem dX11_seasons_37 : decode cX11_seasons 37 = .ok (.getfield 137, 3) := dB_821.2.2.1
theorem dX11_seasons_40 : decode cX11_seasons 40 = .ok (.ifCond .ne 10, 3) := dB_821.2.2.2.1
theorem dX11_seasons_50 : decode cX11_seasons 50 = .ok (.aload_n 0, 1) := dB_821.2.2.2.2.1
theorem dX11_seasons_51 : decode cX11_seasons 51 = .ok (.getfield 25, 3) := dB_821.2.2.2.2.2.1
theorem dX11_seasons_54 : decode cX11_seasons 54 = .ok (.aload_n 0, 1) := dB_821.2.2.2.2.2.2.1
theorem dX11_seasons_55 : decode cX11_seasons 55 = .ok (.getfield 21, 3) := dB_821.2.2.2.2.2.2.2.1
theorem dX11_seasons_58 : decode cX11_seasons 58 = .ok (.invokevirtual 229, 3) := dB_821.2.2.2.2.2.2.2.2.1
theorem dX11_seasons_61 : decode cX11_seasons 61 = .ok (.aload_n 0, 1) := dB_821.2.2.2.2.2.2.2.2.2.1
theorem dX11_seasons_62 : decode cX11_seasons 62 = .ok (.getfield 25, 3) := dB_821.2.2.2.2.2.2.2.2.2.2.1
theorem dX11_seasons_65 : decode cX11_seasons 65 = .ok (.iload_n 1, 1) := dB_821.2.2.2.2.2.2.2.2.2.2.2.1
theorem dX11_seasons_66 : decode cX11_seasons 66 = .ok (.iload_n 2, 1) := dB_821.2.2.2.2.2.2.2.2.2.2.2.2.1
theorem dX11_seasons_67 : decode cX11_seasons 67 = .ok (.invokevirtual 371, 3) := dB_821.2.2.2.2.2.2.2.2.2.2.2.2.2.1
theorem dX11_seasons_70 : decode cX11_seasons 70 = .ok (.aload_n 0, 1) := dB_821.2.2.2.2.2.2.2.2.2.2.2.2.2.2.1
theorem dX11_seasons_71 : decode cX11_seasons 71 = .ok (.getfield 63, 3) := dB_821.2.2.2.2.2.2.2.2.2.2.2.2.2.2.2
theorem fl_RX11_25 : Cond.fieldLink RX11 25 RX11 "paper" "LListenWells$Site;" ∈ gW := gW_u tb_2 208 (by rfl) (by decide +kernel)
theorem lk_RX11_229 : Cond.methodLink RX11 229 yX7_copyFrom ∈ gW := gW_u tb_4 115 (by rfl) (by decide +kernel)
theorem mI_X7_copyFrom : Cond.instanceMethod yX7_copyFrom ∈ gW := gW_u tb_4 116 (by rfl) (by decide +kernel)
theorem mS_X7_copyFrom : Cond.selects RX7 yX7_copyFrom yX7_copyFrom ∈ gW := gW_u tb_4 117 (by rfl) (by decide +kernel)
theorem mC_X7_copyFrom : Cond.code yX7_copyFrom cX7_copyFrom 2 none ∈ gW := gW_u tb_4 118 (by rfl) (by decide +kernel)
theorem ok_X7_copyFrom : okD yX7_copyFrom 1 := ⟨by decide +kernel, by decide +kernel, by decide +kernel⟩
theorem lk_RX11_371 : Cond.methodLink RX11 371 yX7_runSeasons ∈ gW := gW_u tb_6 14 (by rfl) (by decide +kernel)
theorem mI_X7_runSeasons : Cond.instanceMethod yX7_runSeasons ∈ gW := gW_u tb_6 15 (by rfl) (by decide +kernel)
theorem mS_X7_runSeasons : Cond.selects RX7 yX7_runSeasons yX7_runSeasons ∈ gW := gW_u tb_6 16 (by rfl) (by decide +kernel)
theorem mC_X7_runSeasons : Cond.code yX7_runSeasons cX7_runSeasons 9 none ∈ gW := gW_u tb_6 17 (by rfl) (by decide +kernel)
theorem ok_X7_runSeasons : okD yX7_runSeasons 2 := ⟨by decide +kernel, by decide +kernel, by decide +kernel⟩
theorem dB_822 : (decode cX11_seasons 74 = .ok (.aload_n 0, 1)) ∧ (decode cX11_seasons 75 = .ok (.getfield 25, 3)) ∧ (decode cX11_seasons 78 = .ok (.getfield 78, 3)) ∧ (decode cX11_seasons 81 = .ok (.getfield 134, 3)) ∧ (decode cX11_seasons 84 = .ok (.invokevirtual 374, 3)) ∧ (decode cX11_seasons 87 = .ok (.aload_n 0, 1)) ∧ (decode cX11_seasons 88 = .ok (.aload_n 0, 1)) ∧ (decode cX11_seasons 89 = .ok (.getfield 25, 3)) ∧ (decode cX11_seasons 92 = .ok (.getfield 78, 3)) ∧ (decode cX11_seasons 95 = .ok (.getfield 193, 3)) ∧ (decode cX11_seasons 98 = .ok (.iconst 0, 1)) ∧ (decode cX11_seasons 99 = .ok (.iaload, 1)) ∧ (decode cX11_seasons 100 = .ok (.putfield 67, 3)) ∧ (decode cX11_seasons 103 = .ok (.aload_n 0, 1)) ∧ (decode cX11_seasons 104 = .ok (.aload_n 0, 1)) ∧ (decode cX11_seasons 105 = .ok (.getfield 63, 3)) := by decide +kernel
theorem dX11_seasons_74 : decode cX11_seasons 74 = .ok (.aload_n 0, 1) := dB_822.1
theorem dX11_seasons_75 : decode cX11_seasons 75 = .ok (.getfield 25, 3) := dB_822.2.1
theorem dX11_seasons_78 : decode cX11_seasons 78 = .ok (.getfield 78, 3) := dB_822.2.2.1
theorem dX11_seasons_81 : decode cX11_seasons 81 = .ok (.getfield 134, 3) := dB_822.2.2.2.1
theorem dX11_seasons_84 : decode cX11_seasons 84 = .ok (.invokevirtual 374, 3) := dB_822.2.2.2.2.1
theorem dX11_seasons_87 : decode cX11_seasons 87 = .ok (.aload_n 0, 1) := dB_822.2.2.2.2.2.1
theorem dX11_seasons_88 : decode cX11_seasons 88 = .ok (.aload_n 0, 1) := dB_822.2.2.2.2.2.2.1
theorem dX11_seasons_89 : decode cX11_seasons 89 = .ok (.getfield 25, 3) := dB_822.2.2.2.2.2.2.2.1
theorem dX11_seasons_92 : decode cX11_seasons 92 = .ok (.getfield 78, 3) := dB_822.2.2.2.2.2.2.2.2.1
theorem dX11_seasons_95 : decode cX11_seasons 95 = .ok (.getfield 193, 3) := dB_822.2.2.2.2.2.2.2.2.2.1
theorem dX11_seasons_98 : decode cX11_seasons 98 = .ok (.iconst 0, 1) := dB_822.2.2.2.2.2.2.2.2.2.2.1
theorem dX11_seasons_99 : decode cX11_seasons 99 = .ok (.iaload, 1) := dB_822.2.2.2.2.2.2.2.2.2.2.2.1
theorem dX11_seasons_100 : decode cX11_seasons 100 = .ok (.putfield 67, 3) := dB_822.2.2.2.2.2.2.2.2.2.2.2.2.1
theorem dX11_seasons_103 : decode cX11_seasons 103 = .ok (.aload_n 0, 1) := dB_822.2.2.2.2.2.2.2.2.2.2.2.2.2.1
theorem dX11_seasons_104 : decode cX11_seasons 104 = .ok (.aload_n 0, 1) := dB_822.2.2.2.2.2.2.2.2.2.2.2.2.2.2.1
theorem dX11_seasons_105 : decode cX11_seasons 105 = .ok (.getfield 63, 3) := dB_822.2.2.2.2.2.2.2.2.2.2.2.2.2.2.2
theorem lk_RX11_374 : Cond.methodLink RX11 374 yX1_copyFrom ∈ gW := gW_u tb_6 19 (by rfl) (by decide +kernel)
theorem dB_823 : (decode cX11_seasons 108 = .ok (.invokevirtual 377, 3)) ∧ (decode cX11_seasons 111 = .ok (.aload_n 0, 1)) ∧ (decode cX11_seasons 112 = .ok (.getfield 21, 3)) ∧ (decode cX11_seasons 115 = .ok (.getfield 78, 3)) ∧ (decode cX11_seasons 118 = .ok (.getfield 134, 3)) ∧ (decode cX11_seasons 121 = .ok (.invokevirtual 377, 3)) ∧ (decode cX11_seasons 124 = .ok (.isub, 1)) ∧ (decode cX11_seasons 125 = .ok (.invokevirtual 91, 3)) ∧ (decode cX11_seasons 128 = .ok (.ireturn, 1)) ∧ (decode cX11_seasons 43 = .ok (.aload_n 0, 1)) ∧ (decode cX11_seasons 44 = .ok (.bipush (-3), 2)) ∧ (decode cX11_seasons 46 = .ok (.invokevirtual 91, 3)) ∧ (decode cX11_seasons 49 = .ok (.ireturn, 1)) := by decide +kernel
theorem dX11_seasons_108 : decode cX11_seasons 108 = .ok (.invokevirtual 377, 3) := dB_823.1
theorem dX11_seasons_111 : decode cX11_seasons 111 = .ok (.aload_n 0, 1) := dB_823.2.1
theorem dX11_seasons_112 : decode cX11_seasons 112 = .ok (.getfield 21, 3) := dB_823.2.2.1
theorem dX11_seasons_115 : decode cX11_seasons 115 = .ok (.getfield 78, 3) := dB_823.2.2.2.1
theorem dX11_seasons_118 : decode cX11_seasons 118 = .ok (.getfield 134, 3) := dB_823.2.2.2.2.1
theorem dX11_seasons_121 : decode cX11_seasons 121 = .ok (.invokevirtual 377, 3) := dB_823.2.2.2.2.2.1
theorem dX11_seasons_124 : decode cX11_seasons 124 = .ok (.isub, 1) := dB_823.2.2.2.2.2.2.1
theorem dX11_seasons_125 : decode cX11_seasons 125 = .ok (.invokevirtual 91, 3) := dB_823.2.2.2.2.2.2.2.1
theorem dX11_seasons_128 : decode cX11_seasons 128 = .ok (.ireturn, 1) := dB_823.2.2.2.2.2.2.2.2.1
theorem dX11_seasons_43 : decode cX11_seasons 43 = .ok (.aload_n 0, 1) := dB_823.2.2.2.2.2.2.2.2.2.1
theorem dX11_seasons_44 : decode cX11_seasons 44 = .ok (.bipush (-3), 2) := dB_823.2.2.2.2.2.2.2.2.2.2.1
theorem dX11_seasons_46 : decode cX11_seasons 46 = .ok (.invokevirtual 91, 3) := dB_823.2.2.2.2.2.2.2.2.2.2.2.1
theorem dX11_seasons_49 : decode cX11_seasons 49 = .ok (.ireturn, 1) := dB_823.2.2.2.2.2.2.2.2.2.2.2.2
theorem lk_RX11_377 : Cond.methodLink RX11 377 yX1_allBuckets ∈ gW := gW_u tb_6 20 (by rfl) (by decide +kernel)
theorem mI_X1_allBuckets : Cond.instanceMethod yX1_allBuckets ∈ gW := gW_u tb_6 21 (by rfl) (by decide +kernel)
theorem mS_X1_allBuckets : Cond.selects RX1 yX1_allBuckets yX1_allBuckets ∈ gW := gW_u tb_6 22 (by rfl) (by decide +kernel)
theorem mC_X1_allBuckets : Cond.code yX1_allBuckets cX1_allBuckets 3 (some .int) ∈ gW := gW_u tb_6 23 (by rfl) (by decide +kernel)
theorem ok_X1_allBuckets : okD yX1_allBuckets 0 := ⟨by decide +kernel, by decide +kernel, by decide +kernel⟩
def yX5_wordIn : MethodName := ⟨RX5, "wordIn", "(II)I"⟩
abbrev cX5_wordIn : ByteArray := prog_7_method_10_code
theorem dB_824 : (decode cX5_wordIn 0 = .ok (.iload_n 2, 1)) ∧ (decode cX5_wordIn 1 = .ok (.iload_n 1, 1)) ∧ (decode cX5_wordIn 2 = .ok (.isub, 1)) ∧ (decode cX5_wordIn 3 = .ok (.bipush 8, 2)) ∧ (decode cX5_wordIn 5 = .ok (.if_icmp .lt 6, 3)) ∧ (decode cX5_wordIn 11 = .ok (.iconst 0, 1)) ∧ (decode cX5_wordIn 12 = .ok (.istore_n 3, 1)) ∧ (decode cX5_wordIn 13 = .ok (.iload_n 3, 1)) ∧ (decode cX5_wordIn 14 = .ok (.bipush 29, 2)) ∧ (decode cX5_wordIn 16 = .ok (.if_icmp .ge 21, 3)) ∧ (decode cX5_wordIn 19 = .ok (.aload_n 0, 1)) ∧ (decode cX5_wordIn 20 = .ok (.iload_n 3, 1)) ∧ (decode cX5_wordIn 21 = .ok (.iload_n 1, 1)) ∧ (decode cX5_wordIn 22 = .ok (.iload_n 2, 1)) ∧ (decode cX5_wordIn 23 = .ok (.invokevirtual 118, 3)) ∧ (decode cX5_wordIn 26 = .ok (.ifCond .eq 5, 3)) := by decide +kernel
theorem dX5_wordIn_0 : decode cX5_wordIn 0 = .ok (.iload_n 2, 1) := dB_824.1
theorem dX5_wordIn_1 : decode cX5_wordIn 1 = .ok (.iload_n 1, 1) := dB_824.2.1
theorem dX5_wordIn_2 : decode cX5_wordIn 2 = .ok (.isub, 1) := dB_824.2.2.1
theorem dX5_wordIn_3 : decode cX5_wordIn 3 = .ok (.bipush 8, 2) := dB_824.2.2.2.1
theorem dX5_wordIn_5 : decode cX5_wordIn 5 = .ok (.if_icmp .lt 6, 3) := dB_824.2.2.2.2.1
theorem dX5_wordIn_11 : decode cX5_wordIn 11 = .ok (.iconst 0, 1) := dB_824.2.2.2.2.2.1
theorem dX5_wordIn_12 : decode cX5_wordIn 12 = .ok (.istore_n 3, 1) := dB_824.2.2.2.2.2.2.1
theorem dX5_wordIn_13 : decode cX5_wordIn 13 = .ok (.iload_n 3, 1) := dB_824.2.2.2.2.2.2.2.1
theorem dX5_wordIn_14 : decode cX5_wordIn 14 = .ok (.bipush 29, 2) := dB_824.2.2.2.2.2.2.2.2.1
theorem dX5_wordIn_16 : decode cX5_wordIn 16 = .ok (.if_icmp .ge 21, 3) := dB_824.2.2.2.2.2.2.2.2.2.1
theorem dX5_wordIn_19 : decode cX5_wordIn 19 = .ok (.aload_n 0, 1) := dB_824.2.2.2.2.2.2.2.2.2.2.1
theorem dX5_wordIn_20 : decode cX5_wordIn 20 = .ok (.iload_n 3, 1) := dB_824.2.2.2.2.2.2.2.2.2.2.2.1
theorem dX5_wordIn_21 : decode cX5_wordIn 21 = .ok (.iload_n 1, 1) := dB_824.2.2.2.2.2.2.2.2.2.2.2.2.1
theorem dX5_wordIn_22 : decode cX5_wordIn 22 = .ok (.iload_n 2, 1) := dB_824.2.2.2.2.2.2.2.2.2.2.2.2.2.1
theorem dX5_wordIn_23 : decode cX5_wordIn 23 = .ok (.invokevirtual 118, 3) := dB_824.2.2.2.2.2.2.2.2.2.2.2.2.2.2.1
theorem dX5_wordIn_26 : decode cX5_wordIn 26 = .ok (.ifCond .eq 5, 3) := dB_824.2.2.2.2.2.2.2.2.2.2.2.2.2.2.2
theorem lk_RX5_118 : Cond.methodLink RX5 118 yX5_isWord ∈ gW := gW_u tb_3 199 (by rfl) (by decide +kernel)
theorem mI_X5_isWord : Cond.instanceMethod yX5_isWord ∈ gW := gW_u tb_3 201 (by rfl) (by decide +kernel)
theorem mS_X5_isWord : Cond.selects RX5 yX5_isWord yX5_isWord ∈ gW := gW_p (q := (yX5_isWord, 10)) 7 (by decide +kernel)
theorem mC_X5_isWord : Cond.code yX5_isWord cX5_isWord 6 (some .boolean) ∈ gW := gW_u tb_3 202 (by rfl) (by decide +kernel)
theorem ok_X5_isWord : okD yX5_isWord 3 := ⟨by decide +kernel, by decide +kernel, by decide +kernel⟩
theorem dB_825 : (decode cX5_wordIn 31 = .ok (.iinc 3 1, 3)) ∧ (decode cX5_wordIn 34 = .ok (.goto (-21), 3)) ∧ (decode cX5_wordIn 29 = .ok (.iload_n 3, 1)) ∧ (decode cX5_wordIn 30 = .ok (.ireturn, 1)) ∧ (decode cX5_wordIn 37 = .ok (.bipush 30, 2)) ∧ (decode cX5_wordIn 39 = .ok (.ireturn, 1)) ∧ (decode cX5_wordIn 8 = .ok (.bipush 30, 2)) ∧ (decode cX5_wordIn 10 = .ok (.ireturn, 1)) := by decide +kernel
theorem dX5_wordIn_31 : decode cX5_wordIn 31 = .ok (.iinc 3 1, 3) := dB_825.1
theorem dX5_wordIn_34 : decode cX5_wordIn 34 = .ok (.goto (-21), 3) := dB_825.2.1
theorem dX5_wordIn_29 : decode cX5_wordIn 29 = .ok (.iload_n 3, 1) := dB_825.2.2.1
theorem dX5_wordIn_30 : decode cX5_wordIn 30 = .ok (.ireturn, 1) := dB_825.2.2.2.1
theorem dX5_wordIn_37 : decode cX5_wordIn 37 = .ok (.bipush 30, 2) := dB_825.2.2.2.2.1
theorem dX5_wordIn_39 : decode cX5_wordIn 39 = .ok (.ireturn, 1) := dB_825.2.2.2.2.2.1
theorem dX5_wordIn_8 : decode cX5_wordIn 8 = .ok (.bipush 30, 2) := dB_825.2.2.2.2.2.2.1
theorem dX5_wordIn_10 : decode cX5_wordIn 10 = .ok (.ireturn, 1) := dB_825.2.2.2.2.2.2.2
def yX5_readRule : MethodName := ⟨RX5, "readRule", "()Z"⟩
abbrev cX5_readRule : ByteArray := prog_7_method_16_code
theorem dB_826 : (decode cX5_readRule 0 = .ok (.aload_n 0, 1)) ∧ (decode cX5_readRule 1 = .ok (.invokevirtual 86, 3)) ∧ (decode cX5_readRule 4 = .ok (.istore_n 1, 1)) ∧ (decode cX5_readRule 5 = .ok (.iload_n 1, 1)) ∧ (decode cX5_readRule 6 = .ok (.ifCond .lt 8, 3)) ∧ (decode cX5_readRule 14 = .ok (.iconst 0, 1)) ∧ (decode cX5_readRule 15 = .ok (.ireturn, 1)) ∧ (decode cX5_readRule 9 = .ok (.iload_n 1, 1)) ∧ (decode cX5_readRule 10 = .ok (.iconst 4, 1)) ∧ (decode cX5_readRule 11 = .ok (.if_icmp .le 5, 3)) ∧ (decode cX5_readRule 16 = .ok (.aload_n 0, 1)) ∧ (decode cX5_readRule 17 = .ok (.dup, 1)) ∧ (decode cX5_readRule 18 = .ok (.getfield 63, 3)) ∧ (decode cX5_readRule 21 = .ok (.iconst 1, 1)) ∧ (decode cX5_readRule 22 = .ok (.iadd, 1)) ∧ (decode cX5_readRule 23 = .ok (.putfield 63, 3)) := by decide +kernel
theorem dX5_readRule_0 : decode cX5_readRule 0 = .ok (.aload_n 0, 1) := dB_826.1
theorem dX5_readRule_1 : decode cX5_readRule 1 = .ok (.invokevirtual 86, 3) := dB_826.2.1
theorem dX5_readRule_4 : decode cX5_readRule 4 = .ok (.istore_n 1, 1) := dB_826.2.2.1
theorem dX5_readRule_5 : decode cX5_readRule 5 = .ok (.iload_n 1, 1) := dB_826.2.2.2.1
theorem dX5_readRule_6 : decode cX5_readRule 6 = .ok (.ifCond .lt 8, 3) := dB_826.2.2.2.2.1
theorem dX5_readRule_14 : decode cX5_readRule 14 = .ok (.iconst 0, 1) := dB_826.2.2.2.2.2.1
theorem dX5_readRule_15 : decode cX5_readRule 15 = .ok (.ireturn, 1) := dB_826.2.2.2.2.2.2.1
theorem dX5_readRule_9 : decode cX5_readRule 9 = .ok (.iload_n 1, 1) := dB_826.2.2.2.2.2.2.2.1
theorem dX5_readRule_10 : decode cX5_readRule 10 = .ok (.iconst 4, 1) := dB_826.2.2.2.2.2.2.2.2.1
theorem dX5_readRule_11 : decode cX5_readRule 11 = .ok (.if_icmp .le 5, 3) := dB_826.2.2.2.2.2.2.2.2.2.1
theorem dX5_readRule_16 : decode cX5_readRule 16 = .ok (.aload_n 0, 1) := dB_826.2.2.2.2.2.2.2.2.2.2.1
theorem dX5_readRule_17 : decode cX5_readRule 17 = .ok (.dup, 1) := dB_826.2.2.2.2.2.2.2.2.2.2.2.1
theorem dX5_readRule_18 : decode cX5_readRule 18 = .ok (.getfield 63, 3) := dB_826.2.2.2.2.2.2.2.2.2.2.2.2.1
theorem dX5_readRule_21 : decode cX5_readRule 21 = .ok (.iconst 1, 1) := dB_826.2.2.2.2.2.2.2.2.2.2.2.2.2.1
theorem dX5_readRule_22 : decode cX5_readRule 22 = .ok (.iadd, 1) := dB_826.2.2.2.2.2.2.2.2.2.2.2.2.2.2.1
theorem dX5_readRule_23 : decode cX5_readRule 23 = .ok (.putfield 63, 3) := dB_826.2.2.2.2.2.2.2.2.2.2.2.2.2.2.2
theorem dB_827 : (decode cX5_readRule 26 = .ok (.aload_n 0, 1)) ∧ (decode cX5_readRule 27 = .ok (.iconst 0, 1)) ∧ (decode cX5_readRule 28 = .ok (.iload_n 1, 1)) ∧ (decode cX5_readRule 29 = .ok (.invokevirtual 130, 3)) ∧ (decode cX5_readRule 32 = .ok (.iload_n 1, 1)) ∧ (decode cX5_readRule 33 = .ok (.iconst 4, 1)) ∧ (decode cX5_readRule 34 = .ok (.if_icmp .eq 11, 3)) ∧ (decode cX5_readRule 45 = .ok (.iconst 1, 1)) ∧ (decode cX5_readRule 46 = .ok (.goto 4, 3)) ∧ (decode cX5_readRule 50 = .ok (.ireturn, 1)) ∧ (decode cX5_readRule 37 = .ok (.aload_n 0, 1)) ∧ (decode cX5_readRule 38 = .ok (.iconst 1, 1)) ∧ (decode cX5_readRule 39 = .ok (.invokevirtual 136, 3)) ∧ (decode cX5_readRule 42 = .ok (.ifCond .eq 7, 3)) ∧ (decode cX5_readRule 49 = .ok (.iconst 0, 1)) := by decide +kernel
theorem dX5_readRule_26 : decode cX5_readRule 26 = .ok (.aload_n 0, 1) := dB_827.1
theorem dX5_readRule_27 : decode cX5_readRule 27 = .ok (.iconst 0, 1) := dB_827.2.1
theorem dX5_readRule_28 : decode cX5_readRule 28 = .ok (.iload_n 1, 1) := dB_827.2.2.1
theorem dX5_readRule_29 : decode cX5_readRule 29 = .ok (.invokevirtual 130, 3) := dB_827.2.2.2.1
theorem dX5_readRule_32 : decode cX5_readRule 32 = .ok (.iload_n 1, 1) := dB_827.2.2.2.2.1
theorem dX5_readRule_33 : decode cX5_readRule 33 = .ok (.iconst 4, 1) := dB_827.2.2.2.2.2.1
theorem dX5_readRule_34 : decode cX5_readRule 34 = .ok (.if_icmp .eq 11, 3) := dB_827.2.2.2.2.2.2.1
theorem dX5_readRule_45 : decode cX5_readRule 45 = .ok (.iconst 1, 1) := dB_827.2.2.2.2.2.2.2.1
theorem dX5_readRule_46 : decode cX5_readRule 46 = .ok (.goto 4, 3) := dB_827.2.2.2.2.2.2.2.2.1
theorem dX5_readRule_50 : decode cX5_readRule 50 = .ok (.ireturn, 1) := dB_827.2.2.2.2.2.2.2.2.2.1
theorem dX5_readRule_37 : decode cX5_readRule 37 = .ok (.aload_n 0, 1) := dB_827.2.2.2.2.2.2.2.2.2.2.1
theorem dX5_readRule_38 : decode cX5_readRule 38 = .ok (.iconst 1, 1) := dB_827.2.2.2.2.2.2.2.2.2.2.2.1
theorem dX5_readRule_39 : decode cX5_readRule 39 = .ok (.invokevirtual 136, 3) := dB_827.2.2.2.2.2.2.2.2.2.2.2.2.1
theorem dX5_readRule_42 : decode cX5_readRule 42 = .ok (.ifCond .eq 7, 3) := dB_827.2.2.2.2.2.2.2.2.2.2.2.2.2.1
theorem dX5_readRule_49 : decode cX5_readRule 49 = .ok (.iconst 0, 1) := dB_827.2.2.2.2.2.2.2.2.2.2.2.2.2.2
theorem lk_RX5_136 : Cond.methodLink RX5 136 yX5_readSumOf ∈ gW := gW_u tb_4 33 (by rfl) (by decide +kernel)
theorem mI_X5_readSumOf : Cond.instanceMethod yX5_readSumOf ∈ gW := gW_u tb_4 35 (by rfl) (by decide +kernel)
theorem mS_X5_readSumOf : Cond.selects RX5 yX5_readSumOf yX5_readSumOf ∈ gW := gW_p (q := (yX5_readSumOf, 10)) 14 (by decide +kernel)
theorem mC_X5_readSumOf : Cond.code yX5_readSumOf cX5_readSumOf 2 (some .boolean) ∈ gW := gW_u tb_4 36 (by rfl) (by decide +kernel)
theorem ok_X5_readSumOf : okD yX5_readSumOf 1 := ⟨by decide +kernel, by decide +kernel, by decide +kernel⟩
def yX5_readOrder : MethodName := ⟨RX5, "readOrder", "()Z"⟩
abbrev cX5_readOrder : ByteArray := prog_7_method_17_code
theorem dB_828 : (decode cX5_readOrder 0 = .ok (.aload_n 0, 1)) ∧ (decode cX5_readOrder 1 = .ok (.invokevirtual 86, 3)) ∧ (decode cX5_readOrder 4 = .ok (.istore_n 1, 1)) ∧ (decode cX5_readOrder 5 = .ok (.iload_n 1, 1)) ∧ (decode cX5_readOrder 6 = .ok (.bipush 18, 2)) ∧ (decode cX5_readOrder 8 = .ok (.if_icmp .eq 23, 3)) ∧ (decode cX5_readOrder 11 = .ok (.iload_n 1, 1)) ∧ (decode cX5_readOrder 12 = .ok (.bipush 20, 2)) ∧ (decode cX5_readOrder 14 = .ok (.if_icmp .eq 17, 3)) ∧ (decode cX5_readOrder 17 = .ok (.iload_n 1, 1)) ∧ (decode cX5_readOrder 18 = .ok (.bipush 21, 2)) ∧ (decode cX5_readOrder 20 = .ok (.if_icmp .eq 11, 3)) ∧ (decode cX5_readOrder 23 = .ok (.iload_n 1, 1)) ∧ (decode cX5_readOrder 24 = .ok (.bipush 22, 2)) ∧ (decode cX5_readOrder 26 = .ok (.if_icmp .eq 5, 3)) ∧ (decode cX5_readOrder 29 = .ok (.iconst 0, 1)) := by decide +kernel
theorem dX5_readOrder_0 : decode cX5_readOrder 0 = .ok (.aload_n 0, 1) := dB_828.1
theorem dX5_readOrder_1 : decode cX5_readOrder 1 = .ok (.invokevirtual 86, 3) := dB_828.2.1
theorem dX5_readOrder_4 : decode cX5_readOrder 4 = .ok (.istore_n 1, 1) := dB_828.2.2.1
theorem dX5_readOrder_5 : decode cX5_readOrder 5 = .ok (.iload_n 1, 1) := dB_828.2.2.2.1
theorem dX5_readOrder_6 : decode cX5_readOrder 6 = .ok (.bipush 18, 2) := dB_828.2.2.2.2.1
theorem dX5_readOrder_8 : decode cX5_readOrder 8 = .ok (.if_icmp .eq 23, 3) := dB_828.2.2.2.2.2.1
theorem dX5_readOrder_11 : decode cX5_readOrder 11 = .ok (.iload_n 1, 1) := dB_828.2.2.2.2.2.2.1
theorem dX5_readOrder_12 : decode cX5_readOrder 12 = .ok (.bipush 20, 2) := dB_828.2.2.2.2.2.2.2.1
theorem dX5_readOrder_14 : decode cX5_readOrder 14 = .ok (.if_icmp .eq 17, 3) := dB_828.2.2.2.2.2.2.2.2.1
theorem dX5_readOrder_17 : decode cX5_readOrder 17 = .ok (.iload_n 1, 1) := dB_828.2.2.2.2.2.2.2.2.2.1
theorem dX5_readOrder_18 : decode cX5_readOrder 18 = .ok (.bipush 21, 2) := dB_828.2.2.2.2.2.2.2.2.2.2.1
theorem dX5_readOrder_20 : decode cX5_readOrder 20 = .ok (.if_icmp .eq 11, 3) := dB_828.2.2.2.2.2.2.2.2.2.2.2.1
theorem dX5_readOrder_23 : decode cX5_readOrder 23 = .ok (.iload_n 1, 1) := dB_828.2.2.2.2.2.2.2.2.2.2.2.2.1
theorem dX5_readOrder_24 : decode cX5_readOrder 24 = .ok (.bipush 22, 2) := dB_828.2.2.2.2.2.2.2.2.2.2.2.2.2.1
theorem dX5_readOrder_26 : decode cX5_readOrder 26 = .ok (.if_icmp .eq 5, 3) := dB_828.2.2.2.2.2.2.2.2.2.2.2.2.2.2.1
theorem dX5_readOrder_29 : decode cX5_readOrder 29 = .ok (.iconst 0, 1) := dB_828.2.2.2.2.2.2.2.2.2.2.2.2.2.2.2
theorem dB_829 : (decode cX5_readOrder 30 = .ok (.ireturn, 1)) ∧ (decode cX5_readOrder 31 = .ok (.aload_n 0, 1)) ∧ (decode cX5_readOrder 32 = .ok (.dup, 1)) ∧ (decode cX5_readOrder 33 = .ok (.getfield 63, 3)) ∧ (decode cX5_readOrder 36 = .ok (.iconst 1, 1)) ∧ (decode cX5_readOrder 37 = .ok (.iadd, 1)) ∧ (decode cX5_readOrder 38 = .ok (.putfield 63, 3)) ∧ (decode cX5_readOrder 41 = .ok (.aload_n 0, 1)) ∧ (decode cX5_readOrder 42 = .ok (.iconst 0, 1)) ∧ (decode cX5_readOrder 43 = .ok (.iload_n 1, 1)) ∧ (decode cX5_readOrder 44 = .ok (.invokevirtual 130, 3)) ∧ (decode cX5_readOrder 47 = .ok (.aload_n 0, 1)) ∧ (decode cX5_readOrder 48 = .ok (.iconst 1, 1)) ∧ (decode cX5_readOrder 49 = .ok (.invokevirtual 136, 3)) ∧ (decode cX5_readOrder 52 = .ok (.ifCond .ne 5, 3)) ∧ (decode cX5_readOrder 57 = .ok (.iload_n 1, 1)) := by decide +kernel
theorem dX5_readOrder_30 : decode cX5_readOrder 30 = .ok (.ireturn, 1) := dB_829.1
theorem dX5_readOrder_31 : decode cX5_readOrder 31 = .ok (.aload_n 0, 1) := dB_829.2.1
theorem dX5_readOrder_32 : decode cX5_readOrder 32 = .ok (.dup, 1) := dB_829.2.2.1
theorem dX5_readOrder_33 : decode cX5_readOrder 33 = .ok (.getfield 63, 3) := dB_829.2.2.2.1
theorem dX5_readOrder_36 : decode cX5_readOrder 36 = .ok (.iconst 1, 1) := dB_829.2.2.2.2.1
theorem dX5_readOrder_37 : decode cX5_readOrder 37 = .ok (.iadd, 1) := dB_829.2.2.2.2.2.1
theorem dX5_readOrder_38 : decode cX5_readOrder 38 = .ok (.putfield 63, 3) := dB_829.2.2.2.2.2.2.1
theorem dX5_readOrder_41 : decode cX5_readOrder 41 = .ok (.aload_n 0, 1) := dB_829.2.2.2.2.2.2.2.1
theorem dX5_readOrder_42 : decode cX5_readOrder 42 = .ok (.iconst 0, 1) := dB_829.2.2.2.2.2.2.2.2.1
theorem dX5_readOrder_43 : decode cX5_readOrder 43 = .ok (.iload_n 1, 1) := dB_829.2.2.2.2.2.2.2.2.2.1
theorem dX5_readOrder_44 : decode cX5_readOrder 44 = .ok (.invokevirtual 130, 3) := dB_829.2.2.2.2.2.2.2.2.2.2.1
theorem dX5_readOrder_47 : decode cX5_readOrder 47 = .ok (.aload_n 0, 1) := dB_829.2.2.2.2.2.2.2.2.2.2.2.1
theorem dX5_readOrder_48 : decode cX5_readOrder 48 = .ok (.iconst 1, 1) := dB_829.2.2.2.2.2.2.2.2.2.2.2.2.1
theorem dX5_readOrder_49 : decode cX5_readOrder 49 = .ok (.invokevirtual 136, 3) := dB_829.2.2.2.2.2.2.2.2.2.2.2.2.2.1
theorem dX5_readOrder_52 : decode cX5_readOrder 52 = .ok (.ifCond .ne 5, 3) := dB_829.2.2.2.2.2.2.2.2.2.2.2.2.2.2.1
theorem dX5_readOrder_57 : decode cX5_readOrder 57 = .ok (.iload_n 1, 1) := dB_829.2.2.2.2.2.2.2.2.2.2.2.2.2.2.2
theorem dB_830 : (decode cX5_readOrder 58 = .ok (.bipush 18, 2)) ∧ (decode cX5_readOrder 60 = .ok (.if_icmp .ne 22, 3)) ∧ (decode cX5_readOrder 63 = .ok (.aload_n 0, 1)) ∧ (decode cX5_readOrder 64 = .ok (.bipush 19, 2)) ∧ (decode cX5_readOrder 66 = .ok (.invokevirtual 90, 3)) ∧ (decode cX5_readOrder 69 = .ok (.ifCond .eq 11, 3)) ∧ (decode cX5_readOrder 80 = .ok (.iconst 0, 1)) ∧ (decode cX5_readOrder 81 = .ok (.ireturn, 1)) ∧ (decode cX5_readOrder 72 = .ok (.aload_n 0, 1)) ∧ (decode cX5_readOrder 73 = .ok (.iconst 2, 1)) ∧ (decode cX5_readOrder 74 = .ok (.invokevirtual 136, 3)) ∧ (decode cX5_readOrder 77 = .ok (.ifCond .ne 5, 3)) ∧ (decode cX5_readOrder 82 = .ok (.iload_n 1, 1)) ∧ (decode cX5_readOrder 83 = .ok (.bipush 22, 2)) ∧ (decode cX5_readOrder 85 = .ok (.if_icmp .ne 22, 3)) ∧ (decode cX5_readOrder 88 = .ok (.aload_n 0, 1)) := by decide +kernel
theorem dX5_readOrder_58 : decode cX5_readOrder 58 = .ok (.bipush 18, 2) := dB_830.1
theorem dX5_readOrder_60 : decode cX5_readOrder 60 = .ok (.if_icmp .ne 22, 3) := dB_830.2.1
theorem dX5_readOrder_63 : decode cX5_readOrder 63 = .ok (.aload_n 0, 1) := dB_830.2.2.1
theorem dX5_readOrder_64 : decode cX5_readOrder 64 = .ok (.bipush 19, 2) := dB_830.2.2.2.1
theorem dX5_readOrder_66 : decode cX5_readOrder 66 = .ok (.invokevirtual 90, 3) := dB_830.2.2.2.2.1
theorem dX5_readOrder_69 : decode cX5_readOrder 69 = .ok (.ifCond .eq 11, 3) := dB_830.2.2.2.2.2.1
theorem dX5_readOrder_80 : decode cX5_readOrder 80 = .ok (.iconst 0, 1) := dB_830.2.2.2.2.2.2.1
theorem dX5_readOrder_81 : decode cX5_readOrder 81 = .ok (.ireturn, 1) := dB_830.2.2.2.2.2.2.2.1
theorem dX5_readOrder_72 : decode cX5_readOrder 72 = .ok (.aload_n 0, 1) := dB_830.2.2.2.2.2.2.2.2.1
theorem dX5_readOrder_73 : decode cX5_readOrder 73 = .ok (.iconst 2, 1) := dB_830.2.2.2.2.2.2.2.2.2.1
theorem dX5_readOrder_74 : decode cX5_readOrder 74 = .ok (.invokevirtual 136, 3) := dB_830.2.2.2.2.2.2.2.2.2.2.1
theorem dX5_readOrder_77 : decode cX5_readOrder 77 = .ok (.ifCond .ne 5, 3) := dB_830.2.2.2.2.2.2.2.2.2.2.2.1
theorem dX5_readOrder_82 : decode cX5_readOrder 82 = .ok (.iload_n 1, 1) := dB_830.2.2.2.2.2.2.2.2.2.2.2.2.1
theorem dX5_readOrder_83 : decode cX5_readOrder 83 = .ok (.bipush 22, 2) := dB_830.2.2.2.2.2.2.2.2.2.2.2.2.2.1
theorem dX5_readOrder_85 : decode cX5_readOrder 85 = .ok (.if_icmp .ne 22, 3) := dB_830.2.2.2.2.2.2.2.2.2.2.2.2.2.2.1
theorem dX5_readOrder_88 : decode cX5_readOrder 88 = .ok (.aload_n 0, 1) := dB_830.2.2.2.2.2.2.2.2.2.2.2.2.2.2.2
theorem dB_831 : (decode cX5_readOrder 89 = .ok (.bipush 23, 2)) ∧ (decode cX5_readOrder 91 = .ok (.invokevirtual 90, 3)) ∧ (decode cX5_readOrder 94 = .ok (.ifCond .eq 11, 3)) ∧ (decode cX5_readOrder 105 = .ok (.iconst 0, 1)) ∧ (decode cX5_readOrder 106 = .ok (.ireturn, 1)) ∧ (decode cX5_readOrder 97 = .ok (.aload_n 0, 1)) ∧ (decode cX5_readOrder 98 = .ok (.iconst 2, 1)) ∧ (decode cX5_readOrder 99 = .ok (.invokevirtual 136, 3)) ∧ (decode cX5_readOrder 102 = .ok (.ifCond .ne 5, 3)) ∧ (decode cX5_readOrder 107 = .ok (.aload_n 0, 1)) ∧ (decode cX5_readOrder 108 = .ok (.bipush 24, 2)) ∧ (decode cX5_readOrder 110 = .ok (.invokevirtual 90, 3)) ∧ (decode cX5_readOrder 113 = .ok (.ifCond .eq 10, 3)) ∧ (decode cX5_readOrder 123 = .ok (.iconst 1, 1)) ∧ (decode cX5_readOrder 124 = .ok (.goto 4, 3)) ∧ (decode cX5_readOrder 128 = .ok (.ireturn, 1)) := by decide +kernel
theorem dX5_readOrder_89 : decode cX5_readOrder 89 = .ok (.bipush 23, 2) := dB_831.1
theorem dX5_readOrder_91 : decode cX5_readOrder 91 = .ok (.invokevirtual 90, 3) := dB_831.2.1
theorem dX5_readOrder_94 : decode cX5_readOrder 94 = .ok (.ifCond .eq 11, 3) := dB_831.2.2.1
theorem dX5_readOrder_105 : decode cX5_readOrder 105 = .ok (.iconst 0, 1) := dB_831.2.2.2.1
theorem dX5_readOrder_106 : decode cX5_readOrder 106 = .ok (.ireturn, 1) := dB_831.2.2.2.2.1
theorem dX5_readOrder_97 : decode cX5_readOrder 97 = .ok (.aload_n 0, 1) := dB_831.2.2.2.2.2.1
theorem dX5_readOrder_98 : decode cX5_readOrder 98 = .ok (.iconst 2, 1) := dB_831.2.2.2.2.2.2.1
theorem dX5_readOrder_99 : decode cX5_readOrder 99 = .ok (.invokevirtual 136, 3) := dB_831.2.2.2.2.2.2.2.1
theorem dX5_readOrder_102 : decode cX5_readOrder 102 = .ok (.ifCond .ne 5, 3) := dB_831.2.2.2.2.2.2.2.2.1
theorem dX5_readOrder_107 : decode cX5_readOrder 107 = .ok (.aload_n 0, 1) := dB_831.2.2.2.2.2.2.2.2.2.1
theorem dX5_readOrder_108 : decode cX5_readOrder 108 = .ok (.bipush 24, 2) := dB_831.2.2.2.2.2.2.2.2.2.2.1
theorem dX5_readOrder_110 : decode cX5_readOrder 110 = .ok (.invokevirtual 90, 3) := dB_831.2.2.2.2.2.2.2.2.2.2.2.1
theorem dX5_readOrder_113 : decode cX5_readOrder 113 = .ok (.ifCond .eq 10, 3) := dB_831.2.2.2.2.2.2.2.2.2.2.2.2.1
theorem dX5_readOrder_123 : decode cX5_readOrder 123 = .ok (.iconst 1, 1) := dB_831.2.2.2.2.2.2.2.2.2.2.2.2.2.1
theorem dX5_readOrder_124 : decode cX5_readOrder 124 = .ok (.goto 4, 3) := dB_831.2.2.2.2.2.2.2.2.2.2.2.2.2.2.1
theorem dX5_readOrder_128 : decode cX5_readOrder 128 = .ok (.ireturn, 1) := dB_831.2.2.2.2.2.2.2.2.2.2.2.2.2.2.2
theorem dB_832 : (decode cX5_readOrder 116 = .ok (.aload_n 0, 1)) ∧ (decode cX5_readOrder 117 = .ok (.invokevirtual 139, 3)) ∧ (decode cX5_readOrder 120 = .ok (.ifCond .eq 7, 3)) ∧ (decode cX5_readOrder 127 = .ok (.iconst 0, 1)) ∧ (decode cX5_readOrder 55 = .ok (.iconst 0, 1)) ∧ (decode cX5_readOrder 56 = .ok (.ireturn, 1)) := by decide +kernel
theorem dX5_readOrder_116 : decode cX5_readOrder 116 = .ok (.aload_n 0, 1) := dB_832.1
theorem dX5_readOrder_117 : decode cX5_readOrder 117 = .ok (.invokevirtual 139, 3) := dB_832.2.1
theorem dX5_readOrder_120 : decode cX5_readOrder 120 = .ok (.ifCond .eq 7, 3) := dB_832.2.2.1
theorem dX5_readOrder_127 : decode cX5_readOrder 127 = .ok (.iconst 0, 1) := dB_832.2.2.2.1
theorem dX5_readOrder_55 : decode cX5_readOrder 55 = .ok (.iconst 0, 1) := dB_832.2.2.2.2.1
theorem dX5_readOrder_56 : decode cX5_readOrder 56 = .ok (.ireturn, 1) := dB_832.2.2.2.2.2
theorem lk_RX5_139 : Cond.methodLink RX5 139 yX5_readTimes ∈ gW := gW_u tb_4 70 (by rfl) (by decide +kernel)
theorem mI_X5_readTimes : Cond.instanceMethod yX5_readTimes ∈ gW := gW_u tb_4 72 (by rfl) (by decide +kernel)
theorem mS_X5_readTimes : Cond.selects RX5 yX5_readTimes yX5_readTimes ∈ gW := gW_p (q := (yX5_readTimes, 10)) 21 (by decide +kernel)
theorem mC_X5_readTimes : Cond.code yX5_readTimes cX5_readTimes 2 (some .boolean) ∈ gW := gW_u tb_4 73 (by rfl) (by decide +kernel)
theorem ok_X5_readTimes : okD yX5_readTimes 0 := ⟨by decide +kernel, by decide +kernel, by decide +kernel⟩
def yX5_splitIntoTokens : MethodName := ⟨RX5, "splitIntoTokens", "()V"⟩
abbrev cX5_splitIntoTokens : ByteArray := prog_7_method_6_code
theorem dB_833 : (decode cX5_splitIntoTokens 0 = .ok (.aload_n 0, 1)) ∧ (decode cX5_splitIntoTokens 1 = .ok (.iconst 0, 1)) ∧ (decode cX5_splitIntoTokens 2 = .ok (.putfield 96, 3)) ∧ (decode cX5_splitIntoTokens 5 = .ok (.iconst 0, 1)) ∧ (decode cX5_splitIntoTokens 6 = .ok (.istore_n 1, 1)) ∧ (decode cX5_splitIntoTokens 7 = .ok (.iconst 0, 1)) ∧ (decode cX5_splitIntoTokens 8 = .ok (.istore_n 2, 1)) ∧ (decode cX5_splitIntoTokens 9 = .ok (.iload_n 2, 1)) ∧ (decode cX5_splitIntoTokens 10 = .ok (.sipush 400, 3)) ∧ (decode cX5_splitIntoTokens 13 = .ok (.if_icmp .ge 127, 3)) ∧ (decode cX5_splitIntoTokens 16 = .ok (.iload_n 1, 1)) ∧ (decode cX5_splitIntoTokens 17 = .ok (.aload_n 0, 1)) ∧ (decode cX5_splitIntoTokens 18 = .ok (.getfield 34, 3)) ∧ (decode cX5_splitIntoTokens 21 = .ok (.if_icmp .ge 119, 3)) ∧ (decode cX5_splitIntoTokens 24 = .ok (.aload_n 0, 1)) ∧ (decode cX5_splitIntoTokens 25 = .ok (.getfield 9, 3)) := by decide +kernel
theorem dX5_splitIntoTokens_0 : decode cX5_splitIntoTokens 0 = .ok (.aload_n 0, 1) := dB_833.1
theorem dX5_splitIntoTokens_1 : decode cX5_splitIntoTokens 1 = .ok (.iconst 0, 1) := dB_833.2.1
theorem dX5_splitIntoTokens_2 : decode cX5_splitIntoTokens 2 = .ok (.putfield 96, 3) := dB_833.2.2.1
theorem dX5_splitIntoTokens_5 : decode cX5_splitIntoTokens 5 = .ok (.iconst 0, 1) := dB_833.2.2.2.1
theorem dX5_splitIntoTokens_6 : decode cX5_splitIntoTokens 6 = .ok (.istore_n 1, 1) := dB_833.2.2.2.2.1
theorem dX5_splitIntoTokens_7 : decode cX5_splitIntoTokens 7 = .ok (.iconst 0, 1) := dB_833.2.2.2.2.2.1
theorem dX5_splitIntoTokens_8 : decode cX5_splitIntoTokens 8 = .ok (.istore_n 2, 1) := dB_833.2.2.2.2.2.2.1
theorem dX5_splitIntoTokens_9 : decode cX5_splitIntoTokens 9 = .ok (.iload_n 2, 1) := dB_833.2.2.2.2.2.2.2.1
theorem dX5_splitIntoTokens_10 : decode cX5_splitIntoTokens 10 = .ok (.sipush 400, 3) := dB_833.2.2.2.2.2.2.2.2.1
theorem dX5_splitIntoTokens_13 : decode cX5_splitIntoTokens 13 = .ok (.if_icmp .ge 127, 3) := dB_833.2.2.2.2.2.2.2.2.2.1
theorem dX5_splitIntoTokens_16 : decode cX5_splitIntoTokens 16 = .ok (.iload_n 1, 1) := dB_833.2.2.2.2.2.2.2.2.2.2.1
theorem dX5_splitIntoTokens_17 : decode cX5_splitIntoTokens 17 = .ok (.aload_n 0, 1) := dB_833.2.2.2.2.2.2.2.2.2.2.2.1
theorem dX5_splitIntoTokens_18 : decode cX5_splitIntoTokens 18 = .ok (.getfield 34, 3) := dB_833.2.2.2.2.2.2.2.2.2.2.2.2.1
theorem dX5_splitIntoTokens_21 : decode cX5_splitIntoTokens 21 = .ok (.if_icmp .ge 119, 3) := dB_833.2.2.2.2.2.2.2.2.2.2.2.2.2.1
theorem dX5_splitIntoTokens_24 : decode cX5_splitIntoTokens 24 = .ok (.aload_n 0, 1) := dB_833.2.2.2.2.2.2.2.2.2.2.2.2.2.2.1
theorem dX5_splitIntoTokens_25 : decode cX5_splitIntoTokens 25 = .ok (.getfield 9, 3) := dB_833.2.2.2.2.2.2.2.2.2.2.2.2.2.2.2
theorem dB_834 : (decode cX5_splitIntoTokens 28 = .ok (.iload_n 1, 1)) ∧ (decode cX5_splitIntoTokens 29 = .ok (.iaload, 1)) ∧ (decode cX5_splitIntoTokens 30 = .ok (.istore_n 3, 1)) ∧ (decode cX5_splitIntoTokens 31 = .ok (.iload_n 1, 1)) ∧ (decode cX5_splitIntoTokens 32 = .ok (.iconst 1, 1)) ∧ (decode cX5_splitIntoTokens 33 = .ok (.iadd, 1)) ∧ (decode cX5_splitIntoTokens 34 = .ok (.istore 4, 2)) ∧ (decode cX5_splitIntoTokens 36 = .ok (.iload_n 3, 1)) ∧ (decode cX5_splitIntoTokens 37 = .ok (.bipush 97, 2)) ∧ (decode cX5_splitIntoTokens 39 = .ok (.if_icmp .lt 35, 3)) ∧ (decode cX5_splitIntoTokens 42 = .ok (.iload_n 3, 1)) ∧ (decode cX5_splitIntoTokens 43 = .ok (.bipush 122, 2)) ∧ (decode cX5_splitIntoTokens 45 = .ok (.if_icmp .gt 29, 3)) ∧ (decode cX5_splitIntoTokens 48 = .ok (.aload_n 0, 1)) ∧ (decode cX5_splitIntoTokens 49 = .ok (.iload_n 1, 1)) ∧ (decode cX5_splitIntoTokens 50 = .ok (.bipush 97, 2)) := by decide +kernel
theorem dX5_splitIntoTokens_28 : decode cX5_splitIntoTokens 28 = .ok (.iload_n 1, 1) := dB_834.1
theorem dX5_splitIntoTokens_29 : decode cX5_splitIntoTokens 29 = .ok (.iaload, 1) := dB_834.2.1
theorem dX5_splitIntoTokens_30 : decode cX5_splitIntoTokens 30 = .ok (.istore_n 3, 1) := dB_834.2.2.1
theorem dX5_splitIntoTokens_31 : decode cX5_splitIntoTokens 31 = .ok (.iload_n 1, 1) := dB_834.2.2.2.1
theorem dX5_splitIntoTokens_32 : decode cX5_splitIntoTokens 32 = .ok (.iconst 1, 1) := dB_834.2.2.2.2.1
theorem dX5_splitIntoTokens_33 : decode cX5_splitIntoTokens 33 = .ok (.iadd, 1) := dB_834.2.2.2.2.2.1
theorem dX5_splitIntoTokens_34 : decode cX5_splitIntoTokens 34 = .ok (.istore 4, 2) := dB_834.2.2.2.2.2.2.1
theorem dX5_splitIntoTokens_36 : decode cX5_splitIntoTokens 36 = .ok (.iload_n 3, 1) := dB_834.2.2.2.2.2.2.2.1
theorem dX5_splitIntoTokens_37 : decode cX5_splitIntoTokens 37 = .ok (.bipush 97, 2) := dB_834.2.2.2.2.2.2.2.2.1
theorem dX5_splitIntoTokens_39 : decode cX5_splitIntoTokens 39 = .ok (.if_icmp .lt 35, 3) := dB_834.2.2.2.2.2.2.2.2.2.1
theorem dX5_splitIntoTokens_42 : decode cX5_splitIntoTokens 42 = .ok (.iload_n 3, 1) := dB_834.2.2.2.2.2.2.2.2.2.2.1
theorem dX5_splitIntoTokens_43 : decode cX5_splitIntoTokens 43 = .ok (.bipush 122, 2) := dB_834.2.2.2.2.2.2.2.2.2.2.2.1
theorem dX5_splitIntoTokens_45 : decode cX5_splitIntoTokens 45 = .ok (.if_icmp .gt 29, 3) := dB_834.2.2.2.2.2.2.2.2.2.2.2.2.1
theorem dX5_splitIntoTokens_48 : decode cX5_splitIntoTokens 48 = .ok (.aload_n 0, 1) := dB_834.2.2.2.2.2.2.2.2.2.2.2.2.2.1
theorem dX5_splitIntoTokens_49 : decode cX5_splitIntoTokens 49 = .ok (.iload_n 1, 1) := dB_834.2.2.2.2.2.2.2.2.2.2.2.2.2.2.1
theorem dX5_splitIntoTokens_50 : decode cX5_splitIntoTokens 50 = .ok (.bipush 97, 2) := dB_834.2.2.2.2.2.2.2.2.2.2.2.2.2.2.2
theorem dB_835 : (decode cX5_splitIntoTokens 52 = .ok (.bipush 122, 2)) ∧ (decode cX5_splitIntoTokens 54 = .ok (.invokevirtual 99, 3)) ∧ (decode cX5_splitIntoTokens 57 = .ok (.istore 4, 2)) ∧ (decode cX5_splitIntoTokens 59 = .ok (.aload_n 0, 1)) ∧ (decode cX5_splitIntoTokens 60 = .ok (.aload_n 0, 1)) ∧ (decode cX5_splitIntoTokens 61 = .ok (.iload_n 1, 1)) ∧ (decode cX5_splitIntoTokens 62 = .ok (.iload 4, 2)) ∧ (decode cX5_splitIntoTokens 64 = .ok (.invokevirtual 103, 3)) ∧ (decode cX5_splitIntoTokens 67 = .ok (.iload_n 1, 1)) ∧ (decode cX5_splitIntoTokens 68 = .ok (.invokevirtual 107, 3)) ∧ (decode cX5_splitIntoTokens 71 = .ok (.goto 60, 3)) ∧ (decode cX5_splitIntoTokens 131 = .ok (.iload 4, 2)) ∧ (decode cX5_splitIntoTokens 133 = .ok (.istore_n 1, 1)) ∧ (decode cX5_splitIntoTokens 134 = .ok (.iinc 2 1, 3)) ∧ (decode cX5_splitIntoTokens 137 = .ok (.goto (-128), 3)) ∧ (decode cX5_splitIntoTokens 74 = .ok (.iload_n 3, 1)) := by decide +kernel
theorem dX5_splitIntoTokens_52 : decode cX5_splitIntoTokens 52 = .ok (.bipush 122, 2) := dB_835.1
theorem dX5_splitIntoTokens_54 : decode cX5_splitIntoTokens 54 = .ok (.invokevirtual 99, 3) := dB_835.2.1
theorem dX5_splitIntoTokens_57 : decode cX5_splitIntoTokens 57 = .ok (.istore 4, 2) := dB_835.2.2.1
theorem dX5_splitIntoTokens_59 : decode cX5_splitIntoTokens 59 = .ok (.aload_n 0, 1) := dB_835.2.2.2.1
theorem dX5_splitIntoTokens_60 : decode cX5_splitIntoTokens 60 = .ok (.aload_n 0, 1) := dB_835.2.2.2.2.1
theorem dX5_splitIntoTokens_61 : decode cX5_splitIntoTokens 61 = .ok (.iload_n 1, 1) := dB_835.2.2.2.2.2.1
theorem dX5_splitIntoTokens_62 : decode cX5_splitIntoTokens 62 = .ok (.iload 4, 2) := dB_835.2.2.2.2.2.2.1
theorem dX5_splitIntoTokens_64 : decode cX5_splitIntoTokens 64 = .ok (.invokevirtual 103, 3) := dB_835.2.2.2.2.2.2.2.1
theorem dX5_splitIntoTokens_67 : decode cX5_splitIntoTokens 67 = .ok (.iload_n 1, 1) := dB_835.2.2.2.2.2.2.2.2.1
theorem dX5_splitIntoTokens_68 : decode cX5_splitIntoTokens 68 = .ok (.invokevirtual 107, 3) := dB_835.2.2.2.2.2.2.2.2.2.1
theorem dX5_splitIntoTokens_71 : decode cX5_splitIntoTokens 71 = .ok (.goto 60, 3) := dB_835.2.2.2.2.2.2.2.2.2.2.1
theorem dX5_splitIntoTokens_131 : decode cX5_splitIntoTokens 131 = .ok (.iload 4, 2) := dB_835.2.2.2.2.2.2.2.2.2.2.2.1
theorem dX5_splitIntoTokens_133 : decode cX5_splitIntoTokens 133 = .ok (.istore_n 1, 1) := dB_835.2.2.2.2.2.2.2.2.2.2.2.2.1
theorem dX5_splitIntoTokens_134 : decode cX5_splitIntoTokens 134 = .ok (.iinc 2 1, 3) := dB_835.2.2.2.2.2.2.2.2.2.2.2.2.2.1
theorem dX5_splitIntoTokens_137 : decode cX5_splitIntoTokens 137 = .ok (.goto (-128), 3) := dB_835.2.2.2.2.2.2.2.2.2.2.2.2.2.2.1
theorem dX5_splitIntoTokens_74 : decode cX5_splitIntoTokens 74 = .ok (.iload_n 3, 1) := dB_835.2.2.2.2.2.2.2.2.2.2.2.2.2.2.2
theorem lk_RX5_99 : Cond.methodLink RX5 99 yX5_endOfRow ∈ gW := gW_u tb_3 191 (by rfl) (by decide +kernel)
theorem mI_X5_endOfRow : Cond.instanceMethod yX5_endOfRow ∈ gW := gW_u tb_3 193 (by rfl) (by decide +kernel)
theorem mS_X5_endOfRow : Cond.selects RX5 yX5_endOfRow yX5_endOfRow ∈ gW := gW_p (q := (yX5_endOfRow, 10)) 5 (by decide +kernel)
theorem mC_X5_endOfRow : Cond.code yX5_endOfRow cX5_endOfRow 5 (some .int) ∈ gW := gW_u tb_3 194 (by rfl) (by decide +kernel)
theorem ok_X5_endOfRow : okD yX5_endOfRow 3 := ⟨by decide +kernel, by decide +kernel, by decide +kernel⟩
theorem lk_RX5_103 : Cond.methodLink RX5 103 yX5_wordIn ∈ gW := gW_u tb_3 195 (by rfl) (by decide +kernel)
theorem mI_X5_wordIn : Cond.instanceMethod yX5_wordIn ∈ gW := gW_u tb_3 197 (by rfl) (by decide +kernel)
theorem mS_X5_wordIn : Cond.selects RX5 yX5_wordIn yX5_wordIn ∈ gW := gW_p (q := (yX5_wordIn, 10)) 6 (by decide +kernel)
theorem mC_X5_wordIn : Cond.code yX5_wordIn cX5_wordIn 4 (some .int) ∈ gW := gW_u tb_3 198 (by rfl) (by decide +kernel)
theorem ok_X5_wordIn : okD yX5_wordIn 2 := ⟨by decide +kernel, by decide +kernel, by decide +kernel⟩
theorem lk_RX5_107 : Cond.methodLink RX5 107 yX5_addToken ∈ gW := gW_u tb_4 4 (by rfl) (by decide +kernel)
theorem mI_X5_addToken : Cond.instanceMethod yX5_addToken ∈ gW := gW_u tb_4 6 (by rfl) (by decide +kernel)
theorem mS_X5_addToken : Cond.selects RX5 yX5_addToken yX5_addToken ∈ gW := gW_p (q := (yX5_addToken, 10)) 8 (by decide +kernel)
theorem mC_X5_addToken : Cond.code yX5_addToken cX5_addToken 3 none ∈ gW := gW_u tb_4 7 (by rfl) (by decide +kernel)
theorem ok_X5_addToken : okD yX5_addToken 2 := ⟨by decide +kernel, by decide +kernel, by decide +kernel⟩
theorem dB_836 : (decode cX5_splitIntoTokens 75 = .ok (.bipush 48, 2)) ∧ (decode cX5_splitIntoTokens 77 = .ok (.if_icmp .lt 39, 3)) ∧ (decode cX5_splitIntoTokens 80 = .ok (.iload_n 3, 1)) ∧ (decode cX5_splitIntoTokens 81 = .ok (.bipush 57, 2)) ∧ (decode cX5_splitIntoTokens 83 = .ok (.if_icmp .gt 33, 3)) ∧ (decode cX5_splitIntoTokens 86 = .ok (.aload_n 0, 1)) ∧ (decode cX5_splitIntoTokens 87 = .ok (.iload_n 1, 1)) ∧ (decode cX5_splitIntoTokens 88 = .ok (.bipush 48, 2)) ∧ (decode cX5_splitIntoTokens 90 = .ok (.bipush 57, 2)) ∧ (decode cX5_splitIntoTokens 92 = .ok (.invokevirtual 99, 3)) ∧ (decode cX5_splitIntoTokens 95 = .ok (.istore 4, 2)) ∧ (decode cX5_splitIntoTokens 97 = .ok (.aload_n 0, 1)) ∧ (decode cX5_splitIntoTokens 98 = .ok (.sipush 1000, 3)) ∧ (decode cX5_splitIntoTokens 101 = .ok (.aload_n 0, 1)) ∧ (decode cX5_splitIntoTokens 102 = .ok (.iload_n 1, 1)) ∧ (decode cX5_splitIntoTokens 103 = .ok (.iload 4, 2)) := by decide +kernel
theorem dX5_splitIntoTokens_75 : decode cX5_splitIntoTokens 75 = .ok (.bipush 48, 2) := dB_836.1
theorem dX5_splitIntoTokens_77 : decode cX5_splitIntoTokens 77 = .ok (.if_icmp .lt 39, 3) := dB_836.2.1
theorem dX5_splitIntoTokens_80 : decode cX5_splitIntoTokens 80 = .ok (.iload_n 3, 1) := dB_836.2.2.1
theorem dX5_splitIntoTokens_81 : decode cX5_splitIntoTokens 81 = .ok (.bipush 57, 2) := dB_836.2.2.2.1
theorem dX5_splitIntoTokens_83 : decode cX5_splitIntoTokens 83 = .ok (.if_icmp .gt 33, 3) := dB_836.2.2.2.2.1
theorem dX5_splitIntoTokens_86 : decode cX5_splitIntoTokens 86 = .ok (.aload_n 0, 1) := dB_836.2.2.2.2.2.1
theorem dX5_splitIntoTokens_87 : decode cX5_splitIntoTokens 87 = .ok (.iload_n 1, 1) := dB_836.2.2.2.2.2.2.1
theorem dX5_splitIntoTokens_88 : decode cX5_splitIntoTokens 88 = .ok (.bipush 48, 2) := dB_836.2.2.2.2.2.2.2.1
theorem dX5_splitIntoTokens_90 : decode cX5_splitIntoTokens 90 = .ok (.bipush 57, 2) := dB_836.2.2.2.2.2.2.2.2.1
theorem dX5_splitIntoTokens_92 : decode cX5_splitIntoTokens 92 = .ok (.invokevirtual 99, 3) := dB_836.2.2.2.2.2.2.2.2.2.1
theorem dX5_splitIntoTokens_95 : decode cX5_splitIntoTokens 95 = .ok (.istore 4, 2) := dB_836.2.2.2.2.2.2.2.2.2.2.1
theorem dX5_splitIntoTokens_97 : decode cX5_splitIntoTokens 97 = .ok (.aload_n 0, 1) := dB_836.2.2.2.2.2.2.2.2.2.2.2.1
theorem dX5_splitIntoTokens_98 : decode cX5_splitIntoTokens 98 = .ok (.sipush 1000, 3) := dB_836.2.2.2.2.2.2.2.2.2.2.2.2.1
theorem dX5_splitIntoTokens_101 : decode cX5_splitIntoTokens 101 = .ok (.aload_n 0, 1) := dB_836.2.2.2.2.2.2.2.2.2.2.2.2.2.1
theorem dX5_splitIntoTokens_102 : decode cX5_splitIntoTokens 102 = .ok (.iload_n 1, 1) := dB_836.2.2.2.2.2.2.2.2.2.2.2.2.2.2.1
theorem dX5_splitIntoTokens_103 : decode cX5_splitIntoTokens 103 = .ok (.iload 4, 2) := dB_836.2.2.2.2.2.2.2.2.2.2.2.2.2.2.2
theorem dB_837 : (decode cX5_splitIntoTokens 105 = .ok (.invokevirtual 110, 3)) ∧ (decode cX5_splitIntoTokens 108 = .ok (.iadd, 1)) ∧ (decode cX5_splitIntoTokens 109 = .ok (.iload_n 1, 1)) ∧ (decode cX5_splitIntoTokens 110 = .ok (.invokevirtual 107, 3)) ∧ (decode cX5_splitIntoTokens 113 = .ok (.goto 18, 3)) ∧ (decode cX5_splitIntoTokens 116 = .ok (.iload_n 3, 1)) ∧ (decode cX5_splitIntoTokens 117 = .ok (.bipush 32, 2)) ∧ (decode cX5_splitIntoTokens 119 = .ok (.if_icmp .eq 12, 3)) ∧ (decode cX5_splitIntoTokens 122 = .ok (.aload_n 0, 1)) ∧ (decode cX5_splitIntoTokens 123 = .ok (.bipush 100, 2)) ∧ (decode cX5_splitIntoTokens 125 = .ok (.iload_n 3, 1)) ∧ (decode cX5_splitIntoTokens 126 = .ok (.iadd, 1)) ∧ (decode cX5_splitIntoTokens 127 = .ok (.iload_n 1, 1)) ∧ (decode cX5_splitIntoTokens 128 = .ok (.invokevirtual 107, 3)) ∧ (decode cX5_splitIntoTokens 140 = .ok (.aload_n 0, 1)) ∧ (decode cX5_splitIntoTokens 141 = .ok (.bipush 31, 2)) := by decide +kernel
theorem dX5_splitIntoTokens_105 : decode cX5_splitIntoTokens 105 = .ok (.invokevirtual 110, 3) := dB_837.1
theorem dX5_splitIntoTokens_108 : decode cX5_splitIntoTokens 108 = .ok (.iadd, 1) := dB_837.2.1
theorem dX5_splitIntoTokens_109 : decode cX5_splitIntoTokens 109 = .ok (.iload_n 1, 1) := dB_837.2.2.1
theorem dX5_splitIntoTokens_110 : decode cX5_splitIntoTokens 110 = .ok (.invokevirtual 107, 3) := dB_837.2.2.2.1
theorem dX5_splitIntoTokens_113 : decode cX5_splitIntoTokens 113 = .ok (.goto 18, 3) := dB_837.2.2.2.2.1
theorem dX5_splitIntoTokens_116 : decode cX5_splitIntoTokens 116 = .ok (.iload_n 3, 1) := dB_837.2.2.2.2.2.1
theorem dX5_splitIntoTokens_117 : decode cX5_splitIntoTokens 117 = .ok (.bipush 32, 2) := dB_837.2.2.2.2.2.2.1
theorem dX5_splitIntoTokens_119 : decode cX5_splitIntoTokens 119 = .ok (.if_icmp .eq 12, 3) := dB_837.2.2.2.2.2.2.2.1
theorem dX5_splitIntoTokens_122 : decode cX5_splitIntoTokens 122 = .ok (.aload_n 0, 1) := dB_837.2.2.2.2.2.2.2.2.1
theorem dX5_splitIntoTokens_123 : decode cX5_splitIntoTokens 123 = .ok (.bipush 100, 2) := dB_837.2.2.2.2.2.2.2.2.2.1
theorem dX5_splitIntoTokens_125 : decode cX5_splitIntoTokens 125 = .ok (.iload_n 3, 1) := dB_837.2.2.2.2.2.2.2.2.2.2.1
theorem dX5_splitIntoTokens_126 : decode cX5_splitIntoTokens 126 = .ok (.iadd, 1) := dB_837.2.2.2.2.2.2.2.2.2.2.2.1
theorem dX5_splitIntoTokens_127 : decode cX5_splitIntoTokens 127 = .ok (.iload_n 1, 1) := dB_837.2.2.2.2.2.2.2.2.2.2.2.2.1
theorem dX5_splitIntoTokens_128 : decode cX5_splitIntoTokens 128 = .ok (.invokevirtual 107, 3) := dB_837.2.2.2.2.2.2.2.2.2.2.2.2.2.1
theorem dX5_splitIntoTokens_140 : decode cX5_splitIntoTokens 140 = .ok (.aload_n 0, 1) := dB_837.2.2.2.2.2.2.2.2.2.2.2.2.2.2.1
theorem dX5_splitIntoTokens_141 : decode cX5_splitIntoTokens 141 = .ok (.bipush 31, 2) := dB_837.2.2.2.2.2.2.2.2.2.2.2.2.2.2.2
theorem lk_RX5_110 : Cond.methodLink RX5 110 yX5_numberIn ∈ gW := gW_u tb_4 8 (by rfl) (by decide +kernel)
theorem mI_X5_numberIn : Cond.instanceMethod yX5_numberIn ∈ gW := gW_u tb_4 10 (by rfl) (by decide +kernel)
theorem mS_X5_numberIn : Cond.selects RX5 yX5_numberIn yX5_numberIn ∈ gW := gW_p (q := (yX5_numberIn, 10)) 9 (by decide +kernel)
theorem mC_X5_numberIn : Cond.code yX5_numberIn cX5_numberIn 5 (some .int) ∈ gW := gW_u tb_4 11 (by rfl) (by decide +kernel)
theorem ok_X5_numberIn : okD yX5_numberIn 2 := ⟨by decide +kernel, by decide +kernel, by decide +kernel⟩
theorem dB_838 : (decode cX5_splitIntoTokens 143 = .ok (.aload_n 0, 1)) ∧ (decode cX5_splitIntoTokens 144 = .ok (.getfield 34, 3)) ∧ (decode cX5_splitIntoTokens 147 = .ok (.invokevirtual 107, 3)) ∧ (decode cX5_splitIntoTokens 150 = .ok (.return_, 1)) := by decide +kernel
theorem dX5_splitIntoTokens_143 : decode cX5_splitIntoTokens 143 = .ok (.aload_n 0, 1) := dB_838.1
theorem dX5_splitIntoTokens_144 : decode cX5_splitIntoTokens 144 = .ok (.getfield 34, 3) := dB_838.2.1
theorem dX5_splitIntoTokens_147 : decode cX5_splitIntoTokens 147 = .ok (.invokevirtual 107, 3) := dB_838.2.2.1
theorem dX5_splitIntoTokens_150 : decode cX5_splitIntoTokens 150 = .ok (.return_, 1) := dB_838.2.2.2
def yX5_read : MethodName := ⟨RX5, "read", "(Z)Z"⟩
abbrev cX5_read : ByteArray := prog_7_method_4_code
theorem dB_839 : (decode cX5_read 0 = .ok (.aload_n 0, 1)) ∧ (decode cX5_read 1 = .ok (.invokevirtual 56, 3)) ∧ (decode cX5_read 4 = .ok (.aload_n 0, 1)) ∧ (decode cX5_read 5 = .ok (.iload_n 1, 1)) ∧ (decode cX5_read 6 = .ok (.putfield 59, 3)) ∧ (decode cX5_read 9 = .ok (.aload_n 0, 1)) ∧ (decode cX5_read 10 = .ok (.iconst 0, 1)) ∧ (decode cX5_read 11 = .ok (.putfield 63, 3)) ∧ (decode cX5_read 14 = .ok (.aload_n 0, 1)) ∧ (decode cX5_read 15 = .ok (.iconst 0, 1)) ∧ (decode cX5_read 16 = .ok (.putfield 66, 3)) ∧ (decode cX5_read 19 = .ok (.aload_n 0, 1)) ∧ (decode cX5_read 20 = .ok (.getfield 30, 3)) ∧ (decode cX5_read 23 = .ok (.iconst 0, 1)) ∧ (decode cX5_read 24 = .ok (.putfield 69, 3)) ∧ (decode cX5_read 27 = .ok (.aload_n 0, 1)) := by decide +kernel
theorem dX5_read_0 : decode cX5_read 0 = .ok (.aload_n 0, 1) := dB_839.1
theorem dX5_read_1 : decode cX5_read 1 = .ok (.invokevirtual 56, 3) := dB_839.2.1
theorem dX5_read_4 : decode cX5_read 4 = .ok (.aload_n 0, 1) := dB_839.2.2.1
theorem dX5_read_5 : decode cX5_read 5 = .ok (.iload_n 1, 1) := dB_839.2.2.2.1
theorem dX5_read_6 : decode cX5_read 6 = .ok (.putfield 59, 3) := dB_839.2.2.2.2.1
theorem dX5_read_9 : decode cX5_read 9 = .ok (.aload_n 0, 1) := dB_839.2.2.2.2.2.1
theorem dX5_read_10 : decode cX5_read 10 = .ok (.iconst 0, 1) := dB_839.2.2.2.2.2.2.1
theorem dX5_read_11 : decode cX5_read 11 = .ok (.putfield 63, 3) := dB_839.2.2.2.2.2.2.2.1
theorem dX5_read_14 : decode cX5_read 14 = .ok (.aload_n 0, 1) := dB_839.2.2.2.2.2.2.2.2.1
theorem dX5_read_15 : decode cX5_read 15 = .ok (.iconst 0, 1) := dB_839.2.2.2.2.2.2.2.2.2.1
theorem dX5_read_16 : decode cX5_read 16 = .ok (.putfield 66, 3) := dB_839.2.2.2.2.2.2.2.2.2.2.1
theorem dX5_read_19 : decode cX5_read 19 = .ok (.aload_n 0, 1) := dB_839.2.2.2.2.2.2.2.2.2.2.2.1
theorem dX5_read_20 : decode cX5_read 20 = .ok (.getfield 30, 3) := dB_839.2.2.2.2.2.2.2.2.2.2.2.2.1
theorem dX5_read_23 : decode cX5_read 23 = .ok (.iconst 0, 1) := dB_839.2.2.2.2.2.2.2.2.2.2.2.2.2.1
theorem dX5_read_24 : decode cX5_read 24 = .ok (.putfield 69, 3) := dB_839.2.2.2.2.2.2.2.2.2.2.2.2.2.2.1
theorem dX5_read_27 : decode cX5_read 27 = .ok (.aload_n 0, 1) := dB_839.2.2.2.2.2.2.2.2.2.2.2.2.2.2.2
theorem lk_RX5_56 : Cond.methodLink RX5 56 yX5_splitIntoTokens ∈ gW := gW_u tb_3 187 (by rfl) (by decide +kernel)
theorem mI_X5_splitIntoTokens : Cond.instanceMethod yX5_splitIntoTokens ∈ gW := gW_u tb_3 189 (by rfl) (by decide +kernel)
theorem mS_X5_splitIntoTokens : Cond.selects RX5 yX5_splitIntoTokens yX5_splitIntoTokens ∈ gW := gW_p (q := (yX5_splitIntoTokens, 10)) 4 (by decide +kernel)
theorem mC_X5_splitIntoTokens : Cond.code yX5_splitIntoTokens cX5_splitIntoTokens 5 none ∈ gW := gW_u tb_3 190 (by rfl) (by decide +kernel)
theorem ok_X5_splitIntoTokens : okD yX5_splitIntoTokens 0 := ⟨by decide +kernel, by decide +kernel, by decide +kernel⟩
theorem dB_840 : (decode cX5_read 28 = .ok (.getfield 30, 3)) ∧ (decode cX5_read 31 = .ok (.iconst 0, 1)) ∧ (decode cX5_read 32 = .ok (.putfield 72, 3)) ∧ (decode cX5_read 35 = .ok (.iconst 1, 1)) ∧ (decode cX5_read 36 = .ok (.istore_n 2, 1)) ∧ (decode cX5_read 37 = .ok (.iconst 0, 1)) ∧ (decode cX5_read 38 = .ok (.istore_n 3, 1)) ∧ (decode cX5_read 39 = .ok (.iconst 0, 1)) ∧ (decode cX5_read 40 = .ok (.istore 4, 2)) ∧ (decode cX5_read 42 = .ok (.iload 4, 2)) ∧ (decode cX5_read 44 = .ok (.bipush 12, 2)) ∧ (decode cX5_read 46 = .ok (.if_icmp .ge 110, 3)) ∧ (decode cX5_read 49 = .ok (.iload_n 2, 1)) ∧ (decode cX5_read 50 = .ok (.ifCond .eq 106, 3)) ∧ (decode cX5_read 53 = .ok (.iload_n 3, 1)) ∧ (decode cX5_read 54 = .ok (.ifCond .ne 102, 3)) := by decide +kernel
theorem dX5_read_28 : decode cX5_read 28 = .ok (.getfield 30, 3) := dB_840.1
theorem dX5_read_31 : decode cX5_read 31 = .ok (.iconst 0, 1) := dB_840.2.1
theorem dX5_read_32 : decode cX5_read 32 = .ok (.putfield 72, 3) := dB_840.2.2.1
theorem dX5_read_35 : decode cX5_read 35 = .ok (.iconst 1, 1) := dB_840.2.2.2.1
theorem dX5_read_36 : decode cX5_read 36 = .ok (.istore_n 2, 1) := dB_840.2.2.2.2.1
theorem dX5_read_37 : decode cX5_read 37 = .ok (.iconst 0, 1) := dB_840.2.2.2.2.2.1
theorem dX5_read_38 : decode cX5_read 38 = .ok (.istore_n 3, 1) := dB_840.2.2.2.2.2.2.1
theorem dX5_read_39 : decode cX5_read 39 = .ok (.iconst 0, 1) := dB_840.2.2.2.2.2.2.2.1
theorem dX5_read_40 : decode cX5_read 40 = .ok (.istore 4, 2) := dB_840.2.2.2.2.2.2.2.2.1
theorem dX5_read_42 : decode cX5_read 42 = .ok (.iload 4, 2) := dB_840.2.2.2.2.2.2.2.2.2.1
theorem dX5_read_44 : decode cX5_read 44 = .ok (.bipush 12, 2) := dB_840.2.2.2.2.2.2.2.2.2.2.1
theorem dX5_read_46 : decode cX5_read 46 = .ok (.if_icmp .ge 110, 3) := dB_840.2.2.2.2.2.2.2.2.2.2.2.1
theorem dX5_read_49 : decode cX5_read 49 = .ok (.iload_n 2, 1) := dB_840.2.2.2.2.2.2.2.2.2.2.2.2.1
theorem dX5_read_50 : decode cX5_read 50 = .ok (.ifCond .eq 106, 3) := dB_840.2.2.2.2.2.2.2.2.2.2.2.2.2.1
theorem dX5_read_53 : decode cX5_read 53 = .ok (.iload_n 3, 1) := dB_840.2.2.2.2.2.2.2.2.2.2.2.2.2.2.1
theorem dX5_read_54 : decode cX5_read 54 = .ok (.ifCond .ne 102, 3) := dB_840.2.2.2.2.2.2.2.2.2.2.2.2.2.2.2
theorem dB_841 : (decode cX5_read 57 = .ok (.aload_n 0, 1)) ∧ (decode cX5_read 58 = .ok (.invokevirtual 73, 3)) ∧ (decode cX5_read 61 = .ok (.aload_n 0, 1)) ∧ (decode cX5_read 62 = .ok (.getfield 59, 3)) ∧ (decode cX5_read 65 = .ok (.ifCond .eq 13, 3)) ∧ (decode cX5_read 78 = .ok (.aload_n 0, 1)) ∧ (decode cX5_read 79 = .ok (.invokevirtual 80, 3)) ∧ (decode cX5_read 82 = .ok (.ifCond .eq 14, 3)) ∧ (decode cX5_read 96 = .ok (.iconst 0, 1)) ∧ (decode cX5_read 85 = .ok (.aload_n 0, 1)) ∧ (decode cX5_read 86 = .ok (.invokevirtual 83, 3)) ∧ (decode cX5_read 89 = .ok (.ifCond .eq 7, 3)) ∧ (decode cX5_read 92 = .ok (.iconst 1, 1)) ∧ (decode cX5_read 93 = .ok (.goto 4, 3)) ∧ (decode cX5_read 68 = .ok (.aload_n 0, 1)) ∧ (decode cX5_read 69 = .ok (.invokevirtual 76, 3)) := by decide +kernel
theorem dX5_read_57 : decode cX5_read 57 = .ok (.aload_n 0, 1) := dB_841.1
theorem dX5_read_58 : decode cX5_read 58 = .ok (.invokevirtual 73, 3) := dB_841.2.1
theorem dX5_read_61 : decode cX5_read 61 = .ok (.aload_n 0, 1) := dB_841.2.2.1
theorem dX5_read_62 : decode cX5_read 62 = .ok (.getfield 59, 3) := dB_841.2.2.2.1
theorem dX5_read_65 : decode cX5_read 65 = .ok (.ifCond .eq 13, 3) := dB_841.2.2.2.2.1
theorem dX5_read_78 : decode cX5_read 78 = .ok (.aload_n 0, 1) := dB_841.2.2.2.2.2.1
theorem dX5_read_79 : decode cX5_read 79 = .ok (.invokevirtual 80, 3) := dB_841.2.2.2.2.2.2.1
theorem dX5_read_82 : decode cX5_read 82 = .ok (.ifCond .eq 14, 3) := dB_841.2.2.2.2.2.2.2.1
theorem dX5_read_96 : decode cX5_read 96 = .ok (.iconst 0, 1) := dB_841.2.2.2.2.2.2.2.2.1
theorem dX5_read_85 : decode cX5_read 85 = .ok (.aload_n 0, 1) := dB_841.2.2.2.2.2.2.2.2.2.1
theorem dX5_read_86 : decode cX5_read 86 = .ok (.invokevirtual 83, 3) := dB_841.2.2.2.2.2.2.2.2.2.2.1
theorem dX5_read_89 : decode cX5_read 89 = .ok (.ifCond .eq 7, 3) := dB_841.2.2.2.2.2.2.2.2.2.2.2.1
theorem dX5_read_92 : decode cX5_read 92 = .ok (.iconst 1, 1) := dB_841.2.2.2.2.2.2.2.2.2.2.2.2.1
theorem dX5_read_93 : decode cX5_read 93 = .ok (.goto 4, 3) := dB_841.2.2.2.2.2.2.2.2.2.2.2.2.2.1
theorem dX5_read_68 : decode cX5_read 68 = .ok (.aload_n 0, 1) := dB_841.2.2.2.2.2.2.2.2.2.2.2.2.2.2.1
theorem dX5_read_69 : decode cX5_read 69 = .ok (.invokevirtual 76, 3) := dB_841.2.2.2.2.2.2.2.2.2.2.2.2.2.2.2
theorem lk_RX5_73 : Cond.methodLink RX5 73 yX5_beginHead ∈ gW := gW_u tb_4 13 (by rfl) (by decide +kernel)
theorem mI_X5_beginHead : Cond.instanceMethod yX5_beginHead ∈ gW := gW_u tb_4 15 (by rfl) (by decide +kernel)
theorem mS_X5_beginHead : Cond.selects RX5 yX5_beginHead yX5_beginHead ∈ gW := gW_p (q := (yX5_beginHead, 10)) 10 (by decide +kernel)
theorem mC_X5_beginHead : Cond.code yX5_beginHead cX5_beginHead 1 none ∈ gW := gW_u tb_4 16 (by rfl) (by decide +kernel)
theorem ok_X5_beginHead : okD yX5_beginHead 0 := ⟨by decide +kernel, by decide +kernel, by decide +kernel⟩
theorem lk_RX5_80 : Cond.methodLink RX5 80 yX5_readRule ∈ gW := gW_u tb_4 74 (by rfl) (by decide +kernel)
theorem mI_X5_readRule : Cond.instanceMethod yX5_readRule ∈ gW := gW_u tb_4 76 (by rfl) (by decide +kernel)
theorem mS_X5_readRule : Cond.selects RX5 yX5_readRule yX5_readRule ∈ gW := gW_p (q := (yX5_readRule, 10)) 22 (by decide +kernel)
theorem mC_X5_readRule : Cond.code yX5_readRule cX5_readRule 2 (some .boolean) ∈ gW := gW_u tb_4 77 (by rfl) (by decide +kernel)
theorem ok_X5_readRule : okD yX5_readRule 0 := ⟨by decide +kernel, by decide +kernel, by decide +kernel⟩
theorem lk_RX5_83 : Cond.methodLink RX5 83 yX5_readIf ∈ gW := gW_u tb_4 78 (by rfl) (by decide +kernel)
theorem mI_X5_readIf : Cond.instanceMethod yX5_readIf ∈ gW := gW_u tb_4 80 (by rfl) (by decide +kernel)
theorem mS_X5_readIf : Cond.selects RX5 yX5_readIf yX5_readIf ∈ gW := gW_p (q := (yX5_readIf, 10)) 23 (by decide +kernel)
theorem mC_X5_readIf : Cond.code yX5_readIf cX5_readIf 1 (some .boolean) ∈ gW := gW_u tb_4 81 (by rfl) (by decide +kernel)
theorem ok_X5_readIf : okD yX5_readIf 0 := ⟨by decide +kernel, by decide +kernel, by decide +kernel⟩
theorem lk_RX5_76 : Cond.methodLink RX5 76 yX5_readOrder ∈ gW := gW_u tb_4 25 (by rfl) (by decide +kernel)
theorem mI_X5_readOrder : Cond.instanceMethod yX5_readOrder ∈ gW := gW_u tb_4 27 (by rfl) (by decide +kernel)
theorem mS_X5_readOrder : Cond.selects RX5 yX5_readOrder yX5_readOrder ∈ gW := gW_p (q := (yX5_readOrder, 10)) 12 (by decide +kernel)
theorem mC_X5_readOrder : Cond.code yX5_readOrder cX5_readOrder 2 (some .boolean) ∈ gW := gW_u tb_4 28 (by rfl) (by decide +kernel)
theorem ok_X5_readOrder : okD yX5_readOrder 0 := ⟨by decide +kernel, by decide +kernel, by decide +kernel⟩
theorem dB_842 : (decode cX5_read 72 = .ok (.ifCond .eq 24, 3)) ∧ (decode cX5_read 75 = .ok (.goto 10, 3)) ∧ (decode cX5_read 97 = .ok (.istore_n 2, 1)) ∧ (decode cX5_read 98 = .ok (.iload_n 2, 1)) ∧ (decode cX5_read 99 = .ok (.ifCond .eq 51, 3)) ∧ (decode cX5_read 150 = .ok (.iinc 4 1, 3)) ∧ (decode cX5_read 153 = .ok (.goto (-111), 3)) ∧ (decode cX5_read 102 = .ok (.aload_n 0, 1)) ∧ (decode cX5_read 103 = .ok (.getfield 30, 3)) ∧ (decode cX5_read 106 = .ok (.dup, 1)) ∧ (decode cX5_read 107 = .ok (.getfield 69, 3)) ∧ (decode cX5_read 110 = .ok (.iconst 1, 1)) ∧ (decode cX5_read 111 = .ok (.iadd, 1)) ∧ (decode cX5_read 112 = .ok (.putfield 69, 3)) ∧ (decode cX5_read 115 = .ok (.aload_n 0, 1)) ∧ (decode cX5_read 116 = .ok (.invokevirtual 86, 3)) := by decide +kernel
theorem dX5_read_72 : decode cX5_read 72 = .ok (.ifCond .eq 24, 3) := dB_842.1
theorem dX5_read_75 : decode cX5_read 75 = .ok (.goto 10, 3) := dB_842.2.1
theorem dX5_read_97 : decode cX5_read 97 = .ok (.istore_n 2, 1) := dB_842.2.2.1
theorem dX5_read_98 : decode cX5_read 98 = .ok (.iload_n 2, 1) := dB_842.2.2.2.1
theorem dX5_read_99 : decode cX5_read 99 = .ok (.ifCond .eq 51, 3) := dB_842.2.2.2.2.1
theorem dX5_read_150 : decode cX5_read 150 = .ok (.iinc 4 1, 3) := dB_842.2.2.2.2.2.1
theorem dX5_read_153 : decode cX5_read 153 = .ok (.goto (-111), 3) := dB_842.2.2.2.2.2.2.1
theorem dX5_read_102 : decode cX5_read 102 = .ok (.aload_n 0, 1) := dB_842.2.2.2.2.2.2.2.1
theorem dX5_read_103 : decode cX5_read 103 = .ok (.getfield 30, 3) := dB_842.2.2.2.2.2.2.2.2.1
theorem dX5_read_106 : decode cX5_read 106 = .ok (.dup, 1) := dB_842.2.2.2.2.2.2.2.2.2.1
theorem dX5_read_107 : decode cX5_read 107 = .ok (.getfield 69, 3) := dB_842.2.2.2.2.2.2.2.2.2.2.1
theorem dX5_read_110 : decode cX5_read 110 = .ok (.iconst 1, 1) := dB_842.2.2.2.2.2.2.2.2.2.2.2.1
theorem dX5_read_111 : decode cX5_read 111 = .ok (.iadd, 1) := dB_842.2.2.2.2.2.2.2.2.2.2.2.2.1
theorem dX5_read_112 : decode cX5_read 112 = .ok (.putfield 69, 3) := dB_842.2.2.2.2.2.2.2.2.2.2.2.2.2.1
theorem dX5_read_115 : decode cX5_read 115 = .ok (.aload_n 0, 1) := dB_842.2.2.2.2.2.2.2.2.2.2.2.2.2.2.1
theorem dX5_read_116 : decode cX5_read 116 = .ok (.invokevirtual 86, 3) := dB_842.2.2.2.2.2.2.2.2.2.2.2.2.2.2.2
theorem dB_843 : (decode cX5_read 119 = .ok (.bipush 31, 2)) ∧ (decode cX5_read 121 = .ok (.if_icmp .ne 7, 3)) ∧ (decode cX5_read 128 = .ok (.iconst 0, 1)) ∧ (decode cX5_read 124 = .ok (.iconst 1, 1)) ∧ (decode cX5_read 125 = .ok (.goto 4, 3)) ∧ (decode cX5_read 129 = .ok (.istore_n 3, 1)) ∧ (decode cX5_read 130 = .ok (.iload_n 3, 1)) ∧ (decode cX5_read 131 = .ok (.ifCond .ne 13, 3)) ∧ (decode cX5_read 144 = .ok (.iconst 1, 1)) ∧ (decode cX5_read 145 = .ok (.goto 4, 3)) ∧ (decode cX5_read 149 = .ok (.istore_n 2, 1)) ∧ (decode cX5_read 134 = .ok (.aload_n 0, 1)) ∧ (decode cX5_read 135 = .ok (.sipush 159, 3)) ∧ (decode cX5_read 138 = .ok (.invokevirtual 90, 3)) ∧ (decode cX5_read 141 = .ok (.ifCond .eq 7, 3)) ∧ (decode cX5_read 148 = .ok (.iconst 0, 1)) := by decide +kernel
theorem dX5_read_119 : decode cX5_read 119 = .ok (.bipush 31, 2) := dB_843.1
theorem dX5_read_121 : decode cX5_read 121 = .ok (.if_icmp .ne 7, 3) := dB_843.2.1
theorem dX5_read_128 : decode cX5_read 128 = .ok (.iconst 0, 1) := dB_843.2.2.1
theorem dX5_read_124 : decode cX5_read 124 = .ok (.iconst 1, 1) := dB_843.2.2.2.1
theorem dX5_read_125 : decode cX5_read 125 = .ok (.goto 4, 3) := dB_843.2.2.2.2.1
theorem dX5_read_129 : decode cX5_read 129 = .ok (.istore_n 3, 1) := dB_843.2.2.2.2.2.1
theorem dX5_read_130 : decode cX5_read 130 = .ok (.iload_n 3, 1) := dB_843.2.2.2.2.2.2.1
theorem dX5_read_131 : decode cX5_read 131 = .ok (.ifCond .ne 13, 3) := dB_843.2.2.2.2.2.2.2.1
theorem dX5_read_144 : decode cX5_read 144 = .ok (.iconst 1, 1) := dB_843.2.2.2.2.2.2.2.2.1
theorem dX5_read_145 : decode cX5_read 145 = .ok (.goto 4, 3) := dB_843.2.2.2.2.2.2.2.2.2.1
theorem dX5_read_149 : decode cX5_read 149 = .ok (.istore_n 2, 1) := dB_843.2.2.2.2.2.2.2.2.2.2.1
theorem dX5_read_134 : decode cX5_read 134 = .ok (.aload_n 0, 1) := dB_843.2.2.2.2.2.2.2.2.2.2.2.1
theorem dX5_read_135 : decode cX5_read 135 = .ok (.sipush 159, 3) := dB_843.2.2.2.2.2.2.2.2.2.2.2.2.1
theorem dX5_read_138 : decode cX5_read 138 = .ok (.invokevirtual 90, 3) := dB_843.2.2.2.2.2.2.2.2.2.2.2.2.2.1
theorem dX5_read_141 : decode cX5_read 141 = .ok (.ifCond .eq 7, 3) := dB_843.2.2.2.2.2.2.2.2.2.2.2.2.2.2.1
theorem dX5_read_148 : decode cX5_read 148 = .ok (.iconst 0, 1) := dB_843.2.2.2.2.2.2.2.2.2.2.2.2.2.2.2
theorem dB_844 : (decode cX5_read 156 = .ok (.aload_n 0, 1)) ∧ (decode cX5_read 157 = .ok (.iload_n 3, 1)) ∧ (decode cX5_read 158 = .ok (.ifCond .eq 7, 3)) ∧ (decode cX5_read 165 = .ok (.aload_n 0, 1)) ∧ (decode cX5_read 166 = .ok (.invokevirtual 93, 3)) ∧ (decode cX5_read 169 = .ok (.putfield 21, 3)) ∧ (decode cX5_read 172 = .ok (.aload_n 0, 1)) ∧ (decode cX5_read 173 = .ok (.iconst 0, 1)) ∧ (decode cX5_read 174 = .ok (.putfield 34, 3)) ∧ (decode cX5_read 177 = .ok (.iload_n 3, 1)) ∧ (decode cX5_read 178 = .ok (.ireturn, 1)) ∧ (decode cX5_read 161 = .ok (.iconst (-1), 1)) ∧ (decode cX5_read 162 = .ok (.goto 7, 3)) := by decide +kernel
theorem dX5_read_156 : decode cX5_read 156 = .ok (.aload_n 0, 1) := dB_844.1
theorem dX5_read_157 : decode cX5_read 157 = .ok (.iload_n 3, 1) := dB_844.2.1
theorem dX5_read_158 : decode cX5_read 158 = .ok (.ifCond .eq 7, 3) := dB_844.2.2.1
theorem dX5_read_165 : decode cX5_read 165 = .ok (.aload_n 0, 1) := dB_844.2.2.2.1
theorem dX5_read_166 : decode cX5_read 166 = .ok (.invokevirtual 93, 3) := dB_844.2.2.2.2.1
theorem dX5_read_169 : decode cX5_read 169 = .ok (.putfield 21, 3) := dB_844.2.2.2.2.2.1
theorem dX5_read_172 : decode cX5_read 172 = .ok (.aload_n 0, 1) := dB_844.2.2.2.2.2.2.1
theorem dX5_read_173 : decode cX5_read 173 = .ok (.iconst 0, 1) := dB_844.2.2.2.2.2.2.2.1
theorem dX5_read_174 : decode cX5_read 174 = .ok (.putfield 34, 3) := dB_844.2.2.2.2.2.2.2.2.1
theorem dX5_read_177 : decode cX5_read 177 = .ok (.iload_n 3, 1) := dB_844.2.2.2.2.2.2.2.2.2.1
theorem dX5_read_178 : decode cX5_read 178 = .ok (.ireturn, 1) := dB_844.2.2.2.2.2.2.2.2.2.2.1
theorem dX5_read_161 : decode cX5_read 161 = .ok (.iconst (-1), 1) := dB_844.2.2.2.2.2.2.2.2.2.2.2.1
theorem dX5_read_162 : decode cX5_read 162 = .ok (.goto 7, 3) := dB_844.2.2.2.2.2.2.2.2.2.2.2.2
theorem lk_RX5_93 : Cond.methodLink RX5 93 yX5_placeNow ∈ gW := gW_u tb_4 97 (by rfl) (by decide +kernel)
theorem mI_X5_placeNow : Cond.instanceMethod yX5_placeNow ∈ gW := gW_u tb_4 99 (by rfl) (by decide +kernel)
theorem mS_X5_placeNow : Cond.selects RX5 yX5_placeNow yX5_placeNow ∈ gW := gW_p (q := (yX5_placeNow, 10)) 27 (by decide +kernel)
theorem mC_X5_placeNow : Cond.code yX5_placeNow cX5_placeNow 1 (some .int) ∈ gW := gW_u tb_4 100 (by rfl) (by decide +kernel)
theorem ok_X5_placeNow : okD yX5_placeNow 0 := ⟨by decide +kernel, by decide +kernel, by decide +kernel⟩
theorem fl_RX5_21 : Cond.fieldLink RX5 21 RX5 "faultPlace" "I" ∈ gW := gW_u tb_2 116 (by rfl) (by decide +kernel)
def yX11_law : MethodName := ⟨RX11, "law", "()I"⟩
abbrev cX11_law : ByteArray := prog_1_method_14_code
theorem dB_845 : (decode cX11_law 0 = .ok (.aload_n 0, 1)) ∧ (decode cX11_law 1 = .ok (.getfield 21, 3)) ∧ (decode cX11_law 4 = .ok (.getfield 78, 3)) ∧ (decode cX11_law 7 = .ok (.astore_n 1, 1)) ∧ (decode cX11_law 8 = .ok (.aload_n 1, 1)) ∧ (decode cX11_law 9 = .ok (.getfield 209, 3)) ∧ (decode cX11_law 12 = .ok (.bipush 6, 2)) ∧ (decode cX11_law 14 = .ok (.if_icmp .lt 18, 3)) ∧ (decode cX11_law 32 = .ok (.aload_n 0, 1)) ∧ (decode cX11_law 33 = .ok (.getfield 42, 3)) ∧ (decode cX11_law 36 = .ok (.iconst 0, 1)) ∧ (decode cX11_law 37 = .ok (.invokevirtual 212, 3)) ∧ (decode cX11_law 40 = .ok (.ifCond .ne 10, 3)) ∧ (decode cX11_law 50 = .ok (.aload_n 1, 1)) ∧ (decode cX11_law 51 = .ok (.getfield 216, 3)) ∧ (decode cX11_law 54 = .ok (.aload_n 1, 1)) := by decide +kernel
theorem dX11_law_0 : decode cX11_law 0 = .ok (.aload_n 0, 1) := dB_845.1
theorem dX11_law_1 : decode cX11_law 1 = .ok (.getfield 21, 3) := dB_845.2.1
theorem dX11_law_4 : decode cX11_law 4 = .ok (.getfield 78, 3) := dB_845.2.2.1
theorem dX11_law_7 : decode cX11_law 7 = .ok (.astore_n 1, 1) := dB_845.2.2.2.1
theorem dX11_law_8 : decode cX11_law 8 = .ok (.aload_n 1, 1) := dB_845.2.2.2.2.1
theorem dX11_law_9 : decode cX11_law 9 = .ok (.getfield 209, 3) := dB_845.2.2.2.2.2.1
theorem dX11_law_12 : decode cX11_law 12 = .ok (.bipush 6, 2) := dB_845.2.2.2.2.2.2.1
theorem dX11_law_14 : decode cX11_law 14 = .ok (.if_icmp .lt 18, 3) := dB_845.2.2.2.2.2.2.2.1
theorem dX11_law_32 : decode cX11_law 32 = .ok (.aload_n 0, 1) := dB_845.2.2.2.2.2.2.2.2.1
theorem dX11_law_33 : decode cX11_law 33 = .ok (.getfield 42, 3) := dB_845.2.2.2.2.2.2.2.2.2.1
theorem dX11_law_36 : decode cX11_law 36 = .ok (.iconst 0, 1) := dB_845.2.2.2.2.2.2.2.2.2.2.1
theorem dX11_law_37 : decode cX11_law 37 = .ok (.invokevirtual 212, 3) := dB_845.2.2.2.2.2.2.2.2.2.2.2.1
theorem dX11_law_40 : decode cX11_law 40 = .ok (.ifCond .ne 10, 3) := dB_845.2.2.2.2.2.2.2.2.2.2.2.2.1
theorem dX11_law_50 : decode cX11_law 50 = .ok (.aload_n 1, 1) := dB_845.2.2.2.2.2.2.2.2.2.2.2.2.2.1
theorem dX11_law_51 : decode cX11_law 51 = .ok (.getfield 216, 3) := dB_845.2.2.2.2.2.2.2.2.2.2.2.2.2.2.1
theorem dX11_law_54 : decode cX11_law 54 = .ok (.aload_n 1, 1) := dB_845.2.2.2.2.2.2.2.2.2.2.2.2.2.2.2
theorem lk_RX11_212 : Cond.methodLink RX11 212 yX5_read ∈ gW := gW_u tb_3 183 (by rfl) (by decide +kernel)
theorem mI_X5_read : Cond.instanceMethod yX5_read ∈ gW := gW_u tb_3 184 (by rfl) (by decide +kernel)
theorem mS_X5_read : Cond.selects RX5 yX5_read yX5_read ∈ gW := gW_u tb_3 185 (by rfl) (by decide +kernel)
theorem mC_X5_read : Cond.code yX5_read cX5_read 5 (some .boolean) ∈ gW := gW_u tb_3 186 (by rfl) (by decide +kernel)
theorem ok_X5_read : okD yX5_read 1 := ⟨by decide +kernel, by decide +kernel, by decide +kernel⟩
theorem fl_RX11_216 : Cond.fieldLink RX11 216 RX10 "laws" "[LListenWells$Text;" ∈ gW := gW_u tb_1 233 (by rfl) (by decide +kernel)
theorem dB_846 : (decode cX11_law 55 = .ok (.getfield 209, 3)) ∧ (decode cX11_law 58 = .ok (.aload_n 0, 1)) ∧ (decode cX11_law 59 = .ok (.getfield 42, 3)) ∧ (decode cX11_law 62 = .ok (.getfield 220, 3)) ∧ (decode cX11_law 65 = .ok (.invokevirtual 224, 3)) ∧ (decode cX11_law 68 = .ok (.aastore, 1)) ∧ (decode cX11_law 69 = .ok (.aload_n 1, 1)) ∧ (decode cX11_law 70 = .ok (.dup, 1)) ∧ (decode cX11_law 71 = .ok (.getfield 209, 3)) ∧ (decode cX11_law 74 = .ok (.iconst 1, 1)) ∧ (decode cX11_law 75 = .ok (.iadd, 1)) ∧ (decode cX11_law 76 = .ok (.putfield 209, 3)) ∧ (decode cX11_law 79 = .ok (.aload_n 0, 1)) ∧ (decode cX11_law 80 = .ok (.aload_n 1, 1)) ∧ (decode cX11_law 81 = .ok (.getfield 209, 3)) ∧ (decode cX11_law 84 = .ok (.iconst 1, 1)) := by decide +kernel
theorem dX11_law_55 : decode cX11_law 55 = .ok (.getfield 209, 3) := dB_846.1
theorem dX11_law_58 : decode cX11_law 58 = .ok (.aload_n 0, 1) := dB_846.2.1
theorem dX11_law_59 : decode cX11_law 59 = .ok (.getfield 42, 3) := dB_846.2.2.1
theorem dX11_law_62 : decode cX11_law 62 = .ok (.getfield 220, 3) := dB_846.2.2.2.1
theorem dX11_law_65 : decode cX11_law 65 = .ok (.invokevirtual 224, 3) := dB_846.2.2.2.2.1
theorem dX11_law_68 : decode cX11_law 68 = .ok (.aastore, 1) := dB_846.2.2.2.2.2.1
theorem dX11_law_69 : decode cX11_law 69 = .ok (.aload_n 1, 1) := dB_846.2.2.2.2.2.2.1
theorem dX11_law_70 : decode cX11_law 70 = .ok (.dup, 1) := dB_846.2.2.2.2.2.2.2.1
theorem dX11_law_71 : decode cX11_law 71 = .ok (.getfield 209, 3) := dB_846.2.2.2.2.2.2.2.2.1
theorem dX11_law_74 : decode cX11_law 74 = .ok (.iconst 1, 1) := dB_846.2.2.2.2.2.2.2.2.2.1
theorem dX11_law_75 : decode cX11_law 75 = .ok (.iadd, 1) := dB_846.2.2.2.2.2.2.2.2.2.2.1
theorem dX11_law_76 : decode cX11_law 76 = .ok (.putfield 209, 3) := dB_846.2.2.2.2.2.2.2.2.2.2.2.1
theorem dX11_law_79 : decode cX11_law 79 = .ok (.aload_n 0, 1) := dB_846.2.2.2.2.2.2.2.2.2.2.2.2.1
theorem dX11_law_80 : decode cX11_law 80 = .ok (.aload_n 1, 1) := dB_846.2.2.2.2.2.2.2.2.2.2.2.2.2.1
theorem dX11_law_81 : decode cX11_law 81 = .ok (.getfield 209, 3) := dB_846.2.2.2.2.2.2.2.2.2.2.2.2.2.2.1
theorem dX11_law_84 : decode cX11_law 84 = .ok (.iconst 1, 1) := dB_846.2.2.2.2.2.2.2.2.2.2.2.2.2.2.2
theorem fl_RX11_220 : Cond.fieldLink RX11 220 RX5 "draft" "LListenWells$Text;" ∈ gW := gW_u tb_2 119 (by rfl) (by decide +kernel)
theorem lk_RX11_224 : Cond.methodLink RX11 224 yX8_trimmed ∈ gW := gW_u tb_4 101 (by rfl) (by decide +kernel)
theorem mI_X8_trimmed : Cond.instanceMethod yX8_trimmed ∈ gW := gW_u tb_4 102 (by rfl) (by decide +kernel)
theorem mS_X8_trimmed : Cond.selects RX8 yX8_trimmed yX8_trimmed ∈ gW := gW_u tb_4 103 (by rfl) (by decide +kernel)
theorem mC_X8_trimmed : Cond.code yX8_trimmed cX8_trimmed 2 (some (.object "ListenWells$Text")) ∈ gW := gW_u tb_4 104 (by rfl) (by decide +kernel)
theorem ok_X8_trimmed : okD yX8_trimmed 0 := ⟨by decide +kernel, by decide +kernel, by decide +kernel⟩
theorem dB_847 : (decode cX11_law 85 = .ok (.isub, 1)) ∧ (decode cX11_law 86 = .ok (.invokevirtual 91, 3)) ∧ (decode cX11_law 89 = .ok (.ireturn, 1)) ∧ (decode cX11_law 43 = .ok (.aload_n 0, 1)) ∧ (decode cX11_law 44 = .ok (.bipush (-6), 2)) ∧ (decode cX11_law 46 = .ok (.invokevirtual 91, 3)) ∧ (decode cX11_law 49 = .ok (.ireturn, 1)) ∧ (decode cX11_law 17 = .ok (.aload_n 0, 1)) ∧ (decode cX11_law 18 = .ok (.getfield 42, 3)) ∧ (decode cX11_law 21 = .ok (.iconst 0, 1)) ∧ (decode cX11_law 22 = .ok (.putfield 196, 3)) ∧ (decode cX11_law 25 = .ok (.aload_n 0, 1)) ∧ (decode cX11_law 26 = .ok (.bipush (-5), 2)) ∧ (decode cX11_law 28 = .ok (.invokevirtual 91, 3)) ∧ (decode cX11_law 31 = .ok (.ireturn, 1)) := by decide +kernel
theorem dX11_law_85 : decode cX11_law 85 = .ok (.isub, 1) := dB_847.1
theorem dX11_law_86 : decode cX11_law 86 = .ok (.invokevirtual 91, 3) := dB_847.2.1
theorem dX11_law_89 : decode cX11_law 89 = .ok (.ireturn, 1) := dB_847.2.2.1
theorem dX11_law_43 : decode cX11_law 43 = .ok (.aload_n 0, 1) := dB_847.2.2.2.1
theorem dX11_law_44 : decode cX11_law 44 = .ok (.bipush (-6), 2) := dB_847.2.2.2.2.1
theorem dX11_law_46 : decode cX11_law 46 = .ok (.invokevirtual 91, 3) := dB_847.2.2.2.2.2.1
theorem dX11_law_49 : decode cX11_law 49 = .ok (.ireturn, 1) := dB_847.2.2.2.2.2.2.1
theorem dX11_law_17 : decode cX11_law 17 = .ok (.aload_n 0, 1) := dB_847.2.2.2.2.2.2.2.1
theorem dX11_law_18 : decode cX11_law 18 = .ok (.getfield 42, 3) := dB_847.2.2.2.2.2.2.2.2.1
theorem dX11_law_21 : decode cX11_law 21 = .ok (.iconst 0, 1) := dB_847.2.2.2.2.2.2.2.2.2.1
theorem dX11_law_22 : decode cX11_law 22 = .ok (.putfield 196, 3) := dB_847.2.2.2.2.2.2.2.2.2.2.1
theorem dX11_law_25 : decode cX11_law 25 = .ok (.aload_n 0, 1) := dB_847.2.2.2.2.2.2.2.2.2.2.2.1
theorem dX11_law_26 : decode cX11_law 26 = .ok (.bipush (-5), 2) := dB_847.2.2.2.2.2.2.2.2.2.2.2.2.1
theorem dX11_law_28 : decode cX11_law 28 = .ok (.invokevirtual 91, 3) := dB_847.2.2.2.2.2.2.2.2.2.2.2.2.2.1
theorem dX11_law_31 : decode cX11_law 31 = .ok (.ireturn, 1) := dB_847.2.2.2.2.2.2.2.2.2.2.2.2.2.2
def yX11_orders : MethodName := ⟨RX11, "orders", "()I"⟩
abbrev cX11_orders : ByteArray := prog_1_method_15_code
theorem dB_848 : (decode cX11_orders 0 = .ok (.aload_n 0, 1)) ∧ (decode cX11_orders 1 = .ok (.iconst (-1), 1)) ∧ (decode cX11_orders 2 = .ok (.putfield 71, 3)) ∧ (decode cX11_orders 5 = .ok (.aload_n 0, 1)) ∧ (decode cX11_orders 6 = .ok (.getfield 42, 3)) ∧ (decode cX11_orders 9 = .ok (.iconst 1, 1)) ∧ (decode cX11_orders 10 = .ok (.invokevirtual 212, 3)) ∧ (decode cX11_orders 13 = .ok (.ifCond .ne 10, 3)) ∧ (decode cX11_orders 23 = .ok (.aload_n 0, 1)) ∧ (decode cX11_orders 24 = .ok (.getfield 25, 3)) ∧ (decode cX11_orders 27 = .ok (.aload_n 0, 1)) ∧ (decode cX11_orders 28 = .ok (.getfield 21, 3)) ∧ (decode cX11_orders 31 = .ok (.invokevirtual 229, 3)) ∧ (decode cX11_orders 34 = .ok (.aload_n 0, 1)) ∧ (decode cX11_orders 35 = .ok (.getfield 25, 3)) ∧ (decode cX11_orders 38 = .ok (.aload_n 0, 1)) := by decide +kernel
theorem dX11_orders_0 : decode cX11_orders 0 = .ok (.aload_n 0, 1) := dB_848.1
theorem dX11_orders_1 : decode cX11_orders 1 = .ok (.iconst (-1), 1) := dB_848.2.1
theorem dX11_orders_2 : decode cX11_orders 2 = .ok (.putfield 71, 3) := dB_848.2.2.1
theorem dX11_orders_5 : decode cX11_orders 5 = .ok (.aload_n 0, 1) := dB_848.2.2.2.1
theorem dX11_orders_6 : decode cX11_orders 6 = .ok (.getfield 42, 3) := dB_848.2.2.2.2.1
theorem dX11_orders_9 : decode cX11_orders 9 = .ok (.iconst 1, 1) := dB_848.2.2.2.2.2.1
theorem dX11_orders_10 : decode cX11_orders 10 = .ok (.invokevirtual 212, 3) := dB_848.2.2.2.2.2.2.1
theorem dX11_orders_13 : decode cX11_orders 13 = .ok (.ifCond .ne 10, 3) := dB_848.2.2.2.2.2.2.2.1
theorem dX11_orders_23 : decode cX11_orders 23 = .ok (.aload_n 0, 1) := dB_848.2.2.2.2.2.2.2.2.1
theorem dX11_orders_24 : decode cX11_orders 24 = .ok (.getfield 25, 3) := dB_848.2.2.2.2.2.2.2.2.2.1
theorem dX11_orders_27 : decode cX11_orders 27 = .ok (.aload_n 0, 1) := dB_848.2.2.2.2.2.2.2.2.2.2.1
theorem dX11_orders_28 : decode cX11_orders 28 = .ok (.getfield 21, 3) := dB_848.2.2.2.2.2.2.2.2.2.2.2.1
theorem dX11_orders_31 : decode cX11_orders 31 = .ok (.invokevirtual 229, 3) := dB_848.2.2.2.2.2.2.2.2.2.2.2.2.1
theorem dX11_orders_34 : decode cX11_orders 34 = .ok (.aload_n 0, 1) := dB_848.2.2.2.2.2.2.2.2.2.2.2.2.2.1
theorem dX11_orders_35 : decode cX11_orders 35 = .ok (.getfield 25, 3) := dB_848.2.2.2.2.2.2.2.2.2.2.2.2.2.2.1
theorem dX11_orders_38 : decode cX11_orders 38 = .ok (.aload_n 0, 1) := dB_848.2.2.2.2.2.2.2.2.2.2.2.2.2.2.2
theorem dB_849 : (decode cX11_orders 39 = .ok (.getfield 42, 3)) ∧ (decode cX11_orders 42 = .ok (.getfield 220, 3)) ∧ (decode cX11_orders 45 = .ok (.invokevirtual 233, 3)) ∧ (decode cX11_orders 48 = .ok (.istore_n 1, 1)) ∧ (decode cX11_orders 49 = .ok (.iload_n 1, 1)) ∧ (decode cX11_orders 50 = .ok (.iconst (-1), 1)) ∧ (decode cX11_orders 51 = .ok (.if_icmp .eq 15, 3)) ∧ (decode cX11_orders 66 = .ok (.aload_n 0, 1)) ∧ (decode cX11_orders 67 = .ok (.getfield 21, 3)) ∧ (decode cX11_orders 70 = .ok (.aload_n 0, 1)) ∧ (decode cX11_orders 71 = .ok (.getfield 25, 3)) ∧ (decode cX11_orders 74 = .ok (.invokevirtual 229, 3)) ∧ (decode cX11_orders 77 = .ok (.aload_n 0, 1)) ∧ (decode cX11_orders 78 = .ok (.aload_n 0, 1)) ∧ (decode cX11_orders 79 = .ok (.getfield 25, 3)) ∧ (decode cX11_orders 82 = .ok (.getfield 237, 3)) := by decide +kernel
theorem dX11_orders_39 : decode cX11_orders 39 = .ok (.getfield 42, 3) := dB_849.1
theorem dX11_orders_42 : decode cX11_orders 42 = .ok (.getfield 220, 3) := dB_849.2.1
theorem dX11_orders_45 : decode cX11_orders 45 = .ok (.invokevirtual 233, 3) := dB_849.2.2.1
theorem dX11_orders_48 : decode cX11_orders 48 = .ok (.istore_n 1, 1) := dB_849.2.2.2.1
theorem dX11_orders_49 : decode cX11_orders 49 = .ok (.iload_n 1, 1) := dB_849.2.2.2.2.1
theorem dX11_orders_50 : decode cX11_orders 50 = .ok (.iconst (-1), 1) := dB_849.2.2.2.2.2.1
theorem dX11_orders_51 : decode cX11_orders 51 = .ok (.if_icmp .eq 15, 3) := dB_849.2.2.2.2.2.2.1
theorem dX11_orders_66 : decode cX11_orders 66 = .ok (.aload_n 0, 1) := dB_849.2.2.2.2.2.2.2.1
theorem dX11_orders_67 : decode cX11_orders 67 = .ok (.getfield 21, 3) := dB_849.2.2.2.2.2.2.2.2.1
theorem dX11_orders_70 : decode cX11_orders 70 = .ok (.aload_n 0, 1) := dB_849.2.2.2.2.2.2.2.2.2.1
theorem dX11_orders_71 : decode cX11_orders 71 = .ok (.getfield 25, 3) := dB_849.2.2.2.2.2.2.2.2.2.2.1
theorem dX11_orders_74 : decode cX11_orders 74 = .ok (.invokevirtual 229, 3) := dB_849.2.2.2.2.2.2.2.2.2.2.2.1
theorem dX11_orders_77 : decode cX11_orders 77 = .ok (.aload_n 0, 1) := dB_849.2.2.2.2.2.2.2.2.2.2.2.2.1
theorem dX11_orders_78 : decode cX11_orders 78 = .ok (.aload_n 0, 1) := dB_849.2.2.2.2.2.2.2.2.2.2.2.2.2.1
theorem dX11_orders_79 : decode cX11_orders 79 = .ok (.getfield 25, 3) := dB_849.2.2.2.2.2.2.2.2.2.2.2.2.2.2.1
theorem dX11_orders_82 : decode cX11_orders 82 = .ok (.getfield 237, 3) := dB_849.2.2.2.2.2.2.2.2.2.2.2.2.2.2.2
theorem lk_RX11_233 : Cond.methodLink RX11 233 yX7_runOrders ∈ gW := gW_u tb_4 144 (by rfl) (by decide +kernel)
theorem mI_X7_runOrders : Cond.instanceMethod yX7_runOrders ∈ gW := gW_u tb_4 145 (by rfl) (by decide +kernel)
theorem mS_X7_runOrders : Cond.selects RX7 yX7_runOrders yX7_runOrders ∈ gW := gW_u tb_4 146 (by rfl) (by decide +kernel)
theorem mC_X7_runOrders : Cond.code yX7_runOrders cX7_runOrders 6 (some .int) ∈ gW := gW_u tb_4 147 (by rfl) (by decide +kernel)
theorem ok_X7_runOrders : okD yX7_runOrders 1 := ⟨by decide +kernel, by decide +kernel, by decide +kernel⟩
theorem fl_RX11_237 : Cond.fieldLink RX11 237 RX7 "done" "I" ∈ gW := gW_u tb_2 55 (by rfl) (by decide +kernel)
theorem dB_850 : (decode cX11_orders 85 = .ok (.invokevirtual 91, 3)) ∧ (decode cX11_orders 88 = .ok (.ireturn, 1)) ∧ (decode cX11_orders 54 = .ok (.aload_n 0, 1)) ∧ (decode cX11_orders 55 = .ok (.iload_n 1, 1)) ∧ (decode cX11_orders 56 = .ok (.putfield 71, 3)) ∧ (decode cX11_orders 59 = .ok (.aload_n 0, 1)) ∧ (decode cX11_orders 60 = .ok (.bipush (-3), 2)) ∧ (decode cX11_orders 62 = .ok (.invokevirtual 91, 3)) ∧ (decode cX11_orders 65 = .ok (.ireturn, 1)) ∧ (decode cX11_orders 16 = .ok (.aload_n 0, 1)) ∧ (decode cX11_orders 17 = .ok (.bipush (-6), 2)) ∧ (decode cX11_orders 19 = .ok (.invokevirtual 91, 3)) ∧ (decode cX11_orders 22 = .ok (.ireturn, 1)) := by decide +kernel
theorem dX11_orders_85 : decode cX11_orders 85 = .ok (.invokevirtual 91, 3) := dB_850.1
theorem dX11_orders_88 : decode cX11_orders 88 = .ok (.ireturn, 1) := dB_850.2.1
theorem dX11_orders_54 : decode cX11_orders 54 = .ok (.aload_n 0, 1) := dB_850.2.2.1
theorem dX11_orders_55 : decode cX11_orders 55 = .ok (.iload_n 1, 1) := dB_850.2.2.2.1
theorem dX11_orders_56 : decode cX11_orders 56 = .ok (.putfield 71, 3) := dB_850.2.2.2.2.1
theorem dX11_orders_59 : decode cX11_orders 59 = .ok (.aload_n 0, 1) := dB_850.2.2.2.2.2.1
theorem dX11_orders_60 : decode cX11_orders 60 = .ok (.bipush (-3), 2) := dB_850.2.2.2.2.2.2.1
theorem dX11_orders_62 : decode cX11_orders 62 = .ok (.invokevirtual 91, 3) := dB_850.2.2.2.2.2.2.2.1
theorem dX11_orders_65 : decode cX11_orders 65 = .ok (.ireturn, 1) := dB_850.2.2.2.2.2.2.2.2.1
theorem dX11_orders_16 : decode cX11_orders 16 = .ok (.aload_n 0, 1) := dB_850.2.2.2.2.2.2.2.2.2.1
theorem dX11_orders_17 : decode cX11_orders 17 = .ok (.bipush (-6), 2) := dB_850.2.2.2.2.2.2.2.2.2.2.1
theorem dX11_orders_19 : decode cX11_orders 19 = .ok (.invokevirtual 91, 3) := dB_850.2.2.2.2.2.2.2.2.2.2.2.1
theorem dX11_orders_22 : decode cX11_orders 22 = .ok (.ireturn, 1) := dB_850.2.2.2.2.2.2.2.2.2.2.2.2
