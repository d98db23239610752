def yJ3_checkIndex_8e157 : MethodName := ⟨RJ3, "checkIndex", "(IILjava/util/function/BiFunction;)I"⟩
abbrev cJ3_checkIndex_8e157 : ByteArray := prog_23_method_11_code
theorem dJ3_checkIndex_8e157_0 : decode cJ3_checkIndex_8e157 0 = .ok (.iload_n 0, 1) := by decide +kernel
theorem dJ3_checkIndex_8e157_1 : decode cJ3_checkIndex_8e157 1 = .ok (.ifCond .lt 8, 3) := by decide +kernel
theorem dJ3_checkIndex_8e157_4 : decode cJ3_checkIndex_8e157 4 = .ok (.iload_n 0, 1) := by decide +kernel
theorem dJ3_checkIndex_8e157_5 : decode cJ3_checkIndex_8e157 5 = .ok (.iload_n 1, 1) := by decide +kernel
theorem dJ3_checkIndex_8e157_6 : decode cJ3_checkIndex_8e157 6 = .ok (.if_icmp .lt 10, 3) := by decide +kernel
theorem dJ3_checkIndex_8e157_16 : decode cJ3_checkIndex_8e157 16 = .ok (.iload_n 0, 1) := by decide +kernel
theorem dJ3_checkIndex_8e157_17 : decode cJ3_checkIndex_8e157 17 = .ok (.ireturn, 1) := by decide +kernel
def yJ0_isLatin1_aae02 : MethodName := ⟨RJ0, "isLatin1", "()Z"⟩
abbrev cJ0_isLatin1_aae02 : ByteArray := prog_18_method_154_code
theorem fl_RJ0_38 : Cond.fieldLink RJ0 38 RJ0 "COMPACT_STRINGS" "Z" ∈ gW := gW_t 692 (by decide +kernel) rfl
theorem dJ0_isLatin1_aae02_0 : decode cJ0_isLatin1_aae02 0 = .ok (.getstatic 38, 3) := by decide +kernel
theorem dJ0_isLatin1_aae02_3 : decode cJ0_isLatin1_aae02 3 = .ok (.ifCond .eq 14, 3) := by decide +kernel
theorem dJ0_isLatin1_aae02_6 : decode cJ0_isLatin1_aae02 6 = .ok (.aload_n 0, 1) := by decide +kernel
theorem fl_RJ0_15 : Cond.fieldLink RJ0 15 RJ0 "coder" "B" ∈ gW := gW_t 2023 (by decide +kernel) rfl
theorem dJ0_isLatin1_aae02_7 : decode cJ0_isLatin1_aae02 7 = .ok (.getfield 15, 3) := by decide +kernel
theorem dJ0_isLatin1_aae02_10 : decode cJ0_isLatin1_aae02 10 = .ok (.ifCond .ne 7, 3) := by decide +kernel
theorem dJ0_isLatin1_aae02_13 : decode cJ0_isLatin1_aae02 13 = .ok (.iconst 1, 1) := by decide +kernel
theorem dJ0_isLatin1_aae02_14 : decode cJ0_isLatin1_aae02 14 = .ok (.goto 4, 3) := by decide +kernel
theorem dJ0_isLatin1_aae02_18 : decode cJ0_isLatin1_aae02 18 = .ok (.ireturn, 1) := by decide +kernel
def yJ0_checkIndex_df160 : MethodName := ⟨RJ0, "checkIndex", "(II)V"⟩
abbrev cJ0_checkIndex_df160 : ByteArray := prog_18_method_155_code
theorem dJ0_checkIndex_df160_0 : decode cJ0_checkIndex_df160 0 = .ok (.iload_n 0, 1) := by decide +kernel
theorem dJ0_checkIndex_df160_1 : decode cJ0_checkIndex_df160 1 = .ok (.iload_n 1, 1) := by decide +kernel
theorem fl_RJ0_1053 : Cond.fieldLink RJ0 1053 RJ3 "SIOOBE_FORMATTER" "Ljava/util/function/BiFunction;" ∈ gW := gW_t 700 (by decide +kernel) rfl
theorem dJ0_checkIndex_df160_2 : decode cJ0_checkIndex_df160 2 = .ok (.getstatic 1053, 3) := by decide +kernel
theorem dJ0_checkIndex_df160_5 : decode cJ0_checkIndex_df160 5 = .ok (.invokestatic 1059, 3) := by decide +kernel
theorem lk_RJ0_1059 : Cond.methodLink RJ0 1059 yJ3_checkIndex_8e157 ∈ gW := gW_t 702 (by decide +kernel) rfl
theorem mT_J3_checkIndex_8e157 : Cond.static yJ3_checkIndex_8e157 ∈ gW := gW_t 703 (by decide +kernel) rfl
theorem mN_RJ3 : Cond.initialized RJ3 ∈ gW := gW_t 18 (by decide +kernel) rfl
theorem mC_J3_checkIndex_8e157 : Cond.code yJ3_checkIndex_8e157 cJ3_checkIndex_8e157 3 (some .int) ∈ gW := gW_t 704 (by decide +kernel) rfl
theorem ok_J3_checkIndex_8e157 : okD yJ3_checkIndex_8e157 3 := ⟨by decide +kernel, by decide +kernel, by decide +kernel⟩
theorem dJ0_checkIndex_df160_8 : decode cJ0_checkIndex_df160 8 = .ok (.pop, 1) := by decide +kernel
theorem dJ0_checkIndex_df160_9 : decode cJ0_checkIndex_df160 9 = .ok (.return_, 1) := by decide +kernel
def yJ1_charAt_3b067 : MethodName := ⟨RJ1, "charAt", "([BI)C"⟩
abbrev cJ1_charAt_3b067 : ByteArray := prog_19_method_2_code
theorem dJ1_charAt_3b067_0 : decode cJ1_charAt_3b067 0 = .ok (.iload_n 1, 1) := by decide +kernel
theorem dJ1_charAt_3b067_1 : decode cJ1_charAt_3b067 1 = .ok (.aload_n 0, 1) := by decide +kernel
theorem dJ1_charAt_3b067_2 : decode cJ1_charAt_3b067 2 = .ok (.arraylength, 1) := by decide +kernel
theorem dJ1_charAt_3b067_3 : decode cJ1_charAt_3b067 3 = .ok (.invokestatic 9, 3) := by decide +kernel
theorem lk_RJ1_9 : Cond.methodLink RJ1 9 yJ0_checkIndex_df160 ∈ gW := gW_t 697 (by decide +kernel) rfl
theorem mT_J0_checkIndex_df160 : Cond.static yJ0_checkIndex_df160 ∈ gW := gW_t 698 (by decide +kernel) rfl
theorem mN_RJ0 : Cond.initialized RJ0 ∈ gW := gW_t 16 (by decide +kernel) rfl
theorem mC_J0_checkIndex_df160 : Cond.code yJ0_checkIndex_df160 cJ0_checkIndex_df160 2 none ∈ gW := gW_t 699 (by decide +kernel) rfl
theorem ok_J0_checkIndex_df160 : okD yJ0_checkIndex_df160 2 := ⟨by decide +kernel, by decide +kernel, by decide +kernel⟩
theorem dJ1_charAt_3b067_6 : decode cJ1_charAt_3b067 6 = .ok (.aload_n 0, 1) := by decide +kernel
theorem dJ1_charAt_3b067_7 : decode cJ1_charAt_3b067 7 = .ok (.iload_n 1, 1) := by decide +kernel
theorem dJ1_charAt_3b067_8 : decode cJ1_charAt_3b067 8 = .ok (.baload, 1) := by decide +kernel
theorem dJ1_charAt_3b067_9 : decode cJ1_charAt_3b067 9 = .ok (.sipush 255, 3) := by decide +kernel
theorem dJ1_charAt_3b067_12 : decode cJ1_charAt_3b067 12 = .ok (.iand, 1) := by decide +kernel
theorem dJ1_charAt_3b067_13 : decode cJ1_charAt_3b067 13 = .ok (.i2c, 1) := by decide +kernel
theorem dJ1_charAt_3b067_14 : decode cJ1_charAt_3b067 14 = .ok (.ireturn, 1) := by decide +kernel
def yJ0_charAt_5068e : MethodName := ⟨RJ0, "charAt", "(I)C"⟩
abbrev cJ0_charAt_5068e : ByteArray := prog_18_method_56_code
theorem dJ0_charAt_5068e_0 : decode cJ0_charAt_5068e 0 = .ok (.aload_n 0, 1) := by decide +kernel
theorem dJ0_charAt_5068e_1 : decode cJ0_charAt_5068e 1 = .ok (.invokevirtual 492, 3) := by decide +kernel
theorem lk_RJ0_492 : Cond.methodLink RJ0 492 yJ0_isLatin1_aae02 ∈ gW := gW_t 688 (by decide +kernel) rfl
theorem mI_J0_isLatin1_aae02 : Cond.instanceMethod yJ0_isLatin1_aae02 ∈ gW := gW_t 689 (by decide +kernel) rfl
theorem mS_J0_isLatin1_aae02 : Cond.selects RJ0 yJ0_isLatin1_aae02 yJ0_isLatin1_aae02 ∈ gW := gW_t 690 (by decide +kernel) rfl
theorem mC_J0_isLatin1_aae02 : Cond.code yJ0_isLatin1_aae02 cJ0_isLatin1_aae02 1 (some .boolean) ∈ gW := gW_t 691 (by decide +kernel) rfl
theorem ok_J0_isLatin1_aae02 : okD yJ0_isLatin1_aae02 0 := ⟨by decide +kernel, by decide +kernel, by decide +kernel⟩
theorem dJ0_charAt_5068e_4 : decode cJ0_charAt_5068e 4 = .ok (.ifCond .eq 12, 3) := by decide +kernel
theorem dJ0_charAt_5068e_7 : decode cJ0_charAt_5068e 7 = .ok (.aload_n 0, 1) := by decide +kernel
theorem fl_RJ0_9 : Cond.fieldLink RJ0 9 RJ0 "value" "[B" ∈ gW := gW_t 2024 (by decide +kernel) rfl
theorem dJ0_charAt_5068e_8 : decode cJ0_charAt_5068e 8 = .ok (.getfield 9, 3) := by decide +kernel
theorem dJ0_charAt_5068e_11 : decode cJ0_charAt_5068e 11 = .ok (.iload_n 1, 1) := by decide +kernel
theorem dJ0_charAt_5068e_12 : decode cJ0_charAt_5068e 12 = .ok (.invokestatic 495, 3) := by decide +kernel
theorem lk_RJ0_495 : Cond.methodLink RJ0 495 yJ1_charAt_3b067 ∈ gW := gW_t 694 (by decide +kernel) rfl
theorem mT_J1_charAt_3b067 : Cond.static yJ1_charAt_3b067 ∈ gW := gW_t 695 (by decide +kernel) rfl
theorem mN_RJ1 : Cond.initialized RJ1 ∈ gW := gW_t 17 (by decide +kernel) rfl
theorem mC_J1_charAt_3b067 : Cond.code yJ1_charAt_3b067 cJ1_charAt_3b067 2 (some .char) ∈ gW := gW_t 696 (by decide +kernel) rfl
theorem ok_J1_charAt_3b067 : okD yJ1_charAt_3b067 2 := ⟨by decide +kernel, by decide +kernel, by decide +kernel⟩
theorem dJ0_charAt_5068e_15 : decode cJ0_charAt_5068e 15 = .ok (.ireturn, 1) := by decide +kernel
def yX5_isWord : MethodName := ⟨RX5, "isWord", "(III)Z"⟩
abbrev cX5_isWord : ByteArray := prog_7_method_11_code
theorem dX5_isWord_0 : decode cX5_isWord 0 = .ok (.bipush 8, 2) := by decide +kernel
theorem dX5_isWord_2 : decode cX5_isWord 2 = .ok (.iload_n 1, 1) := by decide +kernel
theorem dX5_isWord_3 : decode cX5_isWord 3 = .ok (.imul, 1) := by decide +kernel
theorem dX5_isWord_4 : decode cX5_isWord 4 = .ok (.istore 4, 2) := by decide +kernel
theorem dX5_isWord_6 : decode cX5_isWord 6 = .ok (.iload_n 2, 1) := by decide +kernel
theorem dX5_isWord_7 : decode cX5_isWord 7 = .ok (.istore 5, 2) := by decide +kernel
theorem dX5_isWord_9 : decode cX5_isWord 9 = .ok (.iload 5, 2) := by decide +kernel
theorem dX5_isWord_11 : decode cX5_isWord 11 = .ok (.iload_n 3, 1) := by decide +kernel
theorem dX5_isWord_12 : decode cX5_isWord 12 = .ok (.if_icmp .ge 33, 3) := by decide +kernel
theorem dX5_isWord_15 : decode cX5_isWord 15 = .ok (.ldc 122, 2) := by decide +kernel
theorem dX5_isWord_17 : decode cX5_isWord 17 = .ok (.iload 4, 2) := by decide +kernel
theorem dX5_isWord_19 : decode cX5_isWord 19 = .ok (.iload 5, 2) := by decide +kernel
theorem dX5_isWord_21 : decode cX5_isWord 21 = .ok (.iadd, 1) := by decide +kernel
theorem dX5_isWord_22 : decode cX5_isWord 22 = .ok (.iload_n 2, 1) := by decide +kernel
theorem dX5_isWord_23 : decode cX5_isWord 23 = .ok (.isub, 1) := by decide +kernel
theorem dX5_isWord_24 : decode cX5_isWord 24 = .ok (.invokevirtual 124, 3) := by decide +kernel
theorem lk_RX5_124 : Cond.methodLink RX5 124 yJ0_charAt_5068e ∈ gW := gW_t 684 (by decide +kernel) rfl
theorem mI_J0_charAt_5068e : Cond.instanceMethod yJ0_charAt_5068e ∈ gW := gW_t 685 (by decide +kernel) rfl
theorem mS_J0_charAt_5068e : Cond.selects RJ0 yJ0_charAt_5068e yJ0_charAt_5068e ∈ gW := gW_t 686 (by decide +kernel) rfl
theorem mC_J0_charAt_5068e : Cond.code yJ0_charAt_5068e cJ0_charAt_5068e 2 (some .char) ∈ gW := gW_t 687 (by decide +kernel) rfl
theorem ok_J0_charAt_5068e : okD yJ0_charAt_5068e 1 := ⟨by decide +kernel, by decide +kernel, by decide +kernel⟩
theorem dX5_isWord_27 : decode cX5_isWord 27 = .ok (.aload_n 0, 1) := by decide +kernel
theorem dX5_isWord_28 : decode cX5_isWord 28 = .ok (.getfield 9, 3) := by decide +kernel
theorem dX5_isWord_31 : decode cX5_isWord 31 = .ok (.iload 5, 2) := by decide +kernel
theorem dX5_isWord_33 : decode cX5_isWord 33 = .ok (.iaload, 1) := by decide +kernel
theorem dX5_isWord_34 : decode cX5_isWord 34 = .ok (.if_icmp .eq 5, 3) := by decide +kernel
theorem dX5_isWord_39 : decode cX5_isWord 39 = .ok (.iinc 5 1, 3) := by decide +kernel
theorem dX5_isWord_42 : decode cX5_isWord 42 = .ok (.goto (-33), 3) := by decide +kernel
theorem dX5_isWord_37 : decode cX5_isWord 37 = .ok (.iconst 0, 1) := by decide +kernel
theorem dX5_isWord_38 : decode cX5_isWord 38 = .ok (.ireturn, 1) := by decide +kernel
theorem dX5_isWord_45 : decode cX5_isWord 45 = .ok (.ldc 122, 2) := by decide +kernel
theorem dX5_isWord_47 : decode cX5_isWord 47 = .ok (.iload 4, 2) := by decide +kernel
theorem dX5_isWord_49 : decode cX5_isWord 49 = .ok (.iload_n 3, 1) := by decide +kernel
theorem dX5_isWord_50 : decode cX5_isWord 50 = .ok (.iadd, 1) := by decide +kernel
theorem dX5_isWord_51 : decode cX5_isWord 51 = .ok (.iload_n 2, 1) := by decide +kernel
theorem dX5_isWord_52 : decode cX5_isWord 52 = .ok (.isub, 1) := by decide +kernel
theorem dX5_isWord_53 : decode cX5_isWord 53 = .ok (.invokevirtual 124, 3) := by decide +kernel
theorem dX5_isWord_56 : decode cX5_isWord 56 = .ok (.bipush 32, 2) := by decide +kernel
theorem dX5_isWord_58 : decode cX5_isWord 58 = .ok (.if_icmp .ne 7, 3) := by decide +kernel
theorem dX5_isWord_65 : decode cX5_isWord 65 = .ok (.iconst 0, 1) := by decide +kernel
theorem dX5_isWord_66 : decode cX5_isWord 66 = .ok (.ireturn, 1) := by decide +kernel
theorem dX5_isWord_61 : decode cX5_isWord 61 = .ok (.iconst 1, 1) := by decide +kernel
theorem dX5_isWord_62 : decode cX5_isWord 62 = .ok (.goto 4, 3) := by decide +kernel
def yX5_wordIn : MethodName := ⟨RX5, "wordIn", "(II)I"⟩
abbrev cX5_wordIn : ByteArray := prog_7_method_10_code
theorem dX5_wordIn_0 : decode cX5_wordIn 0 = .ok (.iload_n 2, 1) := by decide +kernel
theorem dX5_wordIn_1 : decode cX5_wordIn 1 = .ok (.iload_n 1, 1) := by decide +kernel
theorem dX5_wordIn_2 : decode cX5_wordIn 2 = .ok (.isub, 1) := by decide +kernel
theorem dX5_wordIn_3 : decode cX5_wordIn 3 = .ok (.bipush 8, 2) := by decide +kernel
theorem dX5_wordIn_5 : decode cX5_wordIn 5 = .ok (.if_icmp .lt 6, 3) := by decide +kernel
theorem dX5_wordIn_11 : decode cX5_wordIn 11 = .ok (.iconst 0, 1) := by decide +kernel
theorem dX5_wordIn_12 : decode cX5_wordIn 12 = .ok (.istore_n 3, 1) := by decide +kernel
theorem dX5_wordIn_13 : decode cX5_wordIn 13 = .ok (.iload_n 3, 1) := by decide +kernel
theorem dX5_wordIn_14 : decode cX5_wordIn 14 = .ok (.bipush 29, 2) := by decide +kernel
theorem dX5_wordIn_16 : decode cX5_wordIn 16 = .ok (.if_icmp .ge 21, 3) := by decide +kernel
theorem dX5_wordIn_19 : decode cX5_wordIn 19 = .ok (.aload_n 0, 1) := by decide +kernel
theorem dX5_wordIn_20 : decode cX5_wordIn 20 = .ok (.iload_n 3, 1) := by decide +kernel
theorem dX5_wordIn_21 : decode cX5_wordIn 21 = .ok (.iload_n 1, 1) := by decide +kernel
theorem dX5_wordIn_22 : decode cX5_wordIn 22 = .ok (.iload_n 2, 1) := by decide +kernel
theorem dX5_wordIn_23 : decode cX5_wordIn 23 = .ok (.invokevirtual 118, 3) := by decide +kernel
theorem lk_RX5_118 : Cond.methodLink RX5 118 yX5_isWord ∈ gW := gW_t 679 (by decide +kernel) rfl
theorem mI_X5_isWord : Cond.instanceMethod yX5_isWord ∈ gW := gW_t 681 (by decide +kernel) rfl
theorem mS_X5_isWord : Cond.selects RX5 yX5_isWord yX5_isWord ∈ gW := gW_p (q := (yX5_isWord, 10)) 7 (by decide +kernel)
theorem mC_X5_isWord : Cond.code yX5_isWord cX5_isWord 6 (some .boolean) ∈ gW := gW_t 682 (by decide +kernel) rfl
theorem ok_X5_isWord : okD yX5_isWord 3 := ⟨by decide +kernel, by decide +kernel, by decide +kernel⟩
theorem dX5_wordIn_26 : decode cX5_wordIn 26 = .ok (.ifCond .eq 5, 3) := by decide +kernel
theorem dX5_wordIn_31 : decode cX5_wordIn 31 = .ok (.iinc 3 1, 3) := by decide +kernel
theorem dX5_wordIn_34 : decode cX5_wordIn 34 = .ok (.goto (-21), 3) := by decide +kernel
theorem dX5_wordIn_29 : decode cX5_wordIn 29 = .ok (.iload_n 3, 1) := by decide +kernel
theorem dX5_wordIn_30 : decode cX5_wordIn 30 = .ok (.ireturn, 1) := by decide +kernel
theorem dX5_wordIn_37 : decode cX5_wordIn 37 = .ok (.bipush 30, 2) := by decide +kernel
theorem dX5_wordIn_39 : decode cX5_wordIn 39 = .ok (.ireturn, 1) := by decide +kernel
theorem dX5_wordIn_8 : decode cX5_wordIn 8 = .ok (.bipush 30, 2) := by decide +kernel
theorem dX5_wordIn_10 : decode cX5_wordIn 10 = .ok (.ireturn, 1) := by decide +kernel
def yX5_splitIntoTokens : MethodName := ⟨RX5, "splitIntoTokens", "()V"⟩
abbrev cX5_splitIntoTokens : ByteArray := prog_7_method_6_code
theorem dX5_splitIntoTokens_0 : decode cX5_splitIntoTokens 0 = .ok (.aload_n 0, 1) := by decide +kernel
theorem dX5_splitIntoTokens_1 : decode cX5_splitIntoTokens 1 = .ok (.iconst 0, 1) := by decide +kernel
theorem dX5_splitIntoTokens_2 : decode cX5_splitIntoTokens 2 = .ok (.putfield 96, 3) := by decide +kernel
theorem dX5_splitIntoTokens_5 : decode cX5_splitIntoTokens 5 = .ok (.iconst 0, 1) := by decide +kernel
theorem dX5_splitIntoTokens_6 : decode cX5_splitIntoTokens 6 = .ok (.istore_n 1, 1) := by decide +kernel
theorem dX5_splitIntoTokens_7 : decode cX5_splitIntoTokens 7 = .ok (.iconst 0, 1) := by decide +kernel
theorem dX5_splitIntoTokens_8 : decode cX5_splitIntoTokens 8 = .ok (.istore_n 2, 1) := by decide +kernel
theorem dX5_splitIntoTokens_9 : decode cX5_splitIntoTokens 9 = .ok (.iload_n 2, 1) := by decide +kernel
theorem dX5_splitIntoTokens_10 : decode cX5_splitIntoTokens 10 = .ok (.sipush 400, 3) := by decide +kernel
theorem dX5_splitIntoTokens_13 : decode cX5_splitIntoTokens 13 = .ok (.if_icmp .ge 127, 3) := by decide +kernel
theorem dX5_splitIntoTokens_16 : decode cX5_splitIntoTokens 16 = .ok (.iload_n 1, 1) := by decide +kernel
theorem dX5_splitIntoTokens_17 : decode cX5_splitIntoTokens 17 = .ok (.aload_n 0, 1) := by decide +kernel
theorem dX5_splitIntoTokens_18 : decode cX5_splitIntoTokens 18 = .ok (.getfield 34, 3) := by decide +kernel
theorem dX5_splitIntoTokens_21 : decode cX5_splitIntoTokens 21 = .ok (.if_icmp .ge 119, 3) := by decide +kernel
theorem dX5_splitIntoTokens_24 : decode cX5_splitIntoTokens 24 = .ok (.aload_n 0, 1) := by decide +kernel
theorem dX5_splitIntoTokens_25 : decode cX5_splitIntoTokens 25 = .ok (.getfield 9, 3) := by decide +kernel
theorem dX5_splitIntoTokens_28 : decode cX5_splitIntoTokens 28 = .ok (.iload_n 1, 1) := by decide +kernel
theorem dX5_splitIntoTokens_29 : decode cX5_splitIntoTokens 29 = .ok (.iaload, 1) := by decide +kernel
theorem dX5_splitIntoTokens_30 : decode cX5_splitIntoTokens 30 = .ok (.istore_n 3, 1) := by decide +kernel
theorem dX5_splitIntoTokens_31 : decode cX5_splitIntoTokens 31 = .ok (.iload_n 1, 1) := by decide +kernel
theorem dX5_splitIntoTokens_32 : decode cX5_splitIntoTokens 32 = .ok (.iconst 1, 1) := by decide +kernel
theorem dX5_splitIntoTokens_33 : decode cX5_splitIntoTokens 33 = .ok (.iadd, 1) := by decide +kernel
theorem dX5_splitIntoTokens_34 : decode cX5_splitIntoTokens 34 = .ok (.istore 4, 2) := by decide +kernel
theorem dX5_splitIntoTokens_36 : decode cX5_splitIntoTokens 36 = .ok (.iload_n 3, 1) := by decide +kernel
theorem dX5_splitIntoTokens_37 : decode cX5_splitIntoTokens 37 = .ok (.bipush 97, 2) := by decide +kernel
theorem dX5_splitIntoTokens_39 : decode cX5_splitIntoTokens 39 = .ok (.if_icmp .lt 35, 3) := by decide +kernel
theorem dX5_splitIntoTokens_42 : decode cX5_splitIntoTokens 42 = .ok (.iload_n 3, 1) := by decide +kernel
theorem dX5_splitIntoTokens_43 : decode cX5_splitIntoTokens 43 = .ok (.bipush 122, 2) := by decide +kernel
theorem dX5_splitIntoTokens_45 : decode cX5_splitIntoTokens 45 = .ok (.if_icmp .gt 29, 3) := by decide +kernel
theorem dX5_splitIntoTokens_48 : decode cX5_splitIntoTokens 48 = .ok (.aload_n 0, 1) := by decide +kernel
theorem dX5_splitIntoTokens_49 : decode cX5_splitIntoTokens 49 = .ok (.iload_n 1, 1) := by decide +kernel
theorem dX5_splitIntoTokens_50 : decode cX5_splitIntoTokens 50 = .ok (.bipush 97, 2) := by decide +kernel
theorem dX5_splitIntoTokens_52 : decode cX5_splitIntoTokens 52 = .ok (.bipush 122, 2) := by decide +kernel
theorem dX5_splitIntoTokens_54 : decode cX5_splitIntoTokens 54 = .ok (.invokevirtual 99, 3) := by decide +kernel
theorem lk_RX5_99 : Cond.methodLink RX5 99 yX5_endOfRow ∈ gW := gW_t 671 (by decide +kernel) rfl
theorem mI_X5_endOfRow : Cond.instanceMethod yX5_endOfRow ∈ gW := gW_t 673 (by decide +kernel) rfl
theorem mS_X5_endOfRow : Cond.selects RX5 yX5_endOfRow yX5_endOfRow ∈ gW := gW_p (q := (yX5_endOfRow, 10)) 5 (by decide +kernel)
theorem mC_X5_endOfRow : Cond.code yX5_endOfRow cX5_endOfRow 5 (some .int) ∈ gW := gW_t 674 (by decide +kernel) rfl
theorem ok_X5_endOfRow : okD yX5_endOfRow 3 := ⟨by decide +kernel, by decide +kernel, by decide +kernel⟩
theorem dX5_splitIntoTokens_57 : decode cX5_splitIntoTokens 57 = .ok (.istore 4, 2) := by decide +kernel
theorem dX5_splitIntoTokens_59 : decode cX5_splitIntoTokens 59 = .ok (.aload_n 0, 1) := by decide +kernel
theorem dX5_splitIntoTokens_60 : decode cX5_splitIntoTokens 60 = .ok (.aload_n 0, 1) := by decide +kernel
theorem dX5_splitIntoTokens_61 : decode cX5_splitIntoTokens 61 = .ok (.iload_n 1, 1) := by decide +kernel
theorem dX5_splitIntoTokens_62 : decode cX5_splitIntoTokens 62 = .ok (.iload 4, 2) := by decide +kernel
theorem dX5_splitIntoTokens_64 : decode cX5_splitIntoTokens 64 = .ok (.invokevirtual 103, 3) := by decide +kernel
theorem lk_RX5_103 : Cond.methodLink RX5 103 yX5_wordIn ∈ gW := gW_t 675 (by decide +kernel) rfl
theorem mI_X5_wordIn : Cond.instanceMethod yX5_wordIn ∈ gW := gW_t 677 (by decide +kernel) rfl
theorem mS_X5_wordIn : Cond.selects RX5 yX5_wordIn yX5_wordIn ∈ gW := gW_p (q := (yX5_wordIn, 10)) 6 (by decide +kernel)
theorem mC_X5_wordIn : Cond.code yX5_wordIn cX5_wordIn 4 (some .int) ∈ gW := gW_t 678 (by decide +kernel) rfl
theorem ok_X5_wordIn : okD yX5_wordIn 2 := ⟨by decide +kernel, by decide +kernel, by decide +kernel⟩
theorem dX5_splitIntoTokens_67 : decode cX5_splitIntoTokens 67 = .ok (.iload_n 1, 1) := by decide +kernel
theorem dX5_splitIntoTokens_68 : decode cX5_splitIntoTokens 68 = .ok (.invokevirtual 107, 3) := by decide +kernel
theorem lk_RX5_107 : Cond.methodLink RX5 107 yX5_addToken ∈ gW := gW_t 724 (by decide +kernel) rfl
theorem mI_X5_addToken : Cond.instanceMethod yX5_addToken ∈ gW := gW_t 726 (by decide +kernel) rfl
theorem mS_X5_addToken : Cond.selects RX5 yX5_addToken yX5_addToken ∈ gW := gW_p (q := (yX5_addToken, 10)) 8 (by decide +kernel)
theorem mC_X5_addToken : Cond.code yX5_addToken cX5_addToken 3 none ∈ gW := gW_t 727 (by decide +kernel) rfl
theorem ok_X5_addToken : okD yX5_addToken 2 := ⟨by decide +kernel, by decide +kernel, by decide +kernel⟩
theorem dX5_splitIntoTokens_71 : decode cX5_splitIntoTokens 71 = .ok (.goto 60, 3) := by decide +kernel
theorem dX5_splitIntoTokens_131 : decode cX5_splitIntoTokens 131 = .ok (.iload 4, 2) := by decide +kernel
theorem dX5_splitIntoTokens_133 : decode cX5_splitIntoTokens 133 = .ok (.istore_n 1, 1) := by decide +kernel
theorem dX5_splitIntoTokens_134 : decode cX5_splitIntoTokens 134 = .ok (.iinc 2 1, 3) := by decide +kernel
theorem dX5_splitIntoTokens_137 : decode cX5_splitIntoTokens 137 = .ok (.goto (-128), 3) := by decide +kernel
theorem dX5_splitIntoTokens_74 : decode cX5_splitIntoTokens 74 = .ok (.iload_n 3, 1) := by decide +kernel
theorem dX5_splitIntoTokens_75 : decode cX5_splitIntoTokens 75 = .ok (.bipush 48, 2) := by decide +kernel
theorem dX5_splitIntoTokens_77 : decode cX5_splitIntoTokens 77 = .ok (.if_icmp .lt 39, 3) := by decide +kernel
theorem dX5_splitIntoTokens_80 : decode cX5_splitIntoTokens 80 = .ok (.iload_n 3, 1) := by decide +kernel
theorem dX5_splitIntoTokens_81 : decode cX5_splitIntoTokens 81 = .ok (.bipush 57, 2) := by decide +kernel
theorem dX5_splitIntoTokens_83 : decode cX5_splitIntoTokens 83 = .ok (.if_icmp .gt 33, 3) := by decide +kernel
theorem dX5_splitIntoTokens_86 : decode cX5_splitIntoTokens 86 = .ok (.aload_n 0, 1) := by decide +kernel
theorem dX5_splitIntoTokens_87 : decode cX5_splitIntoTokens 87 = .ok (.iload_n 1, 1) := by decide +kernel
theorem dX5_splitIntoTokens_88 : decode cX5_splitIntoTokens 88 = .ok (.bipush 48, 2) := by decide +kernel
theorem dX5_splitIntoTokens_90 : decode cX5_splitIntoTokens 90 = .ok (.bipush 57, 2) := by decide +kernel
theorem dX5_splitIntoTokens_92 : decode cX5_splitIntoTokens 92 = .ok (.invokevirtual 99, 3) := by decide +kernel
theorem dX5_splitIntoTokens_95 : decode cX5_splitIntoTokens 95 = .ok (.istore 4, 2) := by decide +kernel
theorem dX5_splitIntoTokens_97 : decode cX5_splitIntoTokens 97 = .ok (.aload_n 0, 1) := by decide +kernel
theorem dX5_splitIntoTokens_98 : decode cX5_splitIntoTokens 98 = .ok (.sipush 1000, 3) := by decide +kernel
theorem dX5_splitIntoTokens_101 : decode cX5_splitIntoTokens 101 = .ok (.aload_n 0, 1) := by decide +kernel
theorem dX5_splitIntoTokens_102 : decode cX5_splitIntoTokens 102 = .ok (.iload_n 1, 1) := by decide +kernel
theorem dX5_splitIntoTokens_103 : decode cX5_splitIntoTokens 103 = .ok (.iload 4, 2) := by decide +kernel
theorem dX5_splitIntoTokens_105 : decode cX5_splitIntoTokens 105 = .ok (.invokevirtual 110, 3) := by decide +kernel
theorem lk_RX5_110 : Cond.methodLink RX5 110 yX5_numberIn ∈ gW := gW_t 728 (by decide +kernel) rfl
theorem mI_X5_numberIn : Cond.instanceMethod yX5_numberIn ∈ gW := gW_t 730 (by decide +kernel) rfl
theorem mS_X5_numberIn : Cond.selects RX5 yX5_numberIn yX5_numberIn ∈ gW := gW_p (q := (yX5_numberIn, 10)) 9 (by decide +kernel)
theorem mC_X5_numberIn : Cond.code yX5_numberIn cX5_numberIn 5 (some .int) ∈ gW := gW_t 731 (by decide +kernel) rfl
theorem ok_X5_numberIn : okD yX5_numberIn 2 := ⟨by decide +kernel, by decide +kernel, by decide +kernel⟩
theorem dX5_splitIntoTokens_108 : decode cX5_splitIntoTokens 108 = .ok (.iadd, 1) := by decide +kernel
theorem dX5_splitIntoTokens_109 : decode cX5_splitIntoTokens 109 = .ok (.iload_n 1, 1) := by decide +kernel
theorem dX5_splitIntoTokens_110 : decode cX5_splitIntoTokens 110 = .ok (.invokevirtual 107, 3) := by decide +kernel
theorem dX5_splitIntoTokens_113 : decode cX5_splitIntoTokens 113 = .ok (.goto 18, 3) := by decide +kernel
theorem dX5_splitIntoTokens_116 : decode cX5_splitIntoTokens 116 = .ok (.iload_n 3, 1) := by decide +kernel
theorem dX5_splitIntoTokens_117 : decode cX5_splitIntoTokens 117 = .ok (.bipush 32, 2) := by decide +kernel
theorem dX5_splitIntoTokens_119 : decode cX5_splitIntoTokens 119 = .ok (.if_icmp .eq 12, 3) := by decide +kernel
theorem dX5_splitIntoTokens_122 : decode cX5_splitIntoTokens 122 = .ok (.aload_n 0, 1) := by decide +kernel
theorem dX5_splitIntoTokens_123 : decode cX5_splitIntoTokens 123 = .ok (.bipush 100, 2) := by decide +kernel
theorem dX5_splitIntoTokens_125 : decode cX5_splitIntoTokens 125 = .ok (.iload_n 3, 1) := by decide +kernel
theorem dX5_splitIntoTokens_126 : decode cX5_splitIntoTokens 126 = .ok (.iadd, 1) := by decide +kernel
theorem dX5_splitIntoTokens_127 : decode cX5_splitIntoTokens 127 = .ok (.iload_n 1, 1) := by decide +kernel
theorem dX5_splitIntoTokens_128 : decode cX5_splitIntoTokens 128 = .ok (.invokevirtual 107, 3) := by decide +kernel
theorem dX5_splitIntoTokens_140 : decode cX5_splitIntoTokens 140 = .ok (.aload_n 0, 1) := by decide +kernel
theorem dX5_splitIntoTokens_141 : decode cX5_splitIntoTokens 141 = .ok (.bipush 31, 2) := by decide +kernel
theorem dX5_splitIntoTokens_143 : decode cX5_splitIntoTokens 143 = .ok (.aload_n 0, 1) := by decide +kernel
theorem dX5_splitIntoTokens_144 : decode cX5_splitIntoTokens 144 = .ok (.getfield 34, 3) := by decide +kernel
theorem dX5_splitIntoTokens_147 : decode cX5_splitIntoTokens 147 = .ok (.invokevirtual 107, 3) := by decide +kernel
theorem dX5_splitIntoTokens_150 : decode cX5_splitIntoTokens 150 = .ok (.return_, 1) := by decide +kernel
