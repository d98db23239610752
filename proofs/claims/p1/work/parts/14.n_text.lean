def yX5_addFour : MethodName := ⟨RX5, "addFour", "(I)V"⟩
abbrev cX5_addFour : ByteArray := prog_7_method_2_code
theorem dX5_addFour_0 : decode cX5_addFour 0 = .ok (.bipush 24, 2) := by decide +kernel
theorem dX5_addFour_2 : decode cX5_addFour 2 = .ok (.istore_n 2, 1) := by decide +kernel
theorem dX5_addFour_3 : decode cX5_addFour 3 = .ok (.iload_n 2, 1) := by decide +kernel
theorem dX5_addFour_4 : decode cX5_addFour 4 = .ok (.ifCond .lt 45, 3) := by decide +kernel
theorem dX5_addFour_7 : decode cX5_addFour 7 = .ok (.aload_n 0, 1) := by decide +kernel
theorem dX5_addFour_8 : decode cX5_addFour 8 = .ok (.getfield 34, 3) := by decide +kernel
theorem fl_RX5_34 : Cond.fieldLink RX5 34 RX5 "length" "I" ∈ gW := gW_t 348 (by decide +kernel) rfl
theorem dX5_addFour_11 : decode cX5_addFour 11 = .ok (.sipush 400, 3) := by decide +kernel
theorem dX5_addFour_14 : decode cX5_addFour 14 = .ok (.if_icmp .ge 29, 3) := by decide +kernel
theorem dX5_addFour_17 : decode cX5_addFour 17 = .ok (.aload_n 0, 1) := by decide +kernel
theorem dX5_addFour_18 : decode cX5_addFour 18 = .ok (.getfield 9, 3) := by decide +kernel
theorem fl_RX5_9 : Cond.fieldLink RX5 9 RX5 "bytes" "[I" ∈ gW := gW_t 347 (by decide +kernel) rfl
theorem dX5_addFour_21 : decode cX5_addFour 21 = .ok (.aload_n 0, 1) := by decide +kernel
theorem dX5_addFour_22 : decode cX5_addFour 22 = .ok (.getfield 34, 3) := by decide +kernel
theorem dX5_addFour_25 : decode cX5_addFour 25 = .ok (.iload_n 1, 1) := by decide +kernel
theorem dX5_addFour_26 : decode cX5_addFour 26 = .ok (.iload_n 2, 1) := by decide +kernel
theorem dX5_addFour_27 : decode cX5_addFour 27 = .ok (.ishr, 1) := by decide +kernel
theorem dX5_addFour_28 : decode cX5_addFour 28 = .ok (.sipush 255, 3) := by decide +kernel
theorem dX5_addFour_31 : decode cX5_addFour 31 = .ok (.iand, 1) := by decide +kernel
theorem dX5_addFour_32 : decode cX5_addFour 32 = .ok (.iastore, 1) := by decide +kernel
theorem dX5_addFour_33 : decode cX5_addFour 33 = .ok (.aload_n 0, 1) := by decide +kernel
theorem dX5_addFour_34 : decode cX5_addFour 34 = .ok (.dup, 1) := by decide +kernel
theorem dX5_addFour_35 : decode cX5_addFour 35 = .ok (.getfield 34, 3) := by decide +kernel
theorem dX5_addFour_38 : decode cX5_addFour 38 = .ok (.iconst 1, 1) := by decide +kernel
theorem dX5_addFour_39 : decode cX5_addFour 39 = .ok (.iadd, 1) := by decide +kernel
theorem dX5_addFour_40 : decode cX5_addFour 40 = .ok (.putfield 34, 3) := by decide +kernel
theorem dX5_addFour_43 : decode cX5_addFour 43 = .ok (.iinc 2 (-8), 3) := by decide +kernel
theorem dX5_addFour_46 : decode cX5_addFour 46 = .ok (.goto (-43), 3) := by decide +kernel
theorem dX5_addFour_49 : decode cX5_addFour 49 = .ok (.return_, 1) := by decide +kernel
def yX11_feed : MethodName := ⟨RX11, "feed", "(IIIII)I"⟩
abbrev cX11_feed : ByteArray := prog_1_method_10_code
theorem dX11_feed_0 : decode cX11_feed 0 = .ok (.aload_n 0, 1) := by decide +kernel
theorem dX11_feed_1 : decode cX11_feed 1 = .ok (.getfield 42, 3) := by decide +kernel
theorem dX11_feed_4 : decode cX11_feed 4 = .ok (.getfield 196, 3) := by decide +kernel
theorem dX11_feed_7 : decode cX11_feed 7 = .ok (.bipush 20, 2) := by decide +kernel
theorem dX11_feed_9 : decode cX11_feed 9 = .ok (.iadd, 1) := by decide +kernel
theorem dX11_feed_10 : decode cX11_feed 10 = .ok (.sipush 400, 3) := by decide +kernel
theorem dX11_feed_13 : decode cX11_feed 13 = .ok (.if_icmp .le 5, 3) := by decide +kernel
theorem dX11_feed_18 : decode cX11_feed 18 = .ok (.aload_n 0, 1) := by decide +kernel
theorem dX11_feed_19 : decode cX11_feed 19 = .ok (.getfield 42, 3) := by decide +kernel
theorem dX11_feed_22 : decode cX11_feed 22 = .ok (.iload_n 1, 1) := by decide +kernel
theorem dX11_feed_23 : decode cX11_feed 23 = .ok (.invokevirtual 199, 3) := by decide +kernel
theorem lk_RX11_199 : Cond.methodLink RX11 199 yX5_addFour ∈ gW := gW_t 637 (by decide +kernel) rfl
theorem mI_X5_addFour : Cond.instanceMethod yX5_addFour ∈ gW := gW_t 638 (by decide +kernel) rfl
theorem mS_X5_addFour : Cond.selects RX5 yX5_addFour yX5_addFour ∈ gW := gW_t 639 (by decide +kernel) rfl
theorem mN_RX5 : Cond.initialized RX5 ∈ gW := gW_t 10 (by decide +kernel) rfl
theorem mC_X5_addFour : Cond.code yX5_addFour cX5_addFour 3 none ∈ gW := gW_t 640 (by decide +kernel) rfl
theorem ok_X5_addFour : okD yX5_addFour 1 := ⟨by decide +kernel, by decide +kernel, by decide +kernel⟩
theorem dX11_feed_26 : decode cX11_feed 26 = .ok (.aload_n 0, 1) := by decide +kernel
theorem dX11_feed_27 : decode cX11_feed 27 = .ok (.getfield 42, 3) := by decide +kernel
theorem dX11_feed_30 : decode cX11_feed 30 = .ok (.iload_n 2, 1) := by decide +kernel
theorem dX11_feed_31 : decode cX11_feed 31 = .ok (.invokevirtual 199, 3) := by decide +kernel
theorem dX11_feed_34 : decode cX11_feed 34 = .ok (.aload_n 0, 1) := by decide +kernel
theorem dX11_feed_35 : decode cX11_feed 35 = .ok (.getfield 42, 3) := by decide +kernel
theorem dX11_feed_38 : decode cX11_feed 38 = .ok (.iload_n 3, 1) := by decide +kernel
theorem dX11_feed_39 : decode cX11_feed 39 = .ok (.invokevirtual 199, 3) := by decide +kernel
theorem dX11_feed_42 : decode cX11_feed 42 = .ok (.aload_n 0, 1) := by decide +kernel
theorem dX11_feed_43 : decode cX11_feed 43 = .ok (.getfield 42, 3) := by decide +kernel
theorem dX11_feed_46 : decode cX11_feed 46 = .ok (.iload 4, 2) := by decide +kernel
theorem dX11_feed_48 : decode cX11_feed 48 = .ok (.invokevirtual 199, 3) := by decide +kernel
theorem dX11_feed_51 : decode cX11_feed 51 = .ok (.aload_n 0, 1) := by decide +kernel
theorem dX11_feed_52 : decode cX11_feed 52 = .ok (.getfield 42, 3) := by decide +kernel
theorem dX11_feed_55 : decode cX11_feed 55 = .ok (.iload 5, 2) := by decide +kernel
theorem dX11_feed_57 : decode cX11_feed 57 = .ok (.invokevirtual 199, 3) := by decide +kernel
theorem dX11_feed_60 : decode cX11_feed 60 = .ok (.aload_n 0, 1) := by decide +kernel
theorem dX11_feed_61 : decode cX11_feed 61 = .ok (.getfield 42, 3) := by decide +kernel
theorem dX11_feed_64 : decode cX11_feed 64 = .ok (.getfield 196, 3) := by decide +kernel
theorem dX11_feed_67 : decode cX11_feed 67 = .ok (.ireturn, 1) := by decide +kernel
def yX8_setHead : MethodName := ⟨RX8, "setHead", "(III)V"⟩
abbrev cX8_setHead : ByteArray := prog_10_method_3_code
theorem dX8_setHead_0 : decode cX8_setHead 0 = .ok (.iconst 5, 1) := by decide +kernel
theorem dX8_setHead_1 : decode cX8_setHead 1 = .ok (.iload_n 1, 1) := by decide +kernel
theorem dX8_setHead_2 : decode cX8_setHead 2 = .ok (.imul, 1) := by decide +kernel
theorem dX8_setHead_3 : decode cX8_setHead 3 = .ok (.iload_n 2, 1) := by decide +kernel
theorem dX8_setHead_4 : decode cX8_setHead 4 = .ok (.iadd, 1) := by decide +kernel
theorem dX8_setHead_5 : decode cX8_setHead 5 = .ok (.istore 4, 2) := by decide +kernel
theorem dX8_setHead_7 : decode cX8_setHead 7 = .ok (.iload 4, 2) := by decide +kernel
theorem dX8_setHead_9 : decode cX8_setHead 9 = .ok (.ifCond .lt 21, 3) := by decide +kernel
theorem dX8_setHead_12 : decode cX8_setHead 12 = .ok (.iload 4, 2) := by decide +kernel
theorem dX8_setHead_14 : decode cX8_setHead 14 = .ok (.aload_n 0, 1) := by decide +kernel
theorem dX8_setHead_15 : decode cX8_setHead 15 = .ok (.getfield 17, 3) := by decide +kernel
theorem fl_RX8_17 : Cond.fieldLink RX8 17 RX8 "heads" "[I" ∈ gW := gW_t 326 (by decide +kernel) rfl
theorem dX8_setHead_18 : decode cX8_setHead 18 = .ok (.arraylength, 1) := by decide +kernel
theorem dX8_setHead_19 : decode cX8_setHead 19 = .ok (.if_icmp .ge 11, 3) := by decide +kernel
theorem dX8_setHead_22 : decode cX8_setHead 22 = .ok (.aload_n 0, 1) := by decide +kernel
theorem dX8_setHead_23 : decode cX8_setHead 23 = .ok (.getfield 17, 3) := by decide +kernel
theorem dX8_setHead_26 : decode cX8_setHead 26 = .ok (.iload 4, 2) := by decide +kernel
theorem dX8_setHead_28 : decode cX8_setHead 28 = .ok (.iload_n 3, 1) := by decide +kernel
theorem dX8_setHead_29 : decode cX8_setHead 29 = .ok (.iastore, 1) := by decide +kernel
theorem dX8_setHead_30 : decode cX8_setHead 30 = .ok (.return_, 1) := by decide +kernel
def yX5_setHead : MethodName := ⟨RX5, "setHead", "(II)V"⟩
abbrev cX5_setHead : ByteArray := prog_7_method_15_code
theorem dX5_setHead_0 : decode cX5_setHead 0 = .ok (.aload_n 0, 1) := by decide +kernel
theorem dX5_setHead_1 : decode cX5_setHead 1 = .ok (.getfield 30, 3) := by decide +kernel
theorem fl_RX5_30 : Cond.fieldLink RX5 30 RX5 "draft" "LListenWells$Text;" ∈ gW := gW_t 358 (by decide +kernel) rfl
theorem dX5_setHead_4 : decode cX5_setHead 4 = .ok (.aload_n 0, 1) := by decide +kernel
theorem dX5_setHead_5 : decode cX5_setHead 5 = .ok (.getfield 30, 3) := by decide +kernel
theorem dX5_setHead_8 : decode cX5_setHead 8 = .ok (.getfield 69, 3) := by decide +kernel
theorem fl_RX5_69 : Cond.fieldLink RX5 69 RX8 "clauses" "I" ∈ gW := gW_t 331 (by decide +kernel) rfl
theorem dX5_setHead_11 : decode cX5_setHead 11 = .ok (.iload_n 1, 1) := by decide +kernel
theorem dX5_setHead_12 : decode cX5_setHead 12 = .ok (.iload_n 2, 1) := by decide +kernel
theorem dX5_setHead_13 : decode cX5_setHead 13 = .ok (.invokevirtual 133, 3) := by decide +kernel
theorem lk_RX5_133 : Cond.methodLink RX5 133 yX8_setHead ∈ gW := gW_t 741 (by decide +kernel) rfl
theorem mI_X8_setHead : Cond.instanceMethod yX8_setHead ∈ gW := gW_t 742 (by decide +kernel) rfl
theorem mS_X8_setHead : Cond.selects RX8 yX8_setHead yX8_setHead ∈ gW := gW_t 743 (by decide +kernel) rfl
theorem mN_RX8 : Cond.initialized RX8 ∈ gW := gW_t 11 (by decide +kernel) rfl
theorem mC_X8_setHead : Cond.code yX8_setHead cX8_setHead 5 none ∈ gW := gW_t 744 (by decide +kernel) rfl
theorem ok_X8_setHead : okD yX8_setHead 3 := ⟨by decide +kernel, by decide +kernel, by decide +kernel⟩
theorem dX5_setHead_16 : decode cX5_setHead 16 = .ok (.return_, 1) := by decide +kernel
def yX5_beginHead : MethodName := ⟨RX5, "beginHead", "()V"⟩
abbrev cX5_beginHead : ByteArray := prog_7_method_14_code
theorem dX5_beginHead_0 : decode cX5_beginHead 0 = .ok (.aload_n 0, 1) := by decide +kernel
theorem dX5_beginHead_1 : decode cX5_beginHead 1 = .ok (.iconst 0, 1) := by decide +kernel
theorem dX5_beginHead_2 : decode cX5_beginHead 2 = .ok (.iconst (-1), 1) := by decide +kernel
theorem dX5_beginHead_3 : decode cX5_beginHead 3 = .ok (.invokevirtual 130, 3) := by decide +kernel
theorem lk_RX5_130 : Cond.methodLink RX5 130 yX5_setHead ∈ gW := gW_t 737 (by decide +kernel) rfl
theorem mI_X5_setHead : Cond.instanceMethod yX5_setHead ∈ gW := gW_t 739 (by decide +kernel) rfl
theorem mS_X5_setHead : Cond.selects RX5 yX5_setHead yX5_setHead ∈ gW := gW_p (q := (yX5_setHead, 10)) 11 (by decide +kernel)
theorem mC_X5_setHead : Cond.code yX5_setHead cX5_setHead 3 none ∈ gW := gW_t 740 (by decide +kernel) rfl
theorem ok_X5_setHead : okD yX5_setHead 2 := ⟨by decide +kernel, by decide +kernel, by decide +kernel⟩
theorem dX5_beginHead_6 : decode cX5_beginHead 6 = .ok (.aload_n 0, 1) := by decide +kernel
theorem dX5_beginHead_7 : decode cX5_beginHead 7 = .ok (.iconst 1, 1) := by decide +kernel
theorem dX5_beginHead_8 : decode cX5_beginHead 8 = .ok (.iconst (-1), 1) := by decide +kernel
theorem dX5_beginHead_9 : decode cX5_beginHead 9 = .ok (.invokevirtual 130, 3) := by decide +kernel
theorem dX5_beginHead_12 : decode cX5_beginHead 12 = .ok (.aload_n 0, 1) := by decide +kernel
theorem dX5_beginHead_13 : decode cX5_beginHead 13 = .ok (.iconst 2, 1) := by decide +kernel
theorem dX5_beginHead_14 : decode cX5_beginHead 14 = .ok (.iconst (-1), 1) := by decide +kernel
theorem dX5_beginHead_15 : decode cX5_beginHead 15 = .ok (.invokevirtual 130, 3) := by decide +kernel
theorem dX5_beginHead_18 : decode cX5_beginHead 18 = .ok (.aload_n 0, 1) := by decide +kernel
theorem dX5_beginHead_19 : decode cX5_beginHead 19 = .ok (.iconst 3, 1) := by decide +kernel
theorem dX5_beginHead_20 : decode cX5_beginHead 20 = .ok (.iconst (-1), 1) := by decide +kernel
theorem dX5_beginHead_21 : decode cX5_beginHead 21 = .ok (.invokevirtual 130, 3) := by decide +kernel
theorem dX5_beginHead_24 : decode cX5_beginHead 24 = .ok (.aload_n 0, 1) := by decide +kernel
theorem dX5_beginHead_25 : decode cX5_beginHead 25 = .ok (.iconst 4, 1) := by decide +kernel
theorem dX5_beginHead_26 : decode cX5_beginHead 26 = .ok (.iconst 1, 1) := by decide +kernel
theorem dX5_beginHead_27 : decode cX5_beginHead 27 = .ok (.invokevirtual 130, 3) := by decide +kernel
theorem dX5_beginHead_30 : decode cX5_beginHead 30 = .ok (.return_, 1) := by decide +kernel
def yX5_addToken : MethodName := ⟨RX5, "addToken", "(II)V"⟩
abbrev cX5_addToken : ByteArray := prog_7_method_7_code
theorem dX5_addToken_0 : decode cX5_addToken 0 = .ok (.aload_n 0, 1) := by decide +kernel
theorem dX5_addToken_1 : decode cX5_addToken 1 = .ok (.getfield 96, 3) := by decide +kernel
theorem fl_RX5_96 : Cond.fieldLink RX5 96 RX5 "tokenCount" "I" ∈ gW := gW_t 352 (by decide +kernel) rfl
theorem dX5_addToken_4 : decode cX5_addToken 4 = .ok (.aload_n 0, 1) := by decide +kernel
theorem dX5_addToken_5 : decode cX5_addToken 5 = .ok (.getfield 15, 3) := by decide +kernel
theorem fl_RX5_15 : Cond.fieldLink RX5 15 RX5 "tokens" "[I" ∈ gW := gW_t 350 (by decide +kernel) rfl
theorem dX5_addToken_8 : decode cX5_addToken 8 = .ok (.arraylength, 1) := by decide +kernel
theorem dX5_addToken_9 : decode cX5_addToken 9 = .ok (.if_icmp .ge 33, 3) := by decide +kernel
theorem dX5_addToken_12 : decode cX5_addToken 12 = .ok (.aload_n 0, 1) := by decide +kernel
theorem dX5_addToken_13 : decode cX5_addToken 13 = .ok (.getfield 15, 3) := by decide +kernel
theorem dX5_addToken_16 : decode cX5_addToken 16 = .ok (.aload_n 0, 1) := by decide +kernel
theorem dX5_addToken_17 : decode cX5_addToken 17 = .ok (.getfield 96, 3) := by decide +kernel
theorem dX5_addToken_20 : decode cX5_addToken 20 = .ok (.iload_n 1, 1) := by decide +kernel
theorem dX5_addToken_21 : decode cX5_addToken 21 = .ok (.iastore, 1) := by decide +kernel
theorem dX5_addToken_22 : decode cX5_addToken 22 = .ok (.aload_n 0, 1) := by decide +kernel
theorem dX5_addToken_23 : decode cX5_addToken 23 = .ok (.getfield 18, 3) := by decide +kernel
theorem fl_RX5_18 : Cond.fieldLink RX5 18 RX5 "places" "[I" ∈ gW := gW_t 351 (by decide +kernel) rfl
theorem dX5_addToken_26 : decode cX5_addToken 26 = .ok (.aload_n 0, 1) := by decide +kernel
theorem dX5_addToken_27 : decode cX5_addToken 27 = .ok (.getfield 96, 3) := by decide +kernel
theorem dX5_addToken_30 : decode cX5_addToken 30 = .ok (.iload_n 2, 1) := by decide +kernel
theorem dX5_addToken_31 : decode cX5_addToken 31 = .ok (.iastore, 1) := by decide +kernel
theorem dX5_addToken_32 : decode cX5_addToken 32 = .ok (.aload_n 0, 1) := by decide +kernel
theorem dX5_addToken_33 : decode cX5_addToken 33 = .ok (.dup, 1) := by decide +kernel
theorem dX5_addToken_34 : decode cX5_addToken 34 = .ok (.getfield 96, 3) := by decide +kernel
theorem dX5_addToken_37 : decode cX5_addToken 37 = .ok (.iconst 1, 1) := by decide +kernel
theorem dX5_addToken_38 : decode cX5_addToken 38 = .ok (.iadd, 1) := by decide +kernel
theorem dX5_addToken_39 : decode cX5_addToken 39 = .ok (.putfield 96, 3) := by decide +kernel
theorem dX5_addToken_42 : decode cX5_addToken 42 = .ok (.return_, 1) := by decide +kernel
def yX5_splitIntoTokens : MethodName := ⟨RX5, "splitIntoTokens", "()V"⟩
abbrev cX5_splitIntoTokens : ByteArray := prog_7_method_6_code
theorem dX5_splitIntoTokens_0 : decode cX5_splitIntoTokens 0 = .ok (.aload_n 0, 1) := by decide +kernel
theorem dX5_splitIntoTokens_1 : decode cX5_splitIntoTokens 1 = .ok (.iconst 0, 1) := by decide +kernel
theorem dX5_splitIntoTokens_2 : decode cX5_splitIntoTokens 2 = .ok (.putfield 96, 3) := by decide +kernel
theorem dX5_splitIntoTokens_5 : decode cX5_splitIntoTokens 5 = .ok (.iconst 0, 1) := by decide +kernel
theorem dX5_splitIntoTokens_6 : decode cX5_splitIntoTokens 6 = .ok (.istore_n 1, 1) := by decide +kernel
theorem dX5_splitIntoTokens_7 : decode cX5_splitIntoTokens 7 = .ok (.iconst 0, 1) := by decide +kernel
theorem dX5_splitIntoTokens_8 : decode cX5_splitIntoTokens 8 = .ok (.istore_n 2, 1) := by decide +kernel
theorem dX5_splitIntoTokens_9 : decode cX5_splitIntoTokens 9 = .ok (.iload_n 2, 1) := by decide +kernel
theorem dX5_splitIntoTokens_10 : decode cX5_splitIntoTokens 10 = .ok (.sipush 400, 3) := by decide +kernel
theorem dX5_splitIntoTokens_13 : decode cX5_splitIntoTokens 13 = .ok (.if_icmp .ge 127, 3) := by decide +kernel
theorem dX5_splitIntoTokens_16 : decode cX5_splitIntoTokens 16 = .ok (.iload_n 1, 1) := by decide +kernel
theorem dX5_splitIntoTokens_17 : decode cX5_splitIntoTokens 17 = .ok (.aload_n 0, 1) := by decide +kernel
theorem dX5_splitIntoTokens_18 : decode cX5_splitIntoTokens 18 = .ok (.getfield 34, 3) := by decide +kernel
theorem dX5_splitIntoTokens_21 : decode cX5_splitIntoTokens 21 = .ok (.if_icmp .ge 119, 3) := by decide +kernel
theorem dX5_splitIntoTokens_140 : decode cX5_splitIntoTokens 140 = .ok (.aload_n 0, 1) := by decide +kernel
theorem dX5_splitIntoTokens_141 : decode cX5_splitIntoTokens 141 = .ok (.bipush 31, 2) := by decide +kernel
theorem dX5_splitIntoTokens_143 : decode cX5_splitIntoTokens 143 = .ok (.aload_n 0, 1) := by decide +kernel
theorem dX5_splitIntoTokens_144 : decode cX5_splitIntoTokens 144 = .ok (.getfield 34, 3) := by decide +kernel
theorem dX5_splitIntoTokens_147 : decode cX5_splitIntoTokens 147 = .ok (.invokevirtual 107, 3) := by decide +kernel
theorem lk_RX5_107 : Cond.methodLink RX5 107 yX5_addToken ∈ gW := gW_t 724 (by decide +kernel) rfl
theorem mI_X5_addToken : Cond.instanceMethod yX5_addToken ∈ gW := gW_t 726 (by decide +kernel) rfl
theorem mS_X5_addToken : Cond.selects RX5 yX5_addToken yX5_addToken ∈ gW := gW_p (q := (yX5_addToken, 10)) 8 (by decide +kernel)
theorem mC_X5_addToken : Cond.code yX5_addToken cX5_addToken 3 none ∈ gW := gW_t 727 (by decide +kernel) rfl
theorem ok_X5_addToken : okD yX5_addToken 2 := ⟨by decide +kernel, by decide +kernel, by decide +kernel⟩
theorem dX5_splitIntoTokens_150 : decode cX5_splitIntoTokens 150 = .ok (.return_, 1) := by decide +kernel
def yX5_tokenNow : MethodName := ⟨RX5, "tokenNow", "()I"⟩
abbrev cX5_tokenNow : ByteArray := prog_7_method_12_code
theorem dX5_tokenNow_0 : decode cX5_tokenNow 0 = .ok (.aload_n 0, 1) := by decide +kernel
theorem dX5_tokenNow_1 : decode cX5_tokenNow 1 = .ok (.getfield 63, 3) := by decide +kernel
theorem fl_RX5_63 : Cond.fieldLink RX5 63 RX5 "now" "I" ∈ gW := gW_t 353 (by decide +kernel) rfl
theorem dX5_tokenNow_4 : decode cX5_tokenNow 4 = .ok (.ifCond .lt 26, 3) := by decide +kernel
theorem dX5_tokenNow_7 : decode cX5_tokenNow 7 = .ok (.aload_n 0, 1) := by decide +kernel
theorem dX5_tokenNow_8 : decode cX5_tokenNow 8 = .ok (.getfield 63, 3) := by decide +kernel
theorem dX5_tokenNow_11 : decode cX5_tokenNow 11 = .ok (.aload_n 0, 1) := by decide +kernel
theorem dX5_tokenNow_12 : decode cX5_tokenNow 12 = .ok (.getfield 96, 3) := by decide +kernel
theorem dX5_tokenNow_15 : decode cX5_tokenNow 15 = .ok (.if_icmp .ge 15, 3) := by decide +kernel
theorem dX5_tokenNow_18 : decode cX5_tokenNow 18 = .ok (.aload_n 0, 1) := by decide +kernel
theorem dX5_tokenNow_19 : decode cX5_tokenNow 19 = .ok (.getfield 15, 3) := by decide +kernel
theorem dX5_tokenNow_22 : decode cX5_tokenNow 22 = .ok (.aload_n 0, 1) := by decide +kernel
theorem dX5_tokenNow_23 : decode cX5_tokenNow 23 = .ok (.getfield 63, 3) := by decide +kernel
theorem dX5_tokenNow_26 : decode cX5_tokenNow 26 = .ok (.iaload, 1) := by decide +kernel
theorem dX5_tokenNow_27 : decode cX5_tokenNow 27 = .ok (.goto 5, 3) := by decide +kernel
theorem dX5_tokenNow_32 : decode cX5_tokenNow 32 = .ok (.ireturn, 1) := by decide +kernel
def yX5_placeNow : MethodName := ⟨RX5, "placeNow", "()I"⟩
abbrev cX5_placeNow : ByteArray := prog_7_method_5_code
theorem dX5_placeNow_0 : decode cX5_placeNow 0 = .ok (.aload_n 0, 1) := by decide +kernel
theorem dX5_placeNow_1 : decode cX5_placeNow 1 = .ok (.getfield 63, 3) := by decide +kernel
theorem dX5_placeNow_4 : decode cX5_placeNow 4 = .ok (.ifCond .lt 26, 3) := by decide +kernel
theorem dX5_placeNow_7 : decode cX5_placeNow 7 = .ok (.aload_n 0, 1) := by decide +kernel
theorem dX5_placeNow_8 : decode cX5_placeNow 8 = .ok (.getfield 63, 3) := by decide +kernel
theorem dX5_placeNow_11 : decode cX5_placeNow 11 = .ok (.aload_n 0, 1) := by decide +kernel
theorem dX5_placeNow_12 : decode cX5_placeNow 12 = .ok (.getfield 96, 3) := by decide +kernel
theorem dX5_placeNow_15 : decode cX5_placeNow 15 = .ok (.if_icmp .ge 15, 3) := by decide +kernel
theorem dX5_placeNow_18 : decode cX5_placeNow 18 = .ok (.aload_n 0, 1) := by decide +kernel
theorem dX5_placeNow_19 : decode cX5_placeNow 19 = .ok (.getfield 18, 3) := by decide +kernel
theorem dX5_placeNow_22 : decode cX5_placeNow 22 = .ok (.aload_n 0, 1) := by decide +kernel
theorem dX5_placeNow_23 : decode cX5_placeNow 23 = .ok (.getfield 63, 3) := by decide +kernel
theorem dX5_placeNow_26 : decode cX5_placeNow 26 = .ok (.iaload, 1) := by decide +kernel
theorem dX5_placeNow_27 : decode cX5_placeNow 27 = .ok (.goto 7, 3) := by decide +kernel
theorem dX5_placeNow_34 : decode cX5_placeNow 34 = .ok (.ireturn, 1) := by decide +kernel
def yX5_readRule : MethodName := ⟨RX5, "readRule", "()Z"⟩
abbrev cX5_readRule : ByteArray := prog_7_method_16_code
theorem dX5_readRule_0 : decode cX5_readRule 0 = .ok (.aload_n 0, 1) := by decide +kernel
theorem dX5_readRule_1 : decode cX5_readRule 1 = .ok (.invokevirtual 86, 3) := by decide +kernel
theorem lk_RX5_86 : Cond.methodLink RX5 86 yX5_tokenNow ∈ gW := gW_t 749 (by decide +kernel) rfl
theorem mI_X5_tokenNow : Cond.instanceMethod yX5_tokenNow ∈ gW := gW_t 751 (by decide +kernel) rfl
theorem mS_X5_tokenNow : Cond.selects RX5 yX5_tokenNow yX5_tokenNow ∈ gW := gW_p (q := (yX5_tokenNow, 10)) 13 (by decide +kernel)
theorem mC_X5_tokenNow : Cond.code yX5_tokenNow cX5_tokenNow 1 (some .int) ∈ gW := gW_t 752 (by decide +kernel) rfl
theorem ok_X5_tokenNow : okD yX5_tokenNow 0 := ⟨by decide +kernel, by decide +kernel, by decide +kernel⟩
theorem dX5_readRule_4 : decode cX5_readRule 4 = .ok (.istore_n 1, 1) := by decide +kernel
theorem dX5_readRule_5 : decode cX5_readRule 5 = .ok (.iload_n 1, 1) := by decide +kernel
theorem dX5_readRule_6 : decode cX5_readRule 6 = .ok (.ifCond .lt 8, 3) := by decide +kernel
theorem dX5_readRule_9 : decode cX5_readRule 9 = .ok (.iload_n 1, 1) := by decide +kernel
theorem dX5_readRule_10 : decode cX5_readRule 10 = .ok (.iconst 4, 1) := by decide +kernel
theorem dX5_readRule_11 : decode cX5_readRule 11 = .ok (.if_icmp .le 5, 3) := by decide +kernel
theorem dX5_readRule_14 : decode cX5_readRule 14 = .ok (.iconst 0, 1) := by decide +kernel
theorem dX5_readRule_15 : decode cX5_readRule 15 = .ok (.ireturn, 1) := by decide +kernel
def yX5_readOrder : MethodName := ⟨RX5, "readOrder", "()Z"⟩
abbrev cX5_readOrder : ByteArray := prog_7_method_17_code
theorem dX5_readOrder_0 : decode cX5_readOrder 0 = .ok (.aload_n 0, 1) := by decide +kernel
theorem dX5_readOrder_1 : decode cX5_readOrder 1 = .ok (.invokevirtual 86, 3) := by decide +kernel
theorem dX5_readOrder_4 : decode cX5_readOrder 4 = .ok (.istore_n 1, 1) := by decide +kernel
theorem dX5_readOrder_5 : decode cX5_readOrder 5 = .ok (.iload_n 1, 1) := by decide +kernel
theorem dX5_readOrder_6 : decode cX5_readOrder 6 = .ok (.bipush 18, 2) := by decide +kernel
theorem dX5_readOrder_8 : decode cX5_readOrder 8 = .ok (.if_icmp .eq 23, 3) := by decide +kernel
theorem dX5_readOrder_11 : decode cX5_readOrder 11 = .ok (.iload_n 1, 1) := by decide +kernel
theorem dX5_readOrder_12 : decode cX5_readOrder 12 = .ok (.bipush 20, 2) := by decide +kernel
theorem dX5_readOrder_14 : decode cX5_readOrder 14 = .ok (.if_icmp .eq 17, 3) := by decide +kernel
theorem dX5_readOrder_17 : decode cX5_readOrder 17 = .ok (.iload_n 1, 1) := by decide +kernel
theorem dX5_readOrder_18 : decode cX5_readOrder 18 = .ok (.bipush 21, 2) := by decide +kernel
theorem dX5_readOrder_20 : decode cX5_readOrder 20 = .ok (.if_icmp .eq 11, 3) := by decide +kernel
theorem dX5_readOrder_23 : decode cX5_readOrder 23 = .ok (.iload_n 1, 1) := by decide +kernel
theorem dX5_readOrder_24 : decode cX5_readOrder 24 = .ok (.bipush 22, 2) := by decide +kernel
theorem dX5_readOrder_26 : decode cX5_readOrder 26 = .ok (.if_icmp .eq 5, 3) := by decide +kernel
theorem dX5_readOrder_29 : decode cX5_readOrder 29 = .ok (.iconst 0, 1) := by decide +kernel
theorem dX5_readOrder_30 : decode cX5_readOrder 30 = .ok (.ireturn, 1) := by decide +kernel
def yX5_read : MethodName := ⟨RX5, "read", "(Z)Z"⟩
abbrev cX5_read : ByteArray := prog_7_method_4_code
theorem dX5_read_0 : decode cX5_read 0 = .ok (.aload_n 0, 1) := by decide +kernel
theorem dX5_read_1 : decode cX5_read 1 = .ok (.invokevirtual 56, 3) := by decide +kernel
theorem lk_RX5_56 : Cond.methodLink RX5 56 yX5_splitIntoTokens ∈ gW := gW_t 667 (by decide +kernel) rfl
theorem mI_X5_splitIntoTokens : Cond.instanceMethod yX5_splitIntoTokens ∈ gW := gW_t 669 (by decide +kernel) rfl
theorem mS_X5_splitIntoTokens : Cond.selects RX5 yX5_splitIntoTokens yX5_splitIntoTokens ∈ gW := gW_p (q := (yX5_splitIntoTokens, 10)) 4 (by decide +kernel)
theorem mC_X5_splitIntoTokens : Cond.code yX5_splitIntoTokens cX5_splitIntoTokens 5 none ∈ gW := gW_t 670 (by decide +kernel) rfl
theorem ok_X5_splitIntoTokens : okD yX5_splitIntoTokens 0 := ⟨by decide +kernel, by decide +kernel, by decide +kernel⟩
theorem dX5_read_4 : decode cX5_read 4 = .ok (.aload_n 0, 1) := by decide +kernel
theorem dX5_read_5 : decode cX5_read 5 = .ok (.iload_n 1, 1) := by decide +kernel
theorem dX5_read_6 : decode cX5_read 6 = .ok (.putfield 59, 3) := by decide +kernel
theorem fl_RX5_59 : Cond.fieldLink RX5 59 RX5 "asOrders" "Z" ∈ gW := gW_t 355 (by decide +kernel) rfl
theorem dX5_read_9 : decode cX5_read 9 = .ok (.aload_n 0, 1) := by decide +kernel
theorem dX5_read_10 : decode cX5_read 10 = .ok (.iconst 0, 1) := by decide +kernel
theorem dX5_read_11 : decode cX5_read 11 = .ok (.putfield 63, 3) := by decide +kernel
theorem dX5_read_14 : decode cX5_read 14 = .ok (.aload_n 0, 1) := by decide +kernel
theorem dX5_read_15 : decode cX5_read 15 = .ok (.iconst 0, 1) := by decide +kernel
theorem dX5_read_16 : decode cX5_read 16 = .ok (.putfield 66, 3) := by decide +kernel
theorem fl_RX5_66 : Cond.fieldLink RX5 66 RX5 "parts" "I" ∈ gW := gW_t 354 (by decide +kernel) rfl
theorem dX5_read_19 : decode cX5_read 19 = .ok (.aload_n 0, 1) := by decide +kernel
theorem dX5_read_20 : decode cX5_read 20 = .ok (.getfield 30, 3) := by decide +kernel
theorem dX5_read_23 : decode cX5_read 23 = .ok (.iconst 0, 1) := by decide +kernel
theorem dX5_read_24 : decode cX5_read 24 = .ok (.putfield 69, 3) := by decide +kernel
theorem dX5_read_27 : decode cX5_read 27 = .ok (.aload_n 0, 1) := by decide +kernel
theorem dX5_read_28 : decode cX5_read 28 = .ok (.getfield 30, 3) := by decide +kernel
theorem dX5_read_31 : decode cX5_read 31 = .ok (.iconst 0, 1) := by decide +kernel
theorem dX5_read_32 : decode cX5_read 32 = .ok (.putfield 72, 3) := by decide +kernel
theorem fl_RX5_72 : Cond.fieldLink RX5 72 RX8 "length" "I" ∈ gW := gW_t 335 (by decide +kernel) rfl
theorem dX5_read_35 : decode cX5_read 35 = .ok (.iconst 1, 1) := by decide +kernel
theorem dX5_read_36 : decode cX5_read 36 = .ok (.istore_n 2, 1) := by decide +kernel
theorem dX5_read_37 : decode cX5_read 37 = .ok (.iconst 0, 1) := by decide +kernel
theorem dX5_read_38 : decode cX5_read 38 = .ok (.istore_n 3, 1) := by decide +kernel
theorem dX5_read_39 : decode cX5_read 39 = .ok (.iconst 0, 1) := by decide +kernel
theorem dX5_read_40 : decode cX5_read 40 = .ok (.istore 4, 2) := by decide +kernel
theorem dX5_read_42 : decode cX5_read 42 = .ok (.iload 4, 2) := by decide +kernel
theorem dX5_read_44 : decode cX5_read 44 = .ok (.bipush 12, 2) := by decide +kernel
theorem dX5_read_46 : decode cX5_read 46 = .ok (.if_icmp .ge 110, 3) := by decide +kernel
theorem dX5_read_49 : decode cX5_read 49 = .ok (.iload_n 2, 1) := by decide +kernel
theorem dX5_read_50 : decode cX5_read 50 = .ok (.ifCond .eq 106, 3) := by decide +kernel
theorem dX5_read_53 : decode cX5_read 53 = .ok (.iload_n 3, 1) := by decide +kernel
theorem dX5_read_54 : decode cX5_read 54 = .ok (.ifCond .ne 102, 3) := by decide +kernel
theorem dX5_read_57 : decode cX5_read 57 = .ok (.aload_n 0, 1) := by decide +kernel
theorem dX5_read_58 : decode cX5_read 58 = .ok (.invokevirtual 73, 3) := by decide +kernel
theorem lk_RX5_73 : Cond.methodLink RX5 73 yX5_beginHead ∈ gW := gW_t 733 (by decide +kernel) rfl
theorem mI_X5_beginHead : Cond.instanceMethod yX5_beginHead ∈ gW := gW_t 735 (by decide +kernel) rfl
theorem mS_X5_beginHead : Cond.selects RX5 yX5_beginHead yX5_beginHead ∈ gW := gW_p (q := (yX5_beginHead, 10)) 10 (by decide +kernel)
theorem mC_X5_beginHead : Cond.code yX5_beginHead cX5_beginHead 1 none ∈ gW := gW_t 736 (by decide +kernel) rfl
theorem ok_X5_beginHead : okD yX5_beginHead 0 := ⟨by decide +kernel, by decide +kernel, by decide +kernel⟩
theorem dX5_read_61 : decode cX5_read 61 = .ok (.aload_n 0, 1) := by decide +kernel
theorem dX5_read_62 : decode cX5_read 62 = .ok (.getfield 59, 3) := by decide +kernel
theorem dX5_read_65 : decode cX5_read 65 = .ok (.ifCond .eq 13, 3) := by decide +kernel
theorem dX5_read_78 : decode cX5_read 78 = .ok (.aload_n 0, 1) := by decide +kernel
theorem dX5_read_79 : decode cX5_read 79 = .ok (.invokevirtual 80, 3) := by decide +kernel
theorem lk_RX5_80 : Cond.methodLink RX5 80 yX5_readRule ∈ gW := gW_t 794 (by decide +kernel) rfl
theorem mI_X5_readRule : Cond.instanceMethod yX5_readRule ∈ gW := gW_t 796 (by decide +kernel) rfl
theorem mS_X5_readRule : Cond.selects RX5 yX5_readRule yX5_readRule ∈ gW := gW_p (q := (yX5_readRule, 10)) 22 (by decide +kernel)
theorem mC_X5_readRule : Cond.code yX5_readRule cX5_readRule 2 (some .boolean) ∈ gW := gW_t 797 (by decide +kernel) rfl
theorem ok_X5_readRule : okD yX5_readRule 0 := ⟨by decide +kernel, by decide +kernel, by decide +kernel⟩
theorem dX5_read_82 : decode cX5_read 82 = .ok (.ifCond .eq 14, 3) := by decide +kernel
theorem dX5_read_96 : decode cX5_read 96 = .ok (.iconst 0, 1) := by decide +kernel
theorem dX5_read_97 : decode cX5_read 97 = .ok (.istore_n 2, 1) := by decide +kernel
theorem dX5_read_98 : decode cX5_read 98 = .ok (.iload_n 2, 1) := by decide +kernel
theorem dX5_read_99 : decode cX5_read 99 = .ok (.ifCond .eq 51, 3) := by decide +kernel
theorem dX5_read_150 : decode cX5_read 150 = .ok (.iinc 4 1, 3) := by decide +kernel
theorem dX5_read_153 : decode cX5_read 153 = .ok (.goto (-111), 3) := by decide +kernel
theorem dX5_read_156 : decode cX5_read 156 = .ok (.aload_n 0, 1) := by decide +kernel
theorem dX5_read_157 : decode cX5_read 157 = .ok (.iload_n 3, 1) := by decide +kernel
theorem dX5_read_158 : decode cX5_read 158 = .ok (.ifCond .eq 7, 3) := by decide +kernel
theorem dX5_read_165 : decode cX5_read 165 = .ok (.aload_n 0, 1) := by decide +kernel
theorem dX5_read_166 : decode cX5_read 166 = .ok (.invokevirtual 93, 3) := by decide +kernel
theorem lk_RX5_93 : Cond.methodLink RX5 93 yX5_placeNow ∈ gW := gW_t 817 (by decide +kernel) rfl
theorem mI_X5_placeNow : Cond.instanceMethod yX5_placeNow ∈ gW := gW_t 819 (by decide +kernel) rfl
theorem mS_X5_placeNow : Cond.selects RX5 yX5_placeNow yX5_placeNow ∈ gW := gW_p (q := (yX5_placeNow, 10)) 27 (by decide +kernel)
theorem mC_X5_placeNow : Cond.code yX5_placeNow cX5_placeNow 1 (some .int) ∈ gW := gW_t 820 (by decide +kernel) rfl
theorem ok_X5_placeNow : okD yX5_placeNow 0 := ⟨by decide +kernel, by decide +kernel, by decide +kernel⟩
theorem dX5_read_169 : decode cX5_read 169 = .ok (.putfield 21, 3) := by decide +kernel
theorem fl_RX5_21 : Cond.fieldLink RX5 21 RX5 "faultPlace" "I" ∈ gW := gW_t 356 (by decide +kernel) rfl
theorem dX5_read_172 : decode cX5_read 172 = .ok (.aload_n 0, 1) := by decide +kernel
theorem dX5_read_173 : decode cX5_read 173 = .ok (.iconst 0, 1) := by decide +kernel
theorem dX5_read_174 : decode cX5_read 174 = .ok (.putfield 34, 3) := by decide +kernel
theorem dX5_read_177 : decode cX5_read 177 = .ok (.iload_n 3, 1) := by decide +kernel
theorem dX5_read_178 : decode cX5_read 178 = .ok (.ireturn, 1) := by decide +kernel
theorem dX5_read_68 : decode cX5_read 68 = .ok (.aload_n 0, 1) := by decide +kernel
theorem dX5_read_69 : decode cX5_read 69 = .ok (.invokevirtual 76, 3) := by decide +kernel
theorem lk_RX5_76 : Cond.methodLink RX5 76 yX5_readOrder ∈ gW := gW_t 745 (by decide +kernel) rfl
theorem mI_X5_readOrder : Cond.instanceMethod yX5_readOrder ∈ gW := gW_t 747 (by decide +kernel) rfl
theorem mS_X5_readOrder : Cond.selects RX5 yX5_readOrder yX5_readOrder ∈ gW := gW_p (q := (yX5_readOrder, 10)) 12 (by decide +kernel)
theorem mC_X5_readOrder : Cond.code yX5_readOrder cX5_readOrder 2 (some .boolean) ∈ gW := gW_t 748 (by decide +kernel) rfl
theorem ok_X5_readOrder : okD yX5_readOrder 0 := ⟨by decide +kernel, by decide +kernel, by decide +kernel⟩
theorem dX5_read_72 : decode cX5_read 72 = .ok (.ifCond .eq 24, 3) := by decide +kernel
def yX11_law : MethodName := ⟨RX11, "law", "()I"⟩
abbrev cX11_law : ByteArray := prog_1_method_14_code
theorem dX11_law_0 : decode cX11_law 0 = .ok (.aload_n 0, 1) := by decide +kernel
theorem dX11_law_1 : decode cX11_law 1 = .ok (.getfield 21, 3) := by decide +kernel
theorem dX11_law_4 : decode cX11_law 4 = .ok (.getfield 78, 3) := by decide +kernel
theorem dX11_law_7 : decode cX11_law 7 = .ok (.astore_n 1, 1) := by decide +kernel
theorem dX11_law_8 : decode cX11_law 8 = .ok (.aload_n 1, 1) := by decide +kernel
theorem dX11_law_9 : decode cX11_law 9 = .ok (.getfield 209, 3) := by decide +kernel
theorem fl_RX11_209 : Cond.fieldLink RX11 209 RX10 "lawCount" "I" ∈ gW := gW_t 235 (by decide +kernel) rfl
theorem dX11_law_12 : decode cX11_law 12 = .ok (.bipush 6, 2) := by decide +kernel
theorem dX11_law_14 : decode cX11_law 14 = .ok (.if_icmp .lt 18, 3) := by decide +kernel
theorem dX11_law_32 : decode cX11_law 32 = .ok (.aload_n 0, 1) := by decide +kernel
theorem dX11_law_33 : decode cX11_law 33 = .ok (.getfield 42, 3) := by decide +kernel
theorem dX11_law_36 : decode cX11_law 36 = .ok (.iconst 0, 1) := by decide +kernel
theorem dX11_law_37 : decode cX11_law 37 = .ok (.invokevirtual 212, 3) := by decide +kernel
theorem lk_RX11_212 : Cond.methodLink RX11 212 yX5_read ∈ gW := gW_t 663 (by decide +kernel) rfl
theorem mI_X5_read : Cond.instanceMethod yX5_read ∈ gW := gW_t 664 (by decide +kernel) rfl
theorem mS_X5_read : Cond.selects RX5 yX5_read yX5_read ∈ gW := gW_t 665 (by decide +kernel) rfl
theorem mC_X5_read : Cond.code yX5_read cX5_read 5 (some .boolean) ∈ gW := gW_t 666 (by decide +kernel) rfl
theorem ok_X5_read : okD yX5_read 1 := ⟨by decide +kernel, by decide +kernel, by decide +kernel⟩
theorem dX11_law_40 : decode cX11_law 40 = .ok (.ifCond .ne 10, 3) := by decide +kernel
theorem dX11_law_43 : decode cX11_law 43 = .ok (.aload_n 0, 1) := by decide +kernel
theorem dX11_law_44 : decode cX11_law 44 = .ok (.bipush (-6), 2) := by decide +kernel
theorem dX11_law_46 : decode cX11_law 46 = .ok (.invokevirtual 91, 3) := by decide +kernel
theorem dX11_law_49 : decode cX11_law 49 = .ok (.ireturn, 1) := by decide +kernel
def yX11_orders : MethodName := ⟨RX11, "orders", "()I"⟩
abbrev cX11_orders : ByteArray := prog_1_method_15_code
theorem dX11_orders_0 : decode cX11_orders 0 = .ok (.aload_n 0, 1) := by decide +kernel
theorem dX11_orders_1 : decode cX11_orders 1 = .ok (.iconst (-1), 1) := by decide +kernel
theorem dX11_orders_2 : decode cX11_orders 2 = .ok (.putfield 71, 3) := by decide +kernel
theorem dX11_orders_5 : decode cX11_orders 5 = .ok (.aload_n 0, 1) := by decide +kernel
theorem dX11_orders_6 : decode cX11_orders 6 = .ok (.getfield 42, 3) := by decide +kernel
theorem dX11_orders_9 : decode cX11_orders 9 = .ok (.iconst 1, 1) := by decide +kernel
theorem dX11_orders_10 : decode cX11_orders 10 = .ok (.invokevirtual 212, 3) := by decide +kernel
theorem dX11_orders_13 : decode cX11_orders 13 = .ok (.ifCond .ne 10, 3) := by decide +kernel
theorem dX11_orders_16 : decode cX11_orders 16 = .ok (.aload_n 0, 1) := by decide +kernel
theorem dX11_orders_17 : decode cX11_orders 17 = .ok (.bipush (-6), 2) := by decide +kernel
theorem dX11_orders_19 : decode cX11_orders 19 = .ok (.invokevirtual 91, 3) := by decide +kernel
theorem dX11_orders_22 : decode cX11_orders 22 = .ok (.ireturn, 1) := by decide +kernel
def yJ13_bitCount_95d88 : MethodName := ⟨RJ13, "bitCount", "(J)I"⟩
abbrev cJ13_bitCount_95d88 : ByteArray := prog_16_method_50_code
theorem dJ13_bitCount_95d88_0 : decode cJ13_bitCount_95d88 0 = .ok (.lload_n 0, 1) := by decide +kernel
theorem dJ13_bitCount_95d88_1 : decode cJ13_bitCount_95d88 1 = .ok (.lload_n 0, 1) := by decide +kernel
theorem dJ13_bitCount_95d88_2 : decode cJ13_bitCount_95d88 2 = .ok (.iconst 1, 1) := by decide +kernel
theorem dJ13_bitCount_95d88_3 : decode cJ13_bitCount_95d88 3 = .ok (.lushr, 1) := by decide +kernel
theorem dJ13_bitCount_95d88_4 : decode cJ13_bitCount_95d88 4 = .ok (.ldc2_w 314, 3) := by decide +kernel
theorem ct_RJ13_314 : Cond.constantLong RJ13 314 6148914691236517205 ∈ gW := gW_t 1081 (by decide +kernel) rfl
theorem dJ13_bitCount_95d88_7 : decode cJ13_bitCount_95d88 7 = .ok (.land, 1) := by decide +kernel
theorem dJ13_bitCount_95d88_8 : decode cJ13_bitCount_95d88 8 = .ok (.lsub, 1) := by decide +kernel
theorem dJ13_bitCount_95d88_9 : decode cJ13_bitCount_95d88 9 = .ok (.lstore_n 0, 1) := by decide +kernel
theorem dJ13_bitCount_95d88_10 : decode cJ13_bitCount_95d88 10 = .ok (.lload_n 0, 1) := by decide +kernel
theorem dJ13_bitCount_95d88_11 : decode cJ13_bitCount_95d88 11 = .ok (.ldc2_w 316, 3) := by decide +kernel
theorem ct_RJ13_316 : Cond.constantLong RJ13 316 3689348814741910323 ∈ gW := gW_t 1082 (by decide +kernel) rfl
theorem dJ13_bitCount_95d88_14 : decode cJ13_bitCount_95d88 14 = .ok (.land, 1) := by decide +kernel
theorem dJ13_bitCount_95d88_15 : decode cJ13_bitCount_95d88 15 = .ok (.lload_n 0, 1) := by decide +kernel
theorem dJ13_bitCount_95d88_16 : decode cJ13_bitCount_95d88 16 = .ok (.iconst 2, 1) := by decide +kernel
theorem dJ13_bitCount_95d88_17 : decode cJ13_bitCount_95d88 17 = .ok (.lushr, 1) := by decide +kernel
theorem dJ13_bitCount_95d88_18 : decode cJ13_bitCount_95d88 18 = .ok (.ldc2_w 316, 3) := by decide +kernel
theorem dJ13_bitCount_95d88_21 : decode cJ13_bitCount_95d88 21 = .ok (.land, 1) := by decide +kernel
theorem dJ13_bitCount_95d88_22 : decode cJ13_bitCount_95d88 22 = .ok (.ladd, 1) := by decide +kernel
theorem dJ13_bitCount_95d88_23 : decode cJ13_bitCount_95d88 23 = .ok (.lstore_n 0, 1) := by decide +kernel
theorem dJ13_bitCount_95d88_24 : decode cJ13_bitCount_95d88 24 = .ok (.lload_n 0, 1) := by decide +kernel
theorem dJ13_bitCount_95d88_25 : decode cJ13_bitCount_95d88 25 = .ok (.lload_n 0, 1) := by decide +kernel
theorem dJ13_bitCount_95d88_26 : decode cJ13_bitCount_95d88 26 = .ok (.iconst 4, 1) := by decide +kernel
theorem dJ13_bitCount_95d88_27 : decode cJ13_bitCount_95d88 27 = .ok (.lushr, 1) := by decide +kernel
theorem dJ13_bitCount_95d88_28 : decode cJ13_bitCount_95d88 28 = .ok (.ladd, 1) := by decide +kernel
theorem dJ13_bitCount_95d88_29 : decode cJ13_bitCount_95d88 29 = .ok (.ldc2_w 318, 3) := by decide +kernel
theorem ct_RJ13_318 : Cond.constantLong RJ13 318 1085102592571150095 ∈ gW := gW_t 1083 (by decide +kernel) rfl
theorem dJ13_bitCount_95d88_32 : decode cJ13_bitCount_95d88 32 = .ok (.land, 1) := by decide +kernel
theorem dJ13_bitCount_95d88_33 : decode cJ13_bitCount_95d88 33 = .ok (.lstore_n 0, 1) := by decide +kernel
theorem dJ13_bitCount_95d88_34 : decode cJ13_bitCount_95d88 34 = .ok (.lload_n 0, 1) := by decide +kernel
theorem dJ13_bitCount_95d88_35 : decode cJ13_bitCount_95d88 35 = .ok (.lload_n 0, 1) := by decide +kernel
theorem dJ13_bitCount_95d88_36 : decode cJ13_bitCount_95d88 36 = .ok (.bipush 8, 2) := by decide +kernel
theorem dJ13_bitCount_95d88_38 : decode cJ13_bitCount_95d88 38 = .ok (.lushr, 1) := by decide +kernel
theorem dJ13_bitCount_95d88_39 : decode cJ13_bitCount_95d88 39 = .ok (.ladd, 1) := by decide +kernel
theorem dJ13_bitCount_95d88_40 : decode cJ13_bitCount_95d88 40 = .ok (.lstore_n 0, 1) := by decide +kernel
theorem dJ13_bitCount_95d88_41 : decode cJ13_bitCount_95d88 41 = .ok (.lload_n 0, 1) := by decide +kernel
theorem dJ13_bitCount_95d88_42 : decode cJ13_bitCount_95d88 42 = .ok (.lload_n 0, 1) := by decide +kernel
theorem dJ13_bitCount_95d88_43 : decode cJ13_bitCount_95d88 43 = .ok (.bipush 16, 2) := by decide +kernel
theorem dJ13_bitCount_95d88_45 : decode cJ13_bitCount_95d88 45 = .ok (.lushr, 1) := by decide +kernel
theorem dJ13_bitCount_95d88_46 : decode cJ13_bitCount_95d88 46 = .ok (.ladd, 1) := by decide +kernel
theorem dJ13_bitCount_95d88_47 : decode cJ13_bitCount_95d88 47 = .ok (.lstore_n 0, 1) := by decide +kernel
theorem dJ13_bitCount_95d88_48 : decode cJ13_bitCount_95d88 48 = .ok (.lload_n 0, 1) := by decide +kernel
theorem dJ13_bitCount_95d88_49 : decode cJ13_bitCount_95d88 49 = .ok (.lload_n 0, 1) := by decide +kernel
theorem dJ13_bitCount_95d88_50 : decode cJ13_bitCount_95d88 50 = .ok (.bipush 32, 2) := by decide +kernel
theorem dJ13_bitCount_95d88_52 : decode cJ13_bitCount_95d88 52 = .ok (.lushr, 1) := by decide +kernel
theorem dJ13_bitCount_95d88_53 : decode cJ13_bitCount_95d88 53 = .ok (.ladd, 1) := by decide +kernel
theorem dJ13_bitCount_95d88_54 : decode cJ13_bitCount_95d88 54 = .ok (.lstore_n 0, 1) := by decide +kernel
theorem dJ13_bitCount_95d88_55 : decode cJ13_bitCount_95d88 55 = .ok (.lload_n 0, 1) := by decide +kernel
theorem dJ13_bitCount_95d88_56 : decode cJ13_bitCount_95d88 56 = .ok (.l2i, 1) := by decide +kernel
theorem dJ13_bitCount_95d88_57 : decode cJ13_bitCount_95d88 57 = .ok (.bipush 127, 2) := by decide +kernel
theorem dJ13_bitCount_95d88_59 : decode cJ13_bitCount_95d88 59 = .ok (.iand, 1) := by decide +kernel
theorem dJ13_bitCount_95d88_60 : decode cJ13_bitCount_95d88 60 = .ok (.ireturn, 1) := by decide +kernel
def yX11_count : MethodName := ⟨RX11, "count", "(I)I"⟩
abbrev cX11_count : ByteArray := prog_1_method_44_code
theorem dX11_count_0 : decode cX11_count 0 = .ok (.aload_n 0, 1) := by decide +kernel
theorem dX11_count_1 : decode cX11_count 1 = .ok (.getfield 21, 3) := by decide +kernel
theorem dX11_count_4 : decode cX11_count 4 = .ok (.getfield 78, 3) := by decide +kernel
theorem dX11_count_7 : decode cX11_count 7 = .ok (.astore_n 2, 1) := by decide +kernel
theorem dX11_count_8 : decode cX11_count 8 = .ok (.iload_n 1, 1) := by decide +kernel
theorem dX11_count_9 : decode cX11_count 9 = .ok (.tableswitch 224 0 17 #[87, 95, 103, 111, 122, 130, 138, 143, 154, 162, 169, 176, 183, 190, 198, 203, 210, 217], 87) := by decide +kernel
theorem dX11_count_96 : decode cX11_count 96 = .ok (.aload_n 2, 1) := by decide +kernel
theorem dX11_count_97 : decode cX11_count 97 = .ok (.getfield 134, 3) := by decide +kernel
theorem dX11_count_100 : decode cX11_count 100 = .ok (.getfield 137, 3) := by decide +kernel
theorem dX11_count_103 : decode cX11_count 103 = .ok (.ireturn, 1) := by decide +kernel
theorem dX11_count_104 : decode cX11_count 104 = .ok (.aload_n 2, 1) := by decide +kernel
theorem dX11_count_105 : decode cX11_count 105 = .ok (.getfield 156, 3) := by decide +kernel
theorem dX11_count_108 : decode cX11_count 108 = .ok (.getfield 160, 3) := by decide +kernel
theorem dX11_count_111 : decode cX11_count 111 = .ok (.ireturn, 1) := by decide +kernel
theorem dX11_count_112 : decode cX11_count 112 = .ok (.aload_n 2, 1) := by decide +kernel
theorem dX11_count_113 : decode cX11_count 113 = .ok (.getfield 156, 3) := by decide +kernel
theorem dX11_count_116 : decode cX11_count 116 = .ok (.getfield 169, 3) := by decide +kernel
theorem dX11_count_119 : decode cX11_count 119 = .ok (.ireturn, 1) := by decide +kernel
theorem dX11_count_120 : decode cX11_count 120 = .ok (.aload_n 2, 1) := by decide +kernel
theorem dX11_count_121 : decode cX11_count 121 = .ok (.getfield 95, 3) := by decide +kernel
theorem dX11_count_124 : decode cX11_count 124 = .ok (.getfield 383, 3) := by decide +kernel
theorem fl_RX11_383 : Cond.fieldLink RX11 383 RX6 "dug" "J" ∈ gW := gW_t 101 (by decide +kernel) rfl
theorem dX11_count_127 : decode cX11_count 127 = .ok (.invokestatic 308, 3) := by decide +kernel
theorem lk_RX11_308 : Cond.methodLink RX11 308 yJ13_bitCount_95d88 ∈ gW := gW_t 1078 (by decide +kernel) rfl
theorem mT_J13_bitCount_95d88 : Cond.static yJ13_bitCount_95d88 ∈ gW := gW_t 1079 (by decide +kernel) rfl
theorem mN_RJ13 : Cond.initialized RJ13 ∈ gW := gW_t 21 (by decide +kernel) rfl
theorem mC_J13_bitCount_95d88 : Cond.code yJ13_bitCount_95d88 cJ13_bitCount_95d88 2 (some .int) ∈ gW := gW_t 1080 (by decide +kernel) rfl
theorem ok_J13_bitCount_95d88 : okD yJ13_bitCount_95d88 1 := ⟨by decide +kernel, by decide +kernel, by decide +kernel⟩
theorem dX11_count_130 : decode cX11_count 130 = .ok (.ireturn, 1) := by decide +kernel
theorem dX11_count_131 : decode cX11_count 131 = .ok (.aload_n 2, 1) := by decide +kernel
theorem dX11_count_132 : decode cX11_count 132 = .ok (.getfield 156, 3) := by decide +kernel
theorem dX11_count_135 : decode cX11_count 135 = .ok (.getfield 329, 3) := by decide +kernel
theorem dX11_count_138 : decode cX11_count 138 = .ok (.ireturn, 1) := by decide +kernel
theorem dX11_count_139 : decode cX11_count 139 = .ok (.aload_n 2, 1) := by decide +kernel
theorem dX11_count_140 : decode cX11_count 140 = .ok (.getfield 156, 3) := by decide +kernel
theorem dX11_count_143 : decode cX11_count 143 = .ok (.getfield 335, 3) := by decide +kernel
theorem dX11_count_146 : decode cX11_count 146 = .ok (.ireturn, 1) := by decide +kernel
theorem dX11_count_147 : decode cX11_count 147 = .ok (.aload_n 2, 1) := by decide +kernel
theorem dX11_count_148 : decode cX11_count 148 = .ok (.getfield 209, 3) := by decide +kernel
theorem dX11_count_151 : decode cX11_count 151 = .ok (.ireturn, 1) := by decide +kernel
theorem dX11_count_152 : decode cX11_count 152 = .ok (.aload_n 0, 1) := by decide +kernel
theorem dX11_count_153 : decode cX11_count 153 = .ok (.getfield 21, 3) := by decide +kernel
theorem dX11_count_156 : decode cX11_count 156 = .ok (.getfield 107, 3) := by decide +kernel
theorem dX11_count_159 : decode cX11_count 159 = .ok (.getfield 387, 3) := by decide +kernel
theorem fl_RX11_387 : Cond.fieldLink RX11 387 RX2 "kept" "I" ∈ gW := gW_t 271 (by decide +kernel) rfl
theorem dX11_count_162 : decode cX11_count 162 = .ok (.ireturn, 1) := by decide +kernel
theorem dX11_count_163 : decode cX11_count 163 = .ok (.aload_n 0, 1) := by decide +kernel
theorem dX11_count_164 : decode cX11_count 164 = .ok (.getfield 42, 3) := by decide +kernel
theorem dX11_count_167 : decode cX11_count 167 = .ok (.getfield 196, 3) := by decide +kernel
theorem dX11_count_170 : decode cX11_count 170 = .ok (.ireturn, 1) := by decide +kernel
theorem dX11_count_171 : decode cX11_count 171 = .ok (.aload_n 0, 1) := by decide +kernel
theorem dX11_count_172 : decode cX11_count 172 = .ok (.getfield 74, 3) := by decide +kernel
theorem dX11_count_175 : decode cX11_count 175 = .ok (.iconst 1, 1) := by decide +kernel
theorem dX11_count_176 : decode cX11_count 176 = .ok (.iaload, 1) := by decide +kernel
theorem dX11_count_177 : decode cX11_count 177 = .ok (.ireturn, 1) := by decide +kernel
theorem dX11_count_178 : decode cX11_count 178 = .ok (.aload_n 0, 1) := by decide +kernel
theorem dX11_count_179 : decode cX11_count 179 = .ok (.getfield 74, 3) := by decide +kernel
theorem dX11_count_182 : decode cX11_count 182 = .ok (.iconst 2, 1) := by decide +kernel
theorem dX11_count_183 : decode cX11_count 183 = .ok (.iaload, 1) := by decide +kernel
theorem dX11_count_184 : decode cX11_count 184 = .ok (.ireturn, 1) := by decide +kernel
theorem dX11_count_185 : decode cX11_count 185 = .ok (.aload_n 0, 1) := by decide +kernel
theorem dX11_count_186 : decode cX11_count 186 = .ok (.getfield 74, 3) := by decide +kernel
theorem dX11_count_189 : decode cX11_count 189 = .ok (.iconst 3, 1) := by decide +kernel
theorem dX11_count_190 : decode cX11_count 190 = .ok (.iaload, 1) := by decide +kernel
theorem dX11_count_191 : decode cX11_count 191 = .ok (.ireturn, 1) := by decide +kernel
theorem dX11_count_192 : decode cX11_count 192 = .ok (.aload_n 0, 1) := by decide +kernel
theorem dX11_count_193 : decode cX11_count 193 = .ok (.getfield 74, 3) := by decide +kernel
theorem dX11_count_196 : decode cX11_count 196 = .ok (.iconst 5, 1) := by decide +kernel
theorem dX11_count_197 : decode cX11_count 197 = .ok (.iaload, 1) := by decide +kernel
theorem dX11_count_198 : decode cX11_count 198 = .ok (.ireturn, 1) := by decide +kernel
theorem dX11_count_199 : decode cX11_count 199 = .ok (.aload_n 0, 1) := by decide +kernel
theorem dX11_count_200 : decode cX11_count 200 = .ok (.getfield 74, 3) := by decide +kernel
theorem dX11_count_203 : decode cX11_count 203 = .ok (.bipush 6, 2) := by decide +kernel
theorem dX11_count_205 : decode cX11_count 205 = .ok (.iaload, 1) := by decide +kernel
theorem dX11_count_206 : decode cX11_count 206 = .ok (.ireturn, 1) := by decide +kernel
theorem dX11_count_207 : decode cX11_count 207 = .ok (.aload_n 2, 1) := by decide +kernel
theorem dX11_count_208 : decode cX11_count 208 = .ok (.getfield 246, 3) := by decide +kernel
theorem dX11_count_211 : decode cX11_count 211 = .ok (.ireturn, 1) := by decide +kernel
theorem dX11_count_212 : decode cX11_count 212 = .ok (.aload_n 2, 1) := by decide +kernel
theorem dX11_count_213 : decode cX11_count 213 = .ok (.getfield 193, 3) := by decide +kernel
theorem dX11_count_216 : decode cX11_count 216 = .ok (.iconst 0, 1) := by decide +kernel
theorem dX11_count_217 : decode cX11_count 217 = .ok (.iaload, 1) := by decide +kernel
theorem dX11_count_218 : decode cX11_count 218 = .ok (.ireturn, 1) := by decide +kernel
theorem dX11_count_219 : decode cX11_count 219 = .ok (.aload_n 2, 1) := by decide +kernel
theorem dX11_count_220 : decode cX11_count 220 = .ok (.getfield 193, 3) := by decide +kernel
theorem dX11_count_223 : decode cX11_count 223 = .ok (.iconst 1, 1) := by decide +kernel
theorem dX11_count_224 : decode cX11_count 224 = .ok (.iaload, 1) := by decide +kernel
theorem dX11_count_225 : decode cX11_count 225 = .ok (.ireturn, 1) := by decide +kernel
theorem dX11_count_226 : decode cX11_count 226 = .ok (.aload_n 2, 1) := by decide +kernel
theorem dX11_count_227 : decode cX11_count 227 = .ok (.getfield 193, 3) := by decide +kernel
theorem dX11_count_230 : decode cX11_count 230 = .ok (.iconst 2, 1) := by decide +kernel
theorem dX11_count_231 : decode cX11_count 231 = .ok (.iaload, 1) := by decide +kernel
theorem dX11_count_232 : decode cX11_count 232 = .ok (.ireturn, 1) := by decide +kernel
theorem dX11_count_233 : decode cX11_count 233 = .ok (.iconst (-1), 1) := by decide +kernel
theorem dX11_count_234 : decode cX11_count 234 = .ok (.ireturn, 1) := by decide +kernel
def yX3_measure : MethodName := ⟨RX3, "measure", "(LListenWells$World;LListenWells$Text;)V"⟩
abbrev cX3_measure : ByteArray := prog_5_method_2_code
theorem dX3_measure_0 : decode cX3_measure 0 = .ok (.aload_n 0, 1) := by decide +kernel
theorem dX3_measure_1 : decode cX3_measure 1 = .ok (.getfield 21, 3) := by decide +kernel
theorem fl_RX3_21 : Cond.fieldLink RX3 21 RX3 "asker" "LListenWells$Asker;" ∈ gW := gW_t 431 (by decide +kernel) rfl
theorem dX3_measure_4 : decode cX3_measure 4 = .ok (.aload_n 1, 1) := by decide +kernel
theorem dX3_measure_5 : decode cX3_measure 5 = .ok (.aload_n 2, 1) := by decide +kernel
theorem dX3_measure_6 : decode cX3_measure 6 = .ok (.invokevirtual 25, 3) := by decide +kernel
theorem lk_RX3_25 : Cond.methodLink RX3 25 yX0_turnTo ∈ gW := gW_t 987 (by decide +kernel) rfl
theorem dX3_measure_9 : decode cX3_measure 9 = .ok (.iconst 0, 1) := by decide +kernel
theorem dX3_measure_10 : decode cX3_measure 10 = .ok (.istore_n 3, 1) := by decide +kernel
theorem dX3_measure_11 : decode cX3_measure 11 = .ok (.iload_n 3, 1) := by decide +kernel
theorem dX3_measure_12 : decode cX3_measure 12 = .ok (.bipush 40, 2) := by decide +kernel
theorem dX3_measure_14 : decode cX3_measure 14 = .ok (.if_icmp .ge 27, 3) := by decide +kernel
theorem dX3_measure_17 : decode cX3_measure 17 = .ok (.aload_n 1, 1) := by decide +kernel
theorem dX3_measure_18 : decode cX3_measure 18 = .ok (.getfield 31, 3) := by decide +kernel
theorem fl_RX3_31 : Cond.fieldLink RX3 31 RX10 "rock" "LListenWells$Rock;" ∈ gW := gW_t 213 (by decide +kernel) rfl
theorem dX3_measure_21 : decode cX3_measure 21 = .ok (.getfield 37, 3) := by decide +kernel
theorem fl_RX3_37 : Cond.fieldLink RX3 37 RX6 "kind" "[I" ∈ gW := gW_t 88 (by decide +kernel) rfl
theorem dX3_measure_24 : decode cX3_measure 24 = .ok (.iload_n 3, 1) := by decide +kernel
theorem dX3_measure_25 : decode cX3_measure 25 = .ok (.iaload, 1) := by decide +kernel
theorem dX3_measure_26 : decode cX3_measure 26 = .ok (.iconst 3, 1) := by decide +kernel
theorem dX3_measure_27 : decode cX3_measure 27 = .ok (.if_icmp .ne 8, 3) := by decide +kernel
theorem dX3_measure_35 : decode cX3_measure 35 = .ok (.iinc 3 1, 3) := by decide +kernel
theorem dX3_measure_38 : decode cX3_measure 38 = .ok (.goto (-27), 3) := by decide +kernel
theorem dX3_measure_41 : decode cX3_measure 41 = .ok (.return_, 1) := by decide +kernel
def yX11_compare : MethodName := ⟨RX11, "compare", "(I)I"⟩
abbrev cX11_compare : ByteArray := prog_1_method_39_code
theorem dX11_compare_0 : decode cX11_compare 0 = .ok (.aload_n 0, 1) := by decide +kernel
theorem dX11_compare_1 : decode cX11_compare 1 = .ok (.getfield 21, 3) := by decide +kernel
theorem dX11_compare_4 : decode cX11_compare 4 = .ok (.getfield 78, 3) := by decide +kernel
theorem dX11_compare_7 : decode cX11_compare 7 = .ok (.astore_n 2, 1) := by decide +kernel
theorem dX11_compare_8 : decode cX11_compare 8 = .ok (.aload_n 2, 1) := by decide +kernel
theorem dX11_compare_9 : decode cX11_compare 9 = .ok (.iload_n 1, 1) := by decide +kernel
theorem dX11_compare_10 : decode cX11_compare 10 = .ok (.invokevirtual 243, 3) := by decide +kernel
theorem dX11_compare_13 : decode cX11_compare 13 = .ok (.ifCond .ne 5, 3) := by decide +kernel
theorem dX11_compare_18 : decode cX11_compare 18 = .ok (.aload_n 0, 1) := by decide +kernel
theorem dX11_compare_19 : decode cX11_compare 19 = .ok (.getfield 56, 3) := by decide +kernel
theorem fl_RX11_56 : Cond.fieldLink RX11 56 RX11 "ears" "LListenWells$Ears;" ∈ gW := gW_t 453 (by decide +kernel) rfl
theorem dX11_compare_22 : decode cX11_compare 22 = .ok (.aload_n 2, 1) := by decide +kernel
theorem dX11_compare_23 : decode cX11_compare 23 = .ok (.aload_n 2, 1) := by decide +kernel
theorem dX11_compare_24 : decode cX11_compare 24 = .ok (.iload_n 1, 1) := by decide +kernel
theorem dX11_compare_25 : decode cX11_compare 25 = .ok (.invokevirtual 366, 3) := by decide +kernel
theorem lk_RX11_366 : Cond.methodLink RX11 366 yX10_lawOf ∈ gW := gW_t 1208 (by decide +kernel) rfl
theorem dX11_compare_28 : decode cX11_compare 28 = .ok (.invokevirtual 270, 3) := by decide +kernel
theorem lk_RX11_270 : Cond.methodLink RX11 270 yX3_measure ∈ gW := gW_t 983 (by decide +kernel) rfl
theorem mI_X3_measure : Cond.instanceMethod yX3_measure ∈ gW := gW_t 984 (by decide +kernel) rfl
theorem mS_X3_measure : Cond.selects RX3 yX3_measure yX3_measure ∈ gW := gW_t 985 (by decide +kernel) rfl
theorem mN_RX3 : Cond.initialized RX3 ∈ gW := gW_t 14 (by decide +kernel) rfl
theorem mC_X3_measure : Cond.code yX3_measure cX3_measure 4 none ∈ gW := gW_t 986 (by decide +kernel) rfl
theorem ok_X3_measure : okD yX3_measure 2 := ⟨by decide +kernel, by decide +kernel, by decide +kernel⟩
theorem dX11_compare_31 : decode cX11_compare 31 = .ok (.iconst 0, 1) := by decide +kernel
theorem dX11_compare_32 : decode cX11_compare 32 = .ok (.istore_n 3, 1) := by decide +kernel
theorem dX11_compare_33 : decode cX11_compare 33 = .ok (.iconst 0, 1) := by decide +kernel
theorem dX11_compare_34 : decode cX11_compare 34 = .ok (.istore 4, 2) := by decide +kernel
theorem dX11_compare_36 : decode cX11_compare 36 = .ok (.iload 4, 2) := by decide +kernel
theorem dX11_compare_38 : decode cX11_compare 38 = .ok (.aload_n 2, 1) := by decide +kernel
theorem dX11_compare_39 : decode cX11_compare 39 = .ok (.getfield 156, 3) := by decide +kernel
theorem dX11_compare_42 : decode cX11_compare 42 = .ok (.getfield 160, 3) := by decide +kernel
theorem dX11_compare_45 : decode cX11_compare 45 = .ok (.if_icmp .ge 25, 3) := by decide +kernel
theorem dX11_compare_70 : decode cX11_compare 70 = .ok (.iload_n 3, 1) := by decide +kernel
theorem dX11_compare_71 : decode cX11_compare 71 = .ok (.ireturn, 1) := by decide +kernel
theorem dX11_compare_16 : decode cX11_compare 16 = .ok (.iconst (-1), 1) := by decide +kernel
theorem dX11_compare_17 : decode cX11_compare 17 = .ok (.ireturn, 1) := by decide +kernel
