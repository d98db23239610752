def yX12_four : MethodName := ⟨RX12, "four", "(I)V"⟩
abbrev cX12_four : ByteArray := prog_14_method_36_code
theorem dX12_four_0 : decode cX12_four 0 = .ok (.bipush 24, 2) := by decide +kernel
theorem dX12_four_2 : decode cX12_four 2 = .ok (.istore_n 2, 1) := by decide +kernel
theorem dX12_four_3 : decode cX12_four 3 = .ok (.iload_n 2, 1) := by decide +kernel
theorem dX12_four_4 : decode cX12_four 4 = .ok (.ifCond .lt 35, 3) := by decide +kernel
theorem dX12_four_7 : decode cX12_four 7 = .ok (.aload_n 0, 1) := by decide +kernel
theorem dX12_four_8 : decode cX12_four 8 = .ok (.getfield 35, 3) := by decide +kernel
theorem fl_RX12_35 : Cond.fieldLink RX12 35 RX12 "tape" "[I" ∈ gW := gW_t 1285 (by decide +kernel) rfl
theorem dX12_four_11 : decode cX12_four 11 = .ok (.aload_n 0, 1) := by decide +kernel
theorem dX12_four_12 : decode cX12_four 12 = .ok (.getfield 247, 3) := by decide +kernel
theorem dX12_four_15 : decode cX12_four 15 = .ok (.iload_n 1, 1) := by decide +kernel
theorem dX12_four_16 : decode cX12_four 16 = .ok (.iload_n 2, 1) := by decide +kernel
theorem dX12_four_17 : decode cX12_four 17 = .ok (.ishr, 1) := by decide +kernel
theorem dX12_four_18 : decode cX12_four 18 = .ok (.sipush 255, 3) := by decide +kernel
theorem dX12_four_21 : decode cX12_four 21 = .ok (.iand, 1) := by decide +kernel
theorem dX12_four_22 : decode cX12_four 22 = .ok (.iastore, 1) := by decide +kernel
theorem dX12_four_23 : decode cX12_four 23 = .ok (.aload_n 0, 1) := by decide +kernel
theorem dX12_four_24 : decode cX12_four 24 = .ok (.dup, 1) := by decide +kernel
theorem dX12_four_25 : decode cX12_four 25 = .ok (.getfield 247, 3) := by decide +kernel
theorem dX12_four_28 : decode cX12_four 28 = .ok (.iconst 1, 1) := by decide +kernel
theorem dX12_four_29 : decode cX12_four 29 = .ok (.iadd, 1) := by decide +kernel
theorem dX12_four_30 : decode cX12_four 30 = .ok (.putfield 247, 3) := by decide +kernel
theorem dX12_four_33 : decode cX12_four 33 = .ok (.iinc 2 (-8), 3) := by decide +kernel
theorem dX12_four_36 : decode cX12_four 36 = .ok (.goto (-33), 3) := by decide +kernel
theorem dX12_four_39 : decode cX12_four 39 = .ok (.return_, 1) := by decide +kernel
def yX12_feed : MethodName := ⟨RX12, "feed", "(IIIII)I"⟩
abbrev cX12_feed : ByteArray := prog_14_method_37_code
theorem dX12_feed_0 : decode cX12_feed 0 = .ok (.aload_n 0, 1) := by decide +kernel
theorem dX12_feed_1 : decode cX12_feed 1 = .ok (.iconst 0, 1) := by decide +kernel
theorem dX12_feed_2 : decode cX12_feed 2 = .ok (.putfield 156, 3) := by decide +kernel
theorem dX12_feed_5 : decode cX12_feed 5 = .ok (.aload_n 0, 1) := by decide +kernel
theorem dX12_feed_6 : decode cX12_feed 6 = .ok (.getfield 247, 3) := by decide +kernel
theorem dX12_feed_9 : decode cX12_feed 9 = .ok (.bipush 20, 2) := by decide +kernel
theorem dX12_feed_11 : decode cX12_feed 11 = .ok (.iadd, 1) := by decide +kernel
theorem dX12_feed_12 : decode cX12_feed 12 = .ok (.sipush 400, 3) := by decide +kernel
theorem dX12_feed_15 : decode cX12_feed 15 = .ok (.if_icmp .le 5, 3) := by decide +kernel
theorem dX12_feed_20 : decode cX12_feed 20 = .ok (.aload_n 0, 1) := by decide +kernel
theorem dX12_feed_21 : decode cX12_feed 21 = .ok (.iload_n 1, 1) := by decide +kernel
theorem dX12_feed_22 : decode cX12_feed 22 = .ok (.invokevirtual 253, 3) := by decide +kernel
theorem lk_RX12_253 : Cond.methodLink RX12 253 yX12_four ∈ gW := gW_t 1623 (by decide +kernel) rfl
theorem mI_X12_four : Cond.instanceMethod yX12_four ∈ gW := gW_t 1625 (by decide +kernel) rfl
theorem mS_X12_four : Cond.selects RX12 yX12_four yX12_four ∈ gW := gW_p (q := (yX12_four, 59)) 59 (by decide +kernel)
theorem mC_X12_four : Cond.code yX12_four cX12_four 3 none ∈ gW := gW_t 1626 (by decide +kernel) rfl
theorem ok_X12_four : okD yX12_four 1 := ⟨by decide +kernel, by decide +kernel, by decide +kernel⟩
theorem dX12_feed_25 : decode cX12_feed 25 = .ok (.aload_n 0, 1) := by decide +kernel
theorem dX12_feed_26 : decode cX12_feed 26 = .ok (.iload_n 2, 1) := by decide +kernel
theorem dX12_feed_27 : decode cX12_feed 27 = .ok (.invokevirtual 253, 3) := by decide +kernel
theorem dX12_feed_30 : decode cX12_feed 30 = .ok (.aload_n 0, 1) := by decide +kernel
theorem dX12_feed_31 : decode cX12_feed 31 = .ok (.iload_n 3, 1) := by decide +kernel
theorem dX12_feed_32 : decode cX12_feed 32 = .ok (.invokevirtual 253, 3) := by decide +kernel
theorem dX12_feed_35 : decode cX12_feed 35 = .ok (.aload_n 0, 1) := by decide +kernel
theorem dX12_feed_36 : decode cX12_feed 36 = .ok (.iload 4, 2) := by decide +kernel
theorem dX12_feed_38 : decode cX12_feed 38 = .ok (.invokevirtual 253, 3) := by decide +kernel
theorem dX12_feed_41 : decode cX12_feed 41 = .ok (.aload_n 0, 1) := by decide +kernel
theorem dX12_feed_42 : decode cX12_feed 42 = .ok (.iload 5, 2) := by decide +kernel
theorem dX12_feed_44 : decode cX12_feed 44 = .ok (.invokevirtual 253, 3) := by decide +kernel
theorem dX12_feed_47 : decode cX12_feed 47 = .ok (.aload_n 0, 1) := by decide +kernel
theorem dX12_feed_48 : decode cX12_feed 48 = .ok (.getfield 247, 3) := by decide +kernel
theorem dX12_feed_51 : decode cX12_feed 51 = .ok (.ireturn, 1) := by decide +kernel
def yX12_nextToken : MethodName := ⟨RX12, "nextToken", "()V"⟩
abbrev cX12_nextToken : ByteArray := prog_14_method_42_code
theorem dX12_nextToken_0 : decode cX12_nextToken 0 = .ok (.aload_n 0, 1) := by decide +kernel
theorem dX12_nextToken_1 : decode cX12_nextToken 1 = .ok (.aload_n 0, 1) := by decide +kernel
theorem dX12_nextToken_2 : decode cX12_nextToken 2 = .ok (.getfield 256, 3) := by decide +kernel
theorem fl_RX12_256 : Cond.fieldLink RX12 256 RX12 "to" "I" ∈ gW := gW_t 1288 (by decide +kernel) rfl
theorem dX12_nextToken_5 : decode cX12_nextToken 5 = .ok (.putfield 266, 3) := by decide +kernel
theorem fl_RX12_266 : Cond.fieldLink RX12 266 RX12 "from" "I" ∈ gW := gW_t 1287 (by decide +kernel) rfl
theorem dX12_nextToken_8 : decode cX12_nextToken 8 = .ok (.aload_n 0, 1) := by decide +kernel
theorem dX12_nextToken_9 : decode cX12_nextToken 9 = .ok (.getfield 266, 3) := by decide +kernel
theorem dX12_nextToken_12 : decode cX12_nextToken 12 = .ok (.aload_n 0, 1) := by decide +kernel
theorem dX12_nextToken_13 : decode cX12_nextToken 13 = .ok (.getfield 247, 3) := by decide +kernel
theorem dX12_nextToken_16 : decode cX12_nextToken 16 = .ok (.if_icmp .ge 30, 3) := by decide +kernel
theorem dX12_nextToken_46 : decode cX12_nextToken 46 = .ok (.aload_n 0, 1) := by decide +kernel
theorem dX12_nextToken_47 : decode cX12_nextToken 47 = .ok (.aload_n 0, 1) := by decide +kernel
theorem dX12_nextToken_48 : decode cX12_nextToken 48 = .ok (.getfield 266, 3) := by decide +kernel
theorem dX12_nextToken_51 : decode cX12_nextToken 51 = .ok (.putfield 256, 3) := by decide +kernel
theorem dX12_nextToken_54 : decode cX12_nextToken 54 = .ok (.aload_n 0, 1) := by decide +kernel
theorem dX12_nextToken_55 : decode cX12_nextToken 55 = .ok (.lconst 0, 1) := by decide +kernel
theorem dX12_nextToken_56 : decode cX12_nextToken 56 = .ok (.putfield 269, 3) := by decide +kernel
theorem fl_RX12_269 : Cond.fieldLink RX12 269 RX12 "worth" "J" ∈ gW := gW_t 1290 (by decide +kernel) rfl
theorem dX12_nextToken_59 : decode cX12_nextToken 59 = .ok (.aload_n 0, 1) := by decide +kernel
theorem dX12_nextToken_60 : decode cX12_nextToken 60 = .ok (.aload_n 0, 1) := by decide +kernel
theorem dX12_nextToken_61 : decode cX12_nextToken 61 = .ok (.getfield 266, 3) := by decide +kernel
theorem dX12_nextToken_64 : decode cX12_nextToken 64 = .ok (.aload_n 0, 1) := by decide +kernel
theorem dX12_nextToken_65 : decode cX12_nextToken 65 = .ok (.getfield 247, 3) := by decide +kernel
theorem dX12_nextToken_68 : decode cX12_nextToken 68 = .ok (.if_icmp .ne 7, 3) := by decide +kernel
theorem dX12_nextToken_71 : decode cX12_nextToken 71 = .ok (.iconst 0, 1) := by decide +kernel
theorem dX12_nextToken_72 : decode cX12_nextToken 72 = .ok (.goto 42, 3) := by decide +kernel
theorem dX12_nextToken_114 : decode cX12_nextToken 114 = .ok (.putfield 279, 3) := by decide +kernel
theorem fl_RX12_279 : Cond.fieldLink RX12 279 RX12 "sort" "I" ∈ gW := gW_t 1289 (by decide +kernel) rfl
theorem dX12_nextToken_117 : decode cX12_nextToken 117 = .ok (.aload_n 0, 1) := by decide +kernel
theorem dX12_nextToken_118 : decode cX12_nextToken 118 = .ok (.getfield 279, 3) := by decide +kernel
theorem dX12_nextToken_121 : decode cX12_nextToken 121 = .ok (.iconst 3, 1) := by decide +kernel
theorem dX12_nextToken_122 : decode cX12_nextToken 122 = .ok (.if_icmp .ne 27, 3) := by decide +kernel
theorem dX12_nextToken_149 : decode cX12_nextToken 149 = .ok (.aload_n 0, 1) := by decide +kernel
theorem dX12_nextToken_150 : decode cX12_nextToken 150 = .ok (.getfield 279, 3) := by decide +kernel
theorem dX12_nextToken_153 : decode cX12_nextToken 153 = .ok (.iconst 1, 1) := by decide +kernel
theorem dX12_nextToken_154 : decode cX12_nextToken 154 = .ok (.if_icmp .ne 89, 3) := by decide +kernel
theorem dX12_nextToken_243 : decode cX12_nextToken 243 = .ok (.aload_n 0, 1) := by decide +kernel
theorem dX12_nextToken_244 : decode cX12_nextToken 244 = .ok (.getfield 279, 3) := by decide +kernel
theorem dX12_nextToken_247 : decode cX12_nextToken 247 = .ok (.iconst 2, 1) := by decide +kernel
theorem dX12_nextToken_248 : decode cX12_nextToken 248 = .ok (.if_icmp .ne 87, 3) := by decide +kernel
theorem dX12_nextToken_335 : decode cX12_nextToken 335 = .ok (.return_, 1) := by decide +kernel
def yX12_begin : MethodName := ⟨RX12, "begin", "()V"⟩
abbrev cX12_begin : ByteArray := prog_14_method_41_code
theorem dX12_begin_0 : decode cX12_begin 0 = .ok (.aload_n 0, 1) := by decide +kernel
theorem dX12_begin_1 : decode cX12_begin 1 = .ok (.iconst 0, 1) := by decide +kernel
theorem dX12_begin_2 : decode cX12_begin 2 = .ok (.putfield 256, 3) := by decide +kernel
theorem dX12_begin_5 : decode cX12_begin 5 = .ok (.aload_n 0, 1) := by decide +kernel
theorem dX12_begin_6 : decode cX12_begin 6 = .ok (.iconst 0, 1) := by decide +kernel
theorem dX12_begin_7 : decode cX12_begin 7 = .ok (.putfield 259, 3) := by decide +kernel
theorem fl_RX12_259 : Cond.fieldLink RX12 259 RX12 "bad" "Z" ∈ gW := gW_t 1292 (by decide +kernel) rfl
theorem dX12_begin_10 : decode cX12_begin 10 = .ok (.aload_n 0, 1) := by decide +kernel
theorem dX12_begin_11 : decode cX12_begin 11 = .ok (.iconst (-1), 1) := by decide +kernel
theorem dX12_begin_12 : decode cX12_begin 12 = .ok (.putfield 38, 3) := by decide +kernel
theorem dX12_begin_15 : decode cX12_begin 15 = .ok (.aload_n 0, 1) := by decide +kernel
theorem dX12_begin_16 : decode cX12_begin 16 = .ok (.invokevirtual 263, 3) := by decide +kernel
theorem lk_RX12_263 : Cond.methodLink RX12 263 yX12_nextToken ∈ gW := gW_t 1647 (by decide +kernel) rfl
theorem mI_X12_nextToken : Cond.instanceMethod yX12_nextToken ∈ gW := gW_t 1649 (by decide +kernel) rfl
theorem mS_X12_nextToken : Cond.selects RX12 yX12_nextToken yX12_nextToken ∈ gW := gW_p (q := (yX12_nextToken, 59)) 62 (by decide +kernel)
theorem mC_X12_nextToken : Cond.code yX12_nextToken cX12_nextToken 1 none ∈ gW := gW_t 1650 (by decide +kernel) rfl
theorem ok_X12_nextToken : okD yX12_nextToken 0 := ⟨by decide +kernel, by decide +kernel, by decide +kernel⟩
theorem dX12_begin_19 : decode cX12_begin 19 = .ok (.return_, 1) := by decide +kernel
def yX12_beginText : MethodName := ⟨RX12, "beginText", "(Z)V"⟩
abbrev cX12_beginText : ByteArray := prog_14_method_63_code
theorem dX12_beginText_0 : decode cX12_beginText 0 = .ok (.aload_n 0, 1) := by decide +kernel
theorem dX12_beginText_1 : decode cX12_beginText 1 = .ok (.iload_n 1, 1) := by decide +kernel
theorem dX12_beginText_2 : decode cX12_beginText 2 = .ok (.putfield 334, 3) := by decide +kernel
theorem fl_RX12_334 : Cond.fieldLink RX12 334 RX12 "ordered" "Z" ∈ gW := gW_t 1293 (by decide +kernel) rfl
theorem dX12_beginText_5 : decode cX12_beginText 5 = .ok (.aload_n 0, 1) := by decide +kernel
theorem dX12_beginText_6 : decode cX12_beginText 6 = .ok (.invokevirtual 385, 3) := by decide +kernel
theorem lk_RX12_385 : Cond.methodLink RX12 385 yX12_begin ∈ gW := gW_t 1643 (by decide +kernel) rfl
theorem mI_X12_begin : Cond.instanceMethod yX12_begin ∈ gW := gW_t 1645 (by decide +kernel) rfl
theorem mS_X12_begin : Cond.selects RX12 yX12_begin yX12_begin ∈ gW := gW_p (q := (yX12_begin, 59)) 61 (by decide +kernel)
theorem mC_X12_begin : Cond.code yX12_begin cX12_begin 1 none ∈ gW := gW_t 1646 (by decide +kernel) rfl
theorem ok_X12_begin : okD yX12_begin 0 := ⟨by decide +kernel, by decide +kernel, by decide +kernel⟩
theorem dX12_beginText_9 : decode cX12_beginText 9 = .ok (.aload_n 0, 1) := by decide +kernel
theorem dX12_beginText_10 : decode cX12_beginText 10 = .ok (.iconst 0, 1) := by decide +kernel
theorem dX12_beginText_11 : decode cX12_beginText 11 = .ok (.putfield 388, 3) := by decide +kernel
theorem fl_RX12_388 : Cond.fieldLink RX12 388 RX12 "nClauses" "I" ∈ gW := gW_t 1294 (by decide +kernel) rfl
theorem dX12_beginText_14 : decode cX12_beginText 14 = .ok (.aload_n 0, 1) := by decide +kernel
theorem dX12_beginText_15 : decode cX12_beginText 15 = .ok (.iconst 0, 1) := by decide +kernel
theorem dX12_beginText_16 : decode cX12_beginText 16 = .ok (.putfield 296, 3) := by decide +kernel
theorem fl_RX12_296 : Cond.fieldLink RX12 296 RX12 "nCode" "I" ∈ gW := gW_t 1296 (by decide +kernel) rfl
theorem dX12_beginText_19 : decode cX12_beginText 19 = .ok (.aload_n 0, 1) := by decide +kernel
theorem dX12_beginText_20 : decode cX12_beginText 20 = .ok (.iconst 0, 1) := by decide +kernel
theorem dX12_beginText_21 : decode cX12_beginText 21 = .ok (.putfield 325, 3) := by decide +kernel
theorem fl_RX12_325 : Cond.fieldLink RX12 325 RX12 "nLeaves" "I" ∈ gW := gW_t 1299 (by decide +kernel) rfl
theorem dX12_beginText_24 : decode cX12_beginText 24 = .ok (.return_, 1) := by decide +kernel
def yX12_isWord : MethodName := ⟨RX12, "isWord", "(J)Z"⟩
abbrev cX12_isWord : ByteArray := prog_14_method_43_code
theorem dX12_isWord_0 : decode cX12_isWord 0 = .ok (.aload_n 0, 1) := by decide +kernel
theorem dX12_isWord_1 : decode cX12_isWord 1 = .ok (.getfield 279, 3) := by decide +kernel
theorem dX12_isWord_4 : decode cX12_isWord 4 = .ok (.iconst 1, 1) := by decide +kernel
theorem dX12_isWord_5 : decode cX12_isWord 5 = .ok (.if_icmp .ne 16, 3) := by decide +kernel
theorem dX12_isWord_21 : decode cX12_isWord 21 = .ok (.iconst 0, 1) := by decide +kernel
theorem dX12_isWord_22 : decode cX12_isWord 22 = .ok (.ireturn, 1) := by decide +kernel
def yX12_must : MethodName := ⟨RX12, "must", "(Z)V"⟩
abbrev cX12_must : ByteArray := prog_14_method_45_code
theorem dX12_must_0 : decode cX12_must 0 = .ok (.aload_n 0, 1) := by decide +kernel
theorem dX12_must_1 : decode cX12_must 1 = .ok (.getfield 259, 3) := by decide +kernel
theorem dX12_must_4 : decode cX12_must 4 = .ok (.ifCond .ne 20, 3) := by decide +kernel
theorem dX12_must_7 : decode cX12_must 7 = .ok (.iload_n 1, 1) := by decide +kernel
theorem dX12_must_8 : decode cX12_must 8 = .ok (.ifCond .ne 16, 3) := by decide +kernel
theorem dX12_must_11 : decode cX12_must 11 = .ok (.aload_n 0, 1) := by decide +kernel
theorem dX12_must_12 : decode cX12_must 12 = .ok (.iconst 1, 1) := by decide +kernel
theorem dX12_must_13 : decode cX12_must 13 = .ok (.putfield 259, 3) := by decide +kernel
theorem dX12_must_16 : decode cX12_must 16 = .ok (.aload_n 0, 1) := by decide +kernel
theorem dX12_must_17 : decode cX12_must 17 = .ok (.aload_n 0, 1) := by decide +kernel
theorem dX12_must_18 : decode cX12_must 18 = .ok (.getfield 266, 3) := by decide +kernel
theorem dX12_must_21 : decode cX12_must 21 = .ok (.putfield 38, 3) := by decide +kernel
theorem dX12_must_24 : decode cX12_must 24 = .ok (.aload_n 0, 1) := by decide +kernel
theorem dX12_must_25 : decode cX12_must 25 = .ok (.getfield 259, 3) := by decide +kernel
theorem dX12_must_28 : decode cX12_must 28 = .ok (.ifCond .ne 7, 3) := by decide +kernel
theorem dX12_must_35 : decode cX12_must 35 = .ok (.return_, 1) := by decide +kernel
def yX12_endText : MethodName := ⟨RX12, "endText", "()V"⟩
abbrev cX12_endText : ByteArray := prog_14_method_64_code
theorem dX12_endText_0 : decode cX12_endText 0 = .ok (.aload_n 0, 1) := by decide +kernel
theorem dX12_endText_1 : decode cX12_endText 1 = .ok (.getfield 259, 3) := by decide +kernel
theorem dX12_endText_4 : decode cX12_endText 4 = .ok (.ifCond .ne 15, 3) := by decide +kernel
theorem dX12_endText_19 : decode cX12_endText 19 = .ok (.aload_n 0, 1) := by decide +kernel
theorem dX12_endText_20 : decode cX12_endText 20 = .ok (.iconst 0, 1) := by decide +kernel
theorem dX12_endText_21 : decode cX12_endText 21 = .ok (.putfield 334, 3) := by decide +kernel
theorem dX12_endText_24 : decode cX12_endText 24 = .ok (.aload_n 0, 1) := by decide +kernel
theorem dX12_endText_25 : decode cX12_endText 25 = .ok (.iconst 0, 1) := by decide +kernel
theorem dX12_endText_26 : decode cX12_endText 26 = .ok (.putfield 247, 3) := by decide +kernel
theorem dX12_endText_29 : decode cX12_endText 29 = .ok (.return_, 1) := by decide +kernel
def yX12_readLaw : MethodName := ⟨RX12, "readLaw", "()V"⟩
abbrev cX12_readLaw : ByteArray := prog_14_method_65_code
theorem dX12_readLaw_0 : decode cX12_readLaw 0 = .ok (.iconst (-1), 1) := by decide +kernel
theorem dX12_readLaw_1 : decode cX12_readLaw 1 = .ok (.istore_n 1, 1) := by decide +kernel
theorem dX12_readLaw_2 : decode cX12_readLaw 2 = .ok (.iconst 0, 1) := by decide +kernel
theorem dX12_readLaw_3 : decode cX12_readLaw 3 = .ok (.istore_n 2, 1) := by decide +kernel
theorem dX12_readLaw_4 : decode cX12_readLaw 4 = .ok (.iload_n 2, 1) := by decide +kernel
theorem dX12_readLaw_5 : decode cX12_readLaw 5 = .ok (.iconst 5, 1) := by decide +kernel
theorem dX12_readLaw_6 : decode cX12_readLaw 6 = .ok (.if_icmp .ge 28, 3) := by decide +kernel
theorem dX12_readLaw_9 : decode cX12_readLaw 9 = .ok (.aload_n 0, 1) := by decide +kernel
theorem dX12_readLaw_10 : decode cX12_readLaw 10 = .ok (.aload_n 0, 1) := by decide +kernel
theorem dX12_readLaw_11 : decode cX12_readLaw 11 = .ok (.getfield 100, 3) := by decide +kernel
theorem fl_RX12_100 : Cond.fieldLink RX12 100 RX12 "heads" "[J" ∈ gW := gW_t 1306 (by decide +kernel) rfl
theorem dX12_readLaw_14 : decode cX12_readLaw 14 = .ok (.iload_n 2, 1) := by decide +kernel
theorem dX12_readLaw_15 : decode cX12_readLaw 15 = .ok (.laload, 1) := by decide +kernel
theorem dX12_readLaw_16 : decode cX12_readLaw 16 = .ok (.invokevirtual 315, 3) := by decide +kernel
theorem lk_RX12_315 : Cond.methodLink RX12 315 yX12_isWord ∈ gW := gW_t 1665 (by decide +kernel) rfl
theorem mI_X12_isWord : Cond.instanceMethod yX12_isWord ∈ gW := gW_t 1667 (by decide +kernel) rfl
theorem mS_X12_isWord : Cond.selects RX12 yX12_isWord yX12_isWord ∈ gW := gW_p (q := (yX12_isWord, 59)) 64 (by decide +kernel)
theorem mC_X12_isWord : Cond.code yX12_isWord cX12_isWord 3 (some .boolean) ∈ gW := gW_t 1668 (by decide +kernel) rfl
theorem ok_X12_isWord : okD yX12_isWord 1 := ⟨by decide +kernel, by decide +kernel, by decide +kernel⟩
theorem dX12_readLaw_19 : decode cX12_readLaw 19 = .ok (.ifCond .eq 7, 3) := by decide +kernel
theorem dX12_readLaw_26 : decode cX12_readLaw 26 = .ok (.iload_n 1, 1) := by decide +kernel
theorem dX12_readLaw_27 : decode cX12_readLaw 27 = .ok (.istore_n 1, 1) := by decide +kernel
theorem dX12_readLaw_28 : decode cX12_readLaw 28 = .ok (.iinc 2 1, 3) := by decide +kernel
theorem dX12_readLaw_31 : decode cX12_readLaw 31 = .ok (.goto (-27), 3) := by decide +kernel
theorem dX12_readLaw_34 : decode cX12_readLaw 34 = .ok (.aload_n 0, 1) := by decide +kernel
theorem dX12_readLaw_35 : decode cX12_readLaw 35 = .ok (.iload_n 1, 1) := by decide +kernel
theorem dX12_readLaw_36 : decode cX12_readLaw 36 = .ok (.iconst (-1), 1) := by decide +kernel
theorem dX12_readLaw_37 : decode cX12_readLaw 37 = .ok (.if_icmp .eq 16, 3) := by decide +kernel
theorem dX12_readLaw_53 : decode cX12_readLaw 53 = .ok (.iconst 0, 1) := by decide +kernel
theorem dX12_readLaw_54 : decode cX12_readLaw 54 = .ok (.invokevirtual 292, 3) := by decide +kernel
theorem lk_RX12_292 : Cond.methodLink RX12 292 yX12_must ∈ gW := gW_t 1669 (by decide +kernel) rfl
theorem mI_X12_must : Cond.instanceMethod yX12_must ∈ gW := gW_t 1671 (by decide +kernel) rfl
theorem mS_X12_must : Cond.selects RX12 yX12_must yX12_must ∈ gW := gW_p (q := (yX12_must, 59)) 65 (by decide +kernel)
theorem mC_X12_must : Cond.code yX12_must cX12_must 2 none ∈ gW := gW_t 1672 (by decide +kernel) rfl
theorem ok_X12_must : okD yX12_must 1 := ⟨by decide +kernel, by decide +kernel, by decide +kernel⟩
theorem dX12_readLaw_57 : decode cX12_readLaw 57 = .ok (.aload_n 0, 1) := by decide +kernel
theorem dX12_readLaw_58 : decode cX12_readLaw 58 = .ok (.getfield 259, 3) := by decide +kernel
theorem dX12_readLaw_61 : decode cX12_readLaw 61 = .ok (.ifCond .eq 4, 3) := by decide +kernel
theorem dX12_readLaw_64 : decode cX12_readLaw 64 = .ok (.return_, 1) := by decide +kernel
def yX12_readOrder : MethodName := ⟨RX12, "readOrder", "()V"⟩
abbrev cX12_readOrder : ByteArray := prog_14_method_126_code
theorem dX12_readOrder_0 : decode cX12_readOrder 0 = .ok (.iconst (-1), 1) := by decide +kernel
theorem dX12_readOrder_1 : decode cX12_readOrder 1 = .ok (.istore_n 1, 1) := by decide +kernel
theorem dX12_readOrder_2 : decode cX12_readOrder 2 = .ok (.iconst 0, 1) := by decide +kernel
theorem dX12_readOrder_3 : decode cX12_readOrder 3 = .ok (.istore_n 2, 1) := by decide +kernel
theorem dX12_readOrder_4 : decode cX12_readOrder 4 = .ok (.iload_n 2, 1) := by decide +kernel
theorem dX12_readOrder_5 : decode cX12_readOrder 5 = .ok (.iconst 4, 1) := by decide +kernel
theorem dX12_readOrder_6 : decode cX12_readOrder 6 = .ok (.if_icmp .ge 28, 3) := by decide +kernel
theorem dX12_readOrder_9 : decode cX12_readOrder 9 = .ok (.aload_n 0, 1) := by decide +kernel
theorem dX12_readOrder_10 : decode cX12_readOrder 10 = .ok (.aload_n 0, 1) := by decide +kernel
theorem dX12_readOrder_11 : decode cX12_readOrder 11 = .ok (.getfield 141, 3) := by decide +kernel
theorem fl_RX12_141 : Cond.fieldLink RX12 141 RX12 "acts" "[J" ∈ gW := gW_t 1322 (by decide +kernel) rfl
theorem dX12_readOrder_14 : decode cX12_readOrder 14 = .ok (.iload_n 2, 1) := by decide +kernel
theorem dX12_readOrder_15 : decode cX12_readOrder 15 = .ok (.laload, 1) := by decide +kernel
theorem dX12_readOrder_16 : decode cX12_readOrder 16 = .ok (.invokevirtual 315, 3) := by decide +kernel
theorem dX12_readOrder_19 : decode cX12_readOrder 19 = .ok (.ifCond .eq 7, 3) := by decide +kernel
theorem dX12_readOrder_26 : decode cX12_readOrder 26 = .ok (.iload_n 1, 1) := by decide +kernel
theorem dX12_readOrder_27 : decode cX12_readOrder 27 = .ok (.istore_n 1, 1) := by decide +kernel
theorem dX12_readOrder_28 : decode cX12_readOrder 28 = .ok (.iinc 2 1, 3) := by decide +kernel
theorem dX12_readOrder_31 : decode cX12_readOrder 31 = .ok (.goto (-27), 3) := by decide +kernel
theorem dX12_readOrder_34 : decode cX12_readOrder 34 = .ok (.aload_n 0, 1) := by decide +kernel
theorem dX12_readOrder_35 : decode cX12_readOrder 35 = .ok (.iload_n 1, 1) := by decide +kernel
theorem dX12_readOrder_36 : decode cX12_readOrder 36 = .ok (.iconst (-1), 1) := by decide +kernel
theorem dX12_readOrder_37 : decode cX12_readOrder 37 = .ok (.if_icmp .eq 16, 3) := by decide +kernel
theorem dX12_readOrder_53 : decode cX12_readOrder 53 = .ok (.iconst 0, 1) := by decide +kernel
theorem dX12_readOrder_54 : decode cX12_readOrder 54 = .ok (.invokevirtual 292, 3) := by decide +kernel
theorem dX12_readOrder_57 : decode cX12_readOrder 57 = .ok (.aload_n 0, 1) := by decide +kernel
theorem dX12_readOrder_58 : decode cX12_readOrder 58 = .ok (.getfield 259, 3) := by decide +kernel
theorem dX12_readOrder_61 : decode cX12_readOrder 61 = .ok (.ifCond .eq 4, 3) := by decide +kernel
theorem dX12_readOrder_64 : decode cX12_readOrder 64 = .ok (.return_, 1) := by decide +kernel
def yX12_law : MethodName := ⟨RX12, "law", "()I"⟩
abbrev cX12_law : ByteArray := prog_14_method_66_code
theorem dX12_law_0 : decode cX12_law 0 = .ok (.aload_n 0, 1) := by decide +kernel
theorem dX12_law_1 : decode cX12_law 1 = .ok (.iconst 0, 1) := by decide +kernel
theorem dX12_law_2 : decode cX12_law 2 = .ok (.putfield 156, 3) := by decide +kernel
theorem dX12_law_5 : decode cX12_law 5 = .ok (.aload_n 0, 1) := by decide +kernel
theorem dX12_law_6 : decode cX12_law 6 = .ok (.getfield 13, 3) := by decide +kernel
theorem dX12_law_9 : decode cX12_law 9 = .ok (.iconst 5, 1) := by decide +kernel
theorem dX12_law_10 : decode cX12_law 10 = .ok (.iaload, 1) := by decide +kernel
theorem dX12_law_11 : decode cX12_law 11 = .ok (.bipush 6, 2) := by decide +kernel
theorem dX12_law_13 : decode cX12_law 13 = .ok (.if_icmp .ne 15, 3) := by decide +kernel
theorem dX12_law_28 : decode cX12_law 28 = .ok (.aload_n 0, 1) := by decide +kernel
theorem dX12_law_29 : decode cX12_law 29 = .ok (.iconst 0, 1) := by decide +kernel
theorem dX12_law_30 : decode cX12_law 30 = .ok (.invokevirtual 396, 3) := by decide +kernel
theorem lk_RX12_396 : Cond.methodLink RX12 396 yX12_beginText ∈ gW := gW_t 1639 (by decide +kernel) rfl
theorem mI_X12_beginText : Cond.instanceMethod yX12_beginText ∈ gW := gW_t 1641 (by decide +kernel) rfl
theorem mS_X12_beginText : Cond.selects RX12 yX12_beginText yX12_beginText ∈ gW := gW_p (q := (yX12_beginText, 59)) 60 (by decide +kernel)
theorem mC_X12_beginText : Cond.code yX12_beginText cX12_beginText 2 none ∈ gW := gW_t 1642 (by decide +kernel) rfl
theorem ok_X12_beginText : okD yX12_beginText 1 := ⟨by decide +kernel, by decide +kernel, by decide +kernel⟩
theorem dX12_law_33 : decode cX12_law 33 = .ok (.aload_n 0, 1) := by decide +kernel
theorem dX12_law_34 : decode cX12_law 34 = .ok (.invokevirtual 399, 3) := by decide +kernel
theorem lk_RX12_399 : Cond.methodLink RX12 399 yX12_readLaw ∈ gW := gW_t 1661 (by decide +kernel) rfl
theorem mI_X12_readLaw : Cond.instanceMethod yX12_readLaw ∈ gW := gW_t 1663 (by decide +kernel) rfl
theorem mS_X12_readLaw : Cond.selects RX12 yX12_readLaw yX12_readLaw ∈ gW := gW_p (q := (yX12_readLaw, 59)) 63 (by decide +kernel)
theorem mC_X12_readLaw : Cond.code yX12_readLaw cX12_readLaw 4 none ∈ gW := gW_t 1664 (by decide +kernel) rfl
theorem ok_X12_readLaw : okD yX12_readLaw 0 := ⟨by decide +kernel, by decide +kernel, by decide +kernel⟩
theorem dX12_law_37 : decode cX12_law 37 = .ok (.aload_n 0, 1) := by decide +kernel
theorem dX12_law_38 : decode cX12_law 38 = .ok (.getfield 259, 3) := by decide +kernel
theorem dX12_law_41 : decode cX12_law 41 = .ok (.ifCond .ne 23, 3) := by decide +kernel
theorem dX12_law_64 : decode cX12_law 64 = .ok (.aload_n 0, 1) := by decide +kernel
theorem dX12_law_65 : decode cX12_law 65 = .ok (.invokevirtual 402, 3) := by decide +kernel
theorem lk_RX12_402 : Cond.methodLink RX12 402 yX12_endText ∈ gW := gW_t 1749 (by decide +kernel) rfl
theorem mI_X12_endText : Cond.instanceMethod yX12_endText ∈ gW := gW_t 1751 (by decide +kernel) rfl
theorem mS_X12_endText : Cond.selects RX12 yX12_endText yX12_endText ∈ gW := gW_p (q := (yX12_endText, 59)) 82 (by decide +kernel)
theorem mC_X12_endText : Cond.code yX12_endText cX12_endText 1 none ∈ gW := gW_t 1752 (by decide +kernel) rfl
theorem ok_X12_endText : okD yX12_endText 0 := ⟨by decide +kernel, by decide +kernel, by decide +kernel⟩
theorem dX12_law_68 : decode cX12_law 68 = .ok (.aload_n 0, 1) := by decide +kernel
theorem dX12_law_69 : decode cX12_law 69 = .ok (.getfield 259, 3) := by decide +kernel
theorem dX12_law_72 : decode cX12_law 72 = .ok (.ifCond .eq 10, 3) := by decide +kernel
theorem dX12_law_75 : decode cX12_law 75 = .ok (.aload_n 0, 1) := by decide +kernel
theorem dX12_law_76 : decode cX12_law 76 = .ok (.bipush (-6), 2) := by decide +kernel
theorem dX12_law_78 : decode cX12_law 78 = .ok (.invokevirtual 169, 3) := by decide +kernel
theorem dX12_law_81 : decode cX12_law 81 = .ok (.ireturn, 1) := by decide +kernel
def yX12_orders : MethodName := ⟨RX12, "orders", "()I"⟩
abbrev cX12_orders : ByteArray := prog_14_method_130_code
theorem dX12_orders_0 : decode cX12_orders 0 = .ok (.aload_n 0, 1) := by decide +kernel
theorem dX12_orders_1 : decode cX12_orders 1 = .ok (.iconst 0, 1) := by decide +kernel
theorem dX12_orders_2 : decode cX12_orders 2 = .ok (.putfield 156, 3) := by decide +kernel
theorem dX12_orders_5 : decode cX12_orders 5 = .ok (.aload_n 0, 1) := by decide +kernel
theorem dX12_orders_6 : decode cX12_orders 6 = .ok (.iconst (-1), 1) := by decide +kernel
theorem dX12_orders_7 : decode cX12_orders 7 = .ok (.putfield 147, 3) := by decide +kernel
theorem dX12_orders_10 : decode cX12_orders 10 = .ok (.aload_n 0, 1) := by decide +kernel
theorem dX12_orders_11 : decode cX12_orders 11 = .ok (.iconst 1, 1) := by decide +kernel
theorem dX12_orders_12 : decode cX12_orders 12 = .ok (.invokevirtual 396, 3) := by decide +kernel
theorem dX12_orders_15 : decode cX12_orders 15 = .ok (.aload_n 0, 1) := by decide +kernel
theorem dX12_orders_16 : decode cX12_orders 16 = .ok (.invokevirtual 582, 3) := by decide +kernel
theorem lk_RX12_582 : Cond.methodLink RX12 582 yX12_readOrder ∈ gW := gW_t 1961 (by decide +kernel) rfl
theorem mI_X12_readOrder : Cond.instanceMethod yX12_readOrder ∈ gW := gW_t 1963 (by decide +kernel) rfl
theorem mS_X12_readOrder : Cond.selects RX12 yX12_readOrder yX12_readOrder ∈ gW := gW_p (q := (yX12_readOrder, 59)) 110 (by decide +kernel)
theorem mC_X12_readOrder : Cond.code yX12_readOrder cX12_readOrder 4 none ∈ gW := gW_t 1964 (by decide +kernel) rfl
theorem ok_X12_readOrder : okD yX12_readOrder 0 := ⟨by decide +kernel, by decide +kernel, by decide +kernel⟩
theorem dX12_orders_19 : decode cX12_orders 19 = .ok (.aload_n 0, 1) := by decide +kernel
theorem dX12_orders_20 : decode cX12_orders 20 = .ok (.getfield 259, 3) := by decide +kernel
theorem dX12_orders_23 : decode cX12_orders 23 = .ok (.ifCond .ne 23, 3) := by decide +kernel
theorem dX12_orders_46 : decode cX12_orders 46 = .ok (.aload_n 0, 1) := by decide +kernel
theorem dX12_orders_47 : decode cX12_orders 47 = .ok (.invokevirtual 402, 3) := by decide +kernel
theorem dX12_orders_50 : decode cX12_orders 50 = .ok (.aload_n 0, 1) := by decide +kernel
theorem dX12_orders_51 : decode cX12_orders 51 = .ok (.getfield 259, 3) := by decide +kernel
theorem dX12_orders_54 : decode cX12_orders 54 = .ok (.ifCond .eq 10, 3) := by decide +kernel
theorem dX12_orders_57 : decode cX12_orders 57 = .ok (.aload_n 0, 1) := by decide +kernel
theorem dX12_orders_58 : decode cX12_orders 58 = .ok (.bipush (-6), 2) := by decide +kernel
theorem dX12_orders_60 : decode cX12_orders 60 = .ok (.invokevirtual 169, 3) := by decide +kernel
theorem dX12_orders_63 : decode cX12_orders 63 = .ok (.ireturn, 1) := by decide +kernel
def yX12_ones : MethodName := ⟨RX12, "ones", "(J)I"⟩
abbrev cX12_ones : ByteArray := prog_14_method_5_code
theorem dX12_ones_0 : decode cX12_ones 0 = .ok (.iconst 0, 1) := by decide +kernel
theorem dX12_ones_1 : decode cX12_ones 1 = .ok (.istore_n 2, 1) := by decide +kernel
theorem dX12_ones_2 : decode cX12_ones 2 = .ok (.iconst 0, 1) := by decide +kernel
theorem dX12_ones_3 : decode cX12_ones 3 = .ok (.istore_n 3, 1) := by decide +kernel
theorem dX12_ones_4 : decode cX12_ones 4 = .ok (.iload_n 3, 1) := by decide +kernel
theorem dX12_ones_5 : decode cX12_ones 5 = .ok (.bipush 40, 2) := by decide +kernel
theorem dX12_ones_7 : decode cX12_ones 7 = .ok (.if_icmp .ge 25, 3) := by decide +kernel
theorem dX12_ones_10 : decode cX12_ones 10 = .ok (.iload_n 2, 1) := by decide +kernel
theorem dX12_ones_11 : decode cX12_ones 11 = .ok (.lload_n 0, 1) := by decide +kernel
theorem dX12_ones_12 : decode cX12_ones 12 = .ok (.iload_n 3, 1) := by decide +kernel
theorem dX12_ones_13 : decode cX12_ones 13 = .ok (.invokestatic 159, 3) := by decide +kernel
theorem lk_RX12_159 : Cond.methodLink RX12 159 yX12_is ∈ gW := gW_t 1571 (by decide +kernel) rfl
theorem mT_X12_is : Cond.static yX12_is ∈ gW := gW_t 1572 (by decide +kernel) rfl
theorem mC_X12_is : Cond.code yX12_is cX12_is 3 (some .boolean) ∈ gW := gW_t 1573 (by decide +kernel) rfl
theorem ok_X12_is : okD yX12_is 2 := ⟨by decide +kernel, by decide +kernel, by decide +kernel⟩
theorem dX12_ones_16 : decode cX12_ones 16 = .ok (.ifCond .eq 7, 3) := by decide +kernel
theorem dX12_ones_23 : decode cX12_ones 23 = .ok (.iconst 0, 1) := by decide +kernel
theorem dX12_ones_24 : decode cX12_ones 24 = .ok (.iadd, 1) := by decide +kernel
theorem dX12_ones_25 : decode cX12_ones 25 = .ok (.istore_n 2, 1) := by decide +kernel
theorem dX12_ones_26 : decode cX12_ones 26 = .ok (.iinc 3 1, 3) := by decide +kernel
theorem dX12_ones_29 : decode cX12_ones 29 = .ok (.goto (-25), 3) := by decide +kernel
theorem dX12_ones_19 : decode cX12_ones 19 = .ok (.iconst 1, 1) := by decide +kernel
theorem dX12_ones_20 : decode cX12_ones 20 = .ok (.goto 4, 3) := by decide +kernel
theorem dX12_ones_32 : decode cX12_ones 32 = .ok (.iload_n 2, 1) := by decide +kernel
theorem dX12_ones_33 : decode cX12_ones 33 = .ok (.ireturn, 1) := by decide +kernel
def yX12_tongue : MethodName := ⟨RX12, "tongue", "(I)I"⟩
abbrev cX12_tongue : ByteArray := prog_14_method_116_code
theorem dX12_tongue_0 : decode cX12_tongue 0 = .ok (.aload_n 0, 1) := by decide +kernel
theorem dX12_tongue_1 : decode cX12_tongue 1 = .ok (.iconst 0, 1) := by decide +kernel
theorem dX12_tongue_2 : decode cX12_tongue 2 = .ok (.putfield 156, 3) := by decide +kernel
theorem dX12_tongue_5 : decode cX12_tongue 5 = .ok (.iload_n 1, 1) := by decide +kernel
theorem dX12_tongue_6 : decode cX12_tongue 6 = .ok (.i2l, 1) := by decide +kernel
theorem dX12_tongue_7 : decode cX12_tongue 7 = .ok (.lconst 0, 1) := by decide +kernel
theorem dX12_tongue_8 : decode cX12_tongue 8 = .ok (.lconst 1, 1) := by decide +kernel
theorem dX12_tongue_9 : decode cX12_tongue 9 = .ok (.invokestatic 180, 3) := by decide +kernel
theorem dX12_tongue_12 : decode cX12_tongue 12 = .ok (.ifCond .ne 5, 3) := by decide +kernel
theorem dX12_tongue_17 : decode cX12_tongue 17 = .ok (.ldc_w 505, 3) := by decide +kernel
theorem ct_RX12_505 : Cond.constant RX12 505 100000000 ∈ gW := gW_t 1877 (by decide +kernel) rfl
theorem dX12_tongue_20 : decode cX12_tongue 20 = .ok (.istore_n 2, 1) := by decide +kernel
theorem dX12_tongue_21 : decode cX12_tongue 21 = .ok (.iconst (-1), 1) := by decide +kernel
theorem dX12_tongue_22 : decode cX12_tongue 22 = .ok (.istore_n 3, 1) := by decide +kernel
theorem dX12_tongue_23 : decode cX12_tongue 23 = .ok (.iconst 0, 1) := by decide +kernel
theorem dX12_tongue_24 : decode cX12_tongue 24 = .ok (.istore 4, 2) := by decide +kernel
theorem dX12_tongue_26 : decode cX12_tongue 26 = .ok (.iload 4, 2) := by decide +kernel
theorem dX12_tongue_28 : decode cX12_tongue 28 = .ok (.bipush 64, 2) := by decide +kernel
theorem dX12_tongue_30 : decode cX12_tongue 30 = .ok (.if_icmp .ge 139, 3) := by decide +kernel
theorem dX12_tongue_33 : decode cX12_tongue 33 = .ok (.iload 4, 2) := by decide +kernel
theorem dX12_tongue_35 : decode cX12_tongue 35 = .ok (.i2l, 1) := by decide +kernel
theorem dX12_tongue_36 : decode cX12_tongue 36 = .ok (.invokestatic 527, 3) := by decide +kernel
theorem lk_RX12_527 : Cond.methodLink RX12 527 yX12_ones ∈ gW := gW_t 1891 (by decide +kernel) rfl
theorem mT_X12_ones : Cond.static yX12_ones ∈ gW := gW_t 1892 (by decide +kernel) rfl
theorem mC_X12_ones : Cond.code yX12_ones cX12_ones 4 (some .int) ∈ gW := gW_t 1893 (by decide +kernel) rfl
theorem ok_X12_ones : okD yX12_ones 1 := ⟨by decide +kernel, by decide +kernel, by decide +kernel⟩
theorem dX12_tongue_39 : decode cX12_tongue 39 = .ok (.iload_n 2, 1) := by decide +kernel
theorem dX12_tongue_40 : decode cX12_tongue 40 = .ok (.if_icmp .ge 7, 3) := by decide +kernel
theorem dX12_tongue_43 : decode cX12_tongue 43 = .ok (.iconst 1, 1) := by decide +kernel
theorem dX12_tongue_44 : decode cX12_tongue 44 = .ok (.goto 4, 3) := by decide +kernel
theorem dX12_tongue_48 : decode cX12_tongue 48 = .ok (.istore 5, 2) := by decide +kernel
theorem dX12_tongue_50 : decode cX12_tongue 50 = .ok (.iconst 0, 1) := by decide +kernel
theorem dX12_tongue_51 : decode cX12_tongue 51 = .ok (.istore 6, 2) := by decide +kernel
theorem dX12_tongue_53 : decode cX12_tongue 53 = .ok (.iload 6, 2) := by decide +kernel
theorem dX12_tongue_55 : decode cX12_tongue 55 = .ok (.aload_n 0, 1) := by decide +kernel
theorem dX12_tongue_56 : decode cX12_tongue 56 = .ok (.getfield 13, 3) := by decide +kernel
theorem dX12_tongue_59 : decode cX12_tongue 59 = .ok (.iconst 4, 1) := by decide +kernel
theorem dX12_tongue_60 : decode cX12_tongue 60 = .ok (.iaload, 1) := by decide +kernel
theorem dX12_tongue_61 : decode cX12_tongue 61 = .ok (.if_icmp .ge 74, 3) := by decide +kernel
theorem dX12_tongue_135 : decode cX12_tongue 135 = .ok (.iload 5, 2) := by decide +kernel
theorem dX12_tongue_137 : decode cX12_tongue 137 = .ok (.ifCond .eq 8, 3) := by decide +kernel
theorem dX12_tongue_140 : decode cX12_tongue 140 = .ok (.iload 4, 2) := by decide +kernel
theorem dX12_tongue_142 : decode cX12_tongue 142 = .ok (.goto 4, 3) := by decide +kernel
theorem dX12_tongue_146 : decode cX12_tongue 146 = .ok (.istore_n 3, 1) := by decide +kernel
theorem dX12_tongue_147 : decode cX12_tongue 147 = .ok (.iload 5, 2) := by decide +kernel
theorem dX12_tongue_149 : decode cX12_tongue 149 = .ok (.ifCond .eq 12, 3) := by decide +kernel
theorem dX12_tongue_152 : decode cX12_tongue 152 = .ok (.iload 4, 2) := by decide +kernel
theorem dX12_tongue_154 : decode cX12_tongue 154 = .ok (.i2l, 1) := by decide +kernel
theorem dX12_tongue_155 : decode cX12_tongue 155 = .ok (.invokestatic 527, 3) := by decide +kernel
theorem dX12_tongue_158 : decode cX12_tongue 158 = .ok (.goto 4, 3) := by decide +kernel
theorem dX12_tongue_162 : decode cX12_tongue 162 = .ok (.istore_n 2, 1) := by decide +kernel
theorem dX12_tongue_163 : decode cX12_tongue 163 = .ok (.iinc 4 1, 3) := by decide +kernel
theorem dX12_tongue_166 : decode cX12_tongue 166 = .ok (.goto (-140), 3) := by decide +kernel
theorem dX12_tongue_47 : decode cX12_tongue 47 = .ok (.iconst 0, 1) := by decide +kernel
theorem dX12_tongue_145 : decode cX12_tongue 145 = .ok (.iload_n 3, 1) := by decide +kernel
theorem dX12_tongue_161 : decode cX12_tongue 161 = .ok (.iload_n 2, 1) := by decide +kernel
theorem dX12_tongue_169 : decode cX12_tongue 169 = .ok (.iload_n 3, 1) := by decide +kernel
theorem dX12_tongue_170 : decode cX12_tongue 170 = .ok (.iconst (-1), 1) := by decide +kernel
theorem dX12_tongue_171 : decode cX12_tongue 171 = .ok (.if_icmp .eq 8, 3) := by decide +kernel
theorem dX12_tongue_174 : decode cX12_tongue 174 = .ok (.iload_n 1, 1) := by decide +kernel
theorem dX12_tongue_175 : decode cX12_tongue 175 = .ok (.iconst 1, 1) := by decide +kernel
theorem dX12_tongue_176 : decode cX12_tongue 176 = .ok (.if_icmp .ne 7, 3) := by decide +kernel
theorem dX12_tongue_183 : decode cX12_tongue 183 = .ok (.iload_n 2, 1) := by decide +kernel
theorem dX12_tongue_184 : decode cX12_tongue 184 = .ok (.ireturn, 1) := by decide +kernel
theorem dX12_tongue_179 : decode cX12_tongue 179 = .ok (.iload_n 3, 1) := by decide +kernel
theorem dX12_tongue_180 : decode cX12_tongue 180 = .ok (.goto 4, 3) := by decide +kernel
theorem dX12_tongue_15 : decode cX12_tongue 15 = .ok (.iconst (-1), 1) := by decide +kernel
theorem dX12_tongue_16 : decode cX12_tongue 16 = .ok (.ireturn, 1) := by decide +kernel
def yX12_image : MethodName := ⟨RX12, "image", "(I)I"⟩
abbrev cX12_image : ByteArray := prog_14_method_14_code
theorem dX12_image_0 : decode cX12_image 0 = .ok (.aload_n 0, 1) := by decide +kernel
theorem dX12_image_1 : decode cX12_image 1 = .ok (.iconst 0, 1) := by decide +kernel
theorem dX12_image_2 : decode cX12_image 2 = .ok (.putfield 156, 3) := by decide +kernel
theorem dX12_image_5 : decode cX12_image 5 = .ok (.iload_n 1, 1) := by decide +kernel
theorem dX12_image_6 : decode cX12_image 6 = .ok (.i2l, 1) := by decide +kernel
theorem dX12_image_7 : decode cX12_image 7 = .ok (.lconst 0, 1) := by decide +kernel
theorem dX12_image_8 : decode cX12_image 8 = .ok (.lconst 1, 1) := by decide +kernel
theorem dX12_image_9 : decode cX12_image 9 = .ok (.invokestatic 180, 3) := by decide +kernel
theorem dX12_image_12 : decode cX12_image 12 = .ok (.ifCond .ne 9, 3) := by decide +kernel
theorem dX12_image_21 : decode cX12_image 21 = .ok (.iconst 0, 1) := by decide +kernel
theorem dX12_image_22 : decode cX12_image 22 = .ok (.istore_n 2, 1) := by decide +kernel
theorem dX12_image_23 : decode cX12_image 23 = .ok (.iload_n 2, 1) := by decide +kernel
theorem dX12_image_24 : decode cX12_image 24 = .ok (.sipush 5650, 3) := by decide +kernel
theorem dX12_image_27 : decode cX12_image 27 = .ok (.if_icmp .ge 27, 3) := by decide +kernel
theorem dX12_image_30 : decode cX12_image 30 = .ok (.aload_n 0, 1) := by decide +kernel
theorem dX12_image_31 : decode cX12_image 31 = .ok (.getfield 16, 3) := by decide +kernel
theorem fl_RX12_16 : Cond.fieldLink RX12 16 RX12 "images" "[I" ∈ gW := gW_t 1277 (by decide +kernel) rfl
theorem dX12_image_34 : decode cX12_image 34 = .ok (.sipush 5650, 3) := by decide +kernel
theorem dX12_image_37 : decode cX12_image 37 = .ok (.iload_n 1, 1) := by decide +kernel
theorem dX12_image_38 : decode cX12_image 38 = .ok (.imul, 1) := by decide +kernel
theorem dX12_image_39 : decode cX12_image 39 = .ok (.iload_n 2, 1) := by decide +kernel
theorem dX12_image_40 : decode cX12_image 40 = .ok (.iadd, 1) := by decide +kernel
theorem dX12_image_41 : decode cX12_image 41 = .ok (.aload_n 0, 1) := by decide +kernel
theorem dX12_image_42 : decode cX12_image 42 = .ok (.getfield 13, 3) := by decide +kernel
theorem dX12_image_45 : decode cX12_image 45 = .ok (.iload_n 2, 1) := by decide +kernel
theorem dX12_image_46 : decode cX12_image 46 = .ok (.iaload, 1) := by decide +kernel
theorem dX12_image_47 : decode cX12_image 47 = .ok (.iastore, 1) := by decide +kernel
theorem dX12_image_48 : decode cX12_image 48 = .ok (.iinc 2 1, 3) := by decide +kernel
theorem dX12_image_51 : decode cX12_image 51 = .ok (.goto (-28), 3) := by decide +kernel
theorem dX12_image_54 : decode cX12_image 54 = .ok (.aload_n 0, 1) := by decide +kernel
theorem dX12_image_55 : decode cX12_image 55 = .ok (.getfield 19, 3) := by decide +kernel
theorem dX12_image_58 : decode cX12_image 58 = .ok (.iload_n 1, 1) := by decide +kernel
theorem dX12_image_59 : decode cX12_image 59 = .ok (.iconst 1, 1) := by decide +kernel
theorem dX12_image_60 : decode cX12_image 60 = .ok (.bastore, 1) := by decide +kernel
theorem dX12_image_61 : decode cX12_image 61 = .ok (.aload_n 0, 1) := by decide +kernel
theorem dX12_image_62 : decode cX12_image 62 = .ok (.iconst 0, 1) := by decide +kernel
theorem dX12_image_63 : decode cX12_image 63 = .ok (.invokevirtual 169, 3) := by decide +kernel
theorem dX12_image_66 : decode cX12_image 66 = .ok (.ireturn, 1) := by decide +kernel
theorem dX12_image_15 : decode cX12_image 15 = .ok (.aload_n 0, 1) := by decide +kernel
theorem dX12_image_16 : decode cX12_image 16 = .ok (.iconst (-1), 1) := by decide +kernel
theorem dX12_image_17 : decode cX12_image 17 = .ok (.invokevirtual 169, 3) := by decide +kernel
theorem dX12_image_20 : decode cX12_image 20 = .ok (.ireturn, 1) := by decide +kernel
