def yX12_in : MethodName := ⟨RX12, "in", "(JJJ)Z"⟩
abbrev cX12_in : ByteArray := prog_14_method_3_code
theorem dX12_in_0 : decode cX12_in 0 = .ok (.lload_n 0, 1) := by decide +kernel
theorem dX12_in_1 : decode cX12_in 1 = .ok (.lload_n 2, 1) := by decide +kernel
theorem dX12_in_2 : decode cX12_in 2 = .ok (.lcmp, 1) := by decide +kernel
theorem dX12_in_3 : decode cX12_in 3 = .ok (.ifCond .lt 14, 3) := by decide +kernel
theorem dX12_in_17 : decode cX12_in 17 = .ok (.iconst 0, 1) := by decide +kernel
theorem dX12_in_18 : decode cX12_in 18 = .ok (.ireturn, 1) := by decide +kernel
theorem dX12_in_6 : decode cX12_in 6 = .ok (.lload_n 0, 1) := by decide +kernel
theorem dX12_in_7 : decode cX12_in 7 = .ok (.lload 4, 2) := by decide +kernel
theorem dX12_in_9 : decode cX12_in 9 = .ok (.lcmp, 1) := by decide +kernel
theorem dX12_in_10 : decode cX12_in 10 = .ok (.ifCond .gt 7, 3) := by decide +kernel
theorem dX12_in_13 : decode cX12_in 13 = .ok (.iconst 1, 1) := by decide +kernel
theorem dX12_in_14 : decode cX12_in 14 = .ok (.goto 4, 3) := by decide +kernel
def yX12_is : MethodName := ⟨RX12, "is", "(JI)Z"⟩
abbrev cX12_is : ByteArray := prog_14_method_4_code
theorem dX12_is_0 : decode cX12_is 0 = .ok (.lload_n 0, 1) := by decide +kernel
theorem dX12_is_1 : decode cX12_is 1 = .ok (.iload_n 2, 1) := by decide +kernel
theorem dX12_is_2 : decode cX12_is 2 = .ok (.lshr, 1) := by decide +kernel
theorem dX12_is_3 : decode cX12_is 3 = .ok (.lconst 1, 1) := by decide +kernel
theorem dX12_is_4 : decode cX12_is 4 = .ok (.land, 1) := by decide +kernel
theorem dX12_is_5 : decode cX12_is 5 = .ok (.lconst 1, 1) := by decide +kernel
theorem dX12_is_6 : decode cX12_is 6 = .ok (.lcmp, 1) := by decide +kernel
theorem dX12_is_7 : decode cX12_is 7 = .ok (.ifCond .ne 7, 3) := by decide +kernel
theorem dX12_is_14 : decode cX12_is 14 = .ok (.iconst 0, 1) := by decide +kernel
theorem dX12_is_15 : decode cX12_is 15 = .ok (.ireturn, 1) := by decide +kernel
theorem dX12_is_10 : decode cX12_is 10 = .ok (.iconst 1, 1) := by decide +kernel
theorem dX12_is_11 : decode cX12_is 11 = .ok (.goto 4, 3) := by decide +kernel
def yX12_within : MethodName := ⟨RX12, "within", "(JII)I"⟩
abbrev cX12_within : ByteArray := prog_14_method_6_code
theorem dX12_within_0 : decode cX12_within 0 = .ok (.lload_n 0, 1) := by decide +kernel
theorem dX12_within_1 : decode cX12_within 1 = .ok (.iload_n 2, 1) := by decide +kernel
theorem dX12_within_2 : decode cX12_within 2 = .ok (.i2l, 1) := by decide +kernel
theorem dX12_within_3 : decode cX12_within 3 = .ok (.lcmp, 1) := by decide +kernel
theorem dX12_within_4 : decode cX12_within 4 = .ok (.ifCond .ge 7, 3) := by decide +kernel
theorem dX12_within_11 : decode cX12_within 11 = .ok (.lload_n 0, 1) := by decide +kernel
theorem dX12_within_12 : decode cX12_within 12 = .ok (.iload_n 3, 1) := by decide +kernel
theorem dX12_within_13 : decode cX12_within 13 = .ok (.i2l, 1) := by decide +kernel
theorem dX12_within_14 : decode cX12_within 14 = .ok (.lcmp, 1) := by decide +kernel
theorem dX12_within_15 : decode cX12_within 15 = .ok (.ifCond .le 7, 3) := by decide +kernel
theorem dX12_within_22 : decode cX12_within 22 = .ok (.lload_n 0, 1) := by decide +kernel
theorem dX12_within_23 : decode cX12_within 23 = .ok (.l2i, 1) := by decide +kernel
theorem dX12_within_24 : decode cX12_within 24 = .ok (.ireturn, 1) := by decide +kernel
theorem dX12_within_18 : decode cX12_within 18 = .ok (.iload_n 3, 1) := by decide +kernel
theorem dX12_within_19 : decode cX12_within 19 = .ok (.goto 5, 3) := by decide +kernel
theorem dX12_within_7 : decode cX12_within 7 = .ok (.iload_n 2, 1) := by decide +kernel
theorem dX12_within_8 : decode cX12_within 8 = .ok (.goto 16, 3) := by decide +kernel
def yX12_isCell : MethodName := ⟨RX12, "isCell", "(I)Z"⟩
abbrev cX12_isCell : ByteArray := prog_14_method_16_code
theorem dX12_isCell_0 : decode cX12_isCell 0 = .ok (.iload_n 0, 1) := by decide +kernel
theorem dX12_isCell_1 : decode cX12_isCell 1 = .ok (.i2l, 1) := by decide +kernel
theorem dX12_isCell_2 : decode cX12_isCell 2 = .ok (.lconst 0, 1) := by decide +kernel
theorem dX12_isCell_3 : decode cX12_isCell 3 = .ok (.ldc2_w 187, 3) := by decide +kernel
theorem ct_RX12_187 : Cond.constantLong RX12 187 39 ∈ gW := gW_t 1485 (by decide +kernel) rfl
theorem dX12_isCell_6 : decode cX12_isCell 6 = .ok (.invokestatic 180, 3) := by decide +kernel
theorem lk_RX12_180 : Cond.methodLink RX12 180 yX12_in ∈ gW := gW_t 1467 (by decide +kernel) rfl
theorem mT_X12_in : Cond.static yX12_in ∈ gW := gW_t 1468 (by decide +kernel) rfl
theorem mN_RX12 : Cond.initialized RX12 ∈ gW := gW_t 15 (by decide +kernel) rfl
theorem mC_X12_in : Cond.code yX12_in cX12_in 6 (some .boolean) ∈ gW := gW_t 1469 (by decide +kernel) rfl
theorem ok_X12_in : okD yX12_in 3 := ⟨by decide +kernel, by decide +kernel, by decide +kernel⟩
theorem dX12_isCell_9 : decode cX12_isCell 9 = .ok (.ireturn, 1) := by decide +kernel
def yX12_isColumn : MethodName := ⟨RX12, "isColumn", "(I)Z"⟩
abbrev cX12_isColumn : ByteArray := prog_14_method_17_code
theorem dX12_isColumn_0 : decode cX12_isColumn 0 = .ok (.iload_n 0, 1) := by decide +kernel
theorem dX12_isColumn_1 : decode cX12_isColumn 1 = .ok (.i2l, 1) := by decide +kernel
theorem dX12_isColumn_2 : decode cX12_isColumn 2 = .ok (.lconst 0, 1) := by decide +kernel
theorem dX12_isColumn_3 : decode cX12_isColumn 3 = .ok (.ldc2_w 189, 3) := by decide +kernel
theorem ct_RX12_189 : Cond.constantLong RX12 189 7 ∈ gW := gW_t 1550 (by decide +kernel) rfl
theorem dX12_isColumn_6 : decode cX12_isColumn 6 = .ok (.invokestatic 180, 3) := by decide +kernel
theorem dX12_isColumn_9 : decode cX12_isColumn 9 = .ok (.ireturn, 1) := by decide +kernel
def yX12_apart : MethodName := ⟨RX12, "apart", "(II)I"⟩
abbrev cX12_apart : ByteArray := prog_14_method_21_code
theorem dX12_apart_0 : decode cX12_apart 0 = .ok (.iload_n 0, 1) := by decide +kernel
theorem dX12_apart_1 : decode cX12_apart 1 = .ok (.iload_n 1, 1) := by decide +kernel
theorem dX12_apart_2 : decode cX12_apart 2 = .ok (.if_icmp .le 9, 3) := by decide +kernel
theorem dX12_apart_11 : decode cX12_apart 11 = .ok (.iload_n 1, 1) := by decide +kernel
theorem dX12_apart_12 : decode cX12_apart 12 = .ok (.iload_n 0, 1) := by decide +kernel
theorem dX12_apart_13 : decode cX12_apart 13 = .ok (.isub, 1) := by decide +kernel
theorem dX12_apart_14 : decode cX12_apart 14 = .ok (.ireturn, 1) := by decide +kernel
theorem dX12_apart_5 : decode cX12_apart 5 = .ok (.iload_n 0, 1) := by decide +kernel
theorem dX12_apart_6 : decode cX12_apart 6 = .ok (.iload_n 1, 1) := by decide +kernel
theorem dX12_apart_7 : decode cX12_apart 7 = .ok (.isub, 1) := by decide +kernel
theorem dX12_apart_8 : decode cX12_apart 8 = .ok (.goto 6, 3) := by decide +kernel
def yX12_canBe : MethodName := ⟨RX12, "canBe", "(II)Z"⟩
abbrev cX12_canBe : ByteArray := prog_14_method_22_code
theorem dX12_canBe_0 : decode cX12_canBe 0 = .ok (.iload_n 0, 1) := by decide +kernel
theorem dX12_canBe_1 : decode cX12_canBe 1 = .ok (.ifCond .ne 15, 3) := by decide +kernel
theorem dX12_canBe_16 : decode cX12_canBe 16 = .ok (.iload_n 0, 1) := by decide +kernel
theorem dX12_canBe_17 : decode cX12_canBe 17 = .ok (.iconst 1, 1) := by decide +kernel
theorem dX12_canBe_18 : decode cX12_canBe 18 = .ok (.if_icmp .ne 15, 3) := by decide +kernel
theorem dX12_canBe_33 : decode cX12_canBe 33 = .ok (.iload_n 0, 1) := by decide +kernel
theorem dX12_canBe_34 : decode cX12_canBe 34 = .ok (.iconst 2, 1) := by decide +kernel
theorem dX12_canBe_35 : decode cX12_canBe 35 = .ok (.if_icmp .ne 19, 3) := by decide +kernel
theorem dX12_canBe_54 : decode cX12_canBe 54 = .ok (.iconst 0, 1) := by decide +kernel
theorem dX12_canBe_55 : decode cX12_canBe 55 = .ok (.ireturn, 1) := by decide +kernel
theorem dX12_canBe_38 : decode cX12_canBe 38 = .ok (.iload_n 1, 1) := by decide +kernel
theorem dX12_canBe_39 : decode cX12_canBe 39 = .ok (.i2l, 1) := by decide +kernel
theorem dX12_canBe_40 : decode cX12_canBe 40 = .ok (.lconst 0, 1) := by decide +kernel
theorem dX12_canBe_41 : decode cX12_canBe 41 = .ok (.ldc2_w 195, 3) := by decide +kernel
theorem ct_RX12_195 : Cond.constantLong RX12 195 99 ∈ gW := gW_t 1491 (by decide +kernel) rfl
theorem dX12_canBe_44 : decode cX12_canBe 44 = .ok (.invokestatic 180, 3) := by decide +kernel
theorem dX12_canBe_47 : decode cX12_canBe 47 = .ok (.ifCond .eq 7, 3) := by decide +kernel
theorem dX12_canBe_50 : decode cX12_canBe 50 = .ok (.iconst 1, 1) := by decide +kernel
theorem dX12_canBe_51 : decode cX12_canBe 51 = .ok (.goto 4, 3) := by decide +kernel
theorem dX12_canBe_21 : decode cX12_canBe 21 = .ok (.iload_n 1, 1) := by decide +kernel
theorem dX12_canBe_22 : decode cX12_canBe 22 = .ok (.i2l, 1) := by decide +kernel
theorem dX12_canBe_23 : decode cX12_canBe 23 = .ok (.lconst 1, 1) := by decide +kernel
theorem dX12_canBe_24 : decode cX12_canBe 24 = .ok (.ldc2_w 193, 3) := by decide +kernel
theorem ct_RX12_193 : Cond.constantLong RX12 193 9 ∈ gW := gW_t 1490 (by decide +kernel) rfl
theorem dX12_canBe_27 : decode cX12_canBe 27 = .ok (.invokestatic 180, 3) := by decide +kernel
theorem dX12_canBe_30 : decode cX12_canBe 30 = .ok (.goto 25, 3) := by decide +kernel
theorem dX12_canBe_4 : decode cX12_canBe 4 = .ok (.iload_n 1, 1) := by decide +kernel
theorem dX12_canBe_5 : decode cX12_canBe 5 = .ok (.i2l, 1) := by decide +kernel
theorem dX12_canBe_6 : decode cX12_canBe 6 = .ok (.lconst 0, 1) := by decide +kernel
theorem dX12_canBe_7 : decode cX12_canBe 7 = .ok (.ldc2_w 191, 3) := by decide +kernel
theorem ct_RX12_191 : Cond.constantLong RX12 191 3 ∈ gW := gW_t 1489 (by decide +kernel) rfl
theorem dX12_canBe_10 : decode cX12_canBe 10 = .ok (.invokestatic 180, 3) := by decide +kernel
theorem dX12_canBe_13 : decode cX12_canBe 13 = .ok (.goto 42, 3) := by decide +kernel
def yX12_placeOf : MethodName := ⟨RX12, "placeOf", "(I)I"⟩
abbrev cX12_placeOf : ByteArray := prog_14_method_23_code
theorem dX12_placeOf_0 : decode cX12_placeOf 0 = .ok (.iload_n 0, 1) := by decide +kernel
theorem dX12_placeOf_1 : decode cX12_placeOf 1 = .ok (.ifCond .ne 8, 3) := by decide +kernel
theorem dX12_placeOf_9 : decode cX12_placeOf 9 = .ok (.iload_n 0, 1) := by decide +kernel
theorem dX12_placeOf_10 : decode cX12_placeOf 10 = .ok (.iconst 1, 1) := by decide +kernel
theorem dX12_placeOf_11 : decode cX12_placeOf 11 = .ok (.if_icmp .ne 9, 3) := by decide +kernel
theorem dX12_placeOf_20 : decode cX12_placeOf 20 = .ok (.bipush 73, 2) := by decide +kernel
theorem dX12_placeOf_22 : decode cX12_placeOf 22 = .ok (.ireturn, 1) := by decide +kernel
theorem dX12_placeOf_14 : decode cX12_placeOf 14 = .ok (.sipush 153, 3) := by decide +kernel
theorem dX12_placeOf_17 : decode cX12_placeOf 17 = .ok (.goto 5, 3) := by decide +kernel
theorem dX12_placeOf_4 : decode cX12_placeOf 4 = .ok (.bipush 113, 2) := by decide +kernel
theorem dX12_placeOf_6 : decode cX12_placeOf 6 = .ok (.goto 16, 3) := by decide +kernel
def yX12_isShaft : MethodName := ⟨RX12, "isShaft", "(I)Z"⟩
abbrev cX12_isShaft : ByteArray := prog_14_method_18_code
theorem dX12_isShaft_0 : decode cX12_isShaft 0 = .ok (.iload_n 1, 1) := by decide +kernel
theorem dX12_isShaft_1 : decode cX12_isShaft 1 = .ok (.i2l, 1) := by decide +kernel
theorem dX12_isShaft_2 : decode cX12_isShaft 2 = .ok (.lconst 0, 1) := by decide +kernel
theorem dX12_isShaft_3 : decode cX12_isShaft 3 = .ok (.aload_n 0, 1) := by decide +kernel
theorem dX12_isShaft_4 : decode cX12_isShaft 4 = .ok (.getfield 13, 3) := by decide +kernel
theorem fl_RX12_13 : Cond.fieldLink RX12 13 RX12 "row" "[I" ∈ gW := gW_t 1276 (by decide +kernel) rfl
theorem dX12_isShaft_7 : decode cX12_isShaft 7 = .ok (.iconst 0, 1) := by decide +kernel
theorem dX12_isShaft_8 : decode cX12_isShaft 8 = .ok (.iaload, 1) := by decide +kernel
theorem dX12_isShaft_9 : decode cX12_isShaft 9 = .ok (.i2l, 1) := by decide +kernel
theorem dX12_isShaft_10 : decode cX12_isShaft 10 = .ok (.lconst 1, 1) := by decide +kernel
theorem dX12_isShaft_11 : decode cX12_isShaft 11 = .ok (.lsub, 1) := by decide +kernel
theorem dX12_isShaft_12 : decode cX12_isShaft 12 = .ok (.invokestatic 180, 3) := by decide +kernel
theorem dX12_isShaft_15 : decode cX12_isShaft 15 = .ok (.ireturn, 1) := by decide +kernel
def yX12_isEar : MethodName := ⟨RX12, "isEar", "(I)Z"⟩
abbrev cX12_isEar : ByteArray := prog_14_method_19_code
theorem dX12_isEar_0 : decode cX12_isEar 0 = .ok (.iload_n 1, 1) := by decide +kernel
theorem dX12_isEar_1 : decode cX12_isEar 1 = .ok (.i2l, 1) := by decide +kernel
theorem dX12_isEar_2 : decode cX12_isEar 2 = .ok (.lconst 0, 1) := by decide +kernel
theorem dX12_isEar_3 : decode cX12_isEar 3 = .ok (.aload_n 0, 1) := by decide +kernel
theorem dX12_isEar_4 : decode cX12_isEar 4 = .ok (.getfield 13, 3) := by decide +kernel
theorem dX12_isEar_7 : decode cX12_isEar 7 = .ok (.iconst 1, 1) := by decide +kernel
theorem dX12_isEar_8 : decode cX12_isEar 8 = .ok (.iaload, 1) := by decide +kernel
theorem dX12_isEar_9 : decode cX12_isEar 9 = .ok (.i2l, 1) := by decide +kernel
theorem dX12_isEar_10 : decode cX12_isEar 10 = .ok (.lconst 1, 1) := by decide +kernel
theorem dX12_isEar_11 : decode cX12_isEar 11 = .ok (.lsub, 1) := by decide +kernel
theorem dX12_isEar_12 : decode cX12_isEar 12 = .ok (.invokestatic 180, 3) := by decide +kernel
theorem dX12_isEar_15 : decode cX12_isEar 15 = .ok (.ireturn, 1) := by decide +kernel
def yX12_isNoise : MethodName := ⟨RX12, "isNoise", "(I)Z"⟩
abbrev cX12_isNoise : ByteArray := prog_14_method_20_code
theorem dX12_isNoise_0 : decode cX12_isNoise 0 = .ok (.iload_n 1, 1) := by decide +kernel
theorem dX12_isNoise_1 : decode cX12_isNoise 1 = .ok (.i2l, 1) := by decide +kernel
theorem dX12_isNoise_2 : decode cX12_isNoise 2 = .ok (.lconst 0, 1) := by decide +kernel
theorem dX12_isNoise_3 : decode cX12_isNoise 3 = .ok (.aload_n 0, 1) := by decide +kernel
theorem dX12_isNoise_4 : decode cX12_isNoise 4 = .ok (.getfield 13, 3) := by decide +kernel
theorem dX12_isNoise_7 : decode cX12_isNoise 7 = .ok (.iconst 2, 1) := by decide +kernel
theorem dX12_isNoise_8 : decode cX12_isNoise 8 = .ok (.iaload, 1) := by decide +kernel
theorem dX12_isNoise_9 : decode cX12_isNoise 9 = .ok (.i2l, 1) := by decide +kernel
theorem dX12_isNoise_10 : decode cX12_isNoise 10 = .ok (.lconst 1, 1) := by decide +kernel
theorem dX12_isNoise_11 : decode cX12_isNoise 11 = .ok (.lsub, 1) := by decide +kernel
theorem dX12_isNoise_12 : decode cX12_isNoise 12 = .ok (.invokestatic 180, 3) := by decide +kernel
theorem dX12_isNoise_15 : decode cX12_isNoise 15 = .ok (.ireturn, 1) := by decide +kernel
def yX12_isLaw : MethodName := ⟨RX12, "isLaw", "(I)Z"⟩
abbrev cX12_isLaw : ByteArray := prog_14_method_67_code
theorem dX12_isLaw_0 : decode cX12_isLaw 0 = .ok (.iload_n 1, 1) := by decide +kernel
theorem dX12_isLaw_1 : decode cX12_isLaw 1 = .ok (.iconst (-1), 1) := by decide +kernel
theorem dX12_isLaw_2 : decode cX12_isLaw 2 = .ok (.if_icmp .eq 21, 3) := by decide +kernel
theorem dX12_isLaw_23 : decode cX12_isLaw 23 = .ok (.iconst 1, 1) := by decide +kernel
theorem dX12_isLaw_24 : decode cX12_isLaw 24 = .ok (.goto 4, 3) := by decide +kernel
theorem dX12_isLaw_28 : decode cX12_isLaw 28 = .ok (.ireturn, 1) := by decide +kernel
theorem dX12_isLaw_5 : decode cX12_isLaw 5 = .ok (.iload_n 1, 1) := by decide +kernel
theorem dX12_isLaw_6 : decode cX12_isLaw 6 = .ok (.i2l, 1) := by decide +kernel
theorem dX12_isLaw_7 : decode cX12_isLaw 7 = .ok (.lconst 0, 1) := by decide +kernel
theorem dX12_isLaw_8 : decode cX12_isLaw 8 = .ok (.aload_n 0, 1) := by decide +kernel
theorem dX12_isLaw_9 : decode cX12_isLaw 9 = .ok (.getfield 13, 3) := by decide +kernel
theorem dX12_isLaw_12 : decode cX12_isLaw 12 = .ok (.iconst 5, 1) := by decide +kernel
theorem dX12_isLaw_13 : decode cX12_isLaw 13 = .ok (.iaload, 1) := by decide +kernel
theorem dX12_isLaw_14 : decode cX12_isLaw 14 = .ok (.i2l, 1) := by decide +kernel
theorem dX12_isLaw_15 : decode cX12_isLaw 15 = .ok (.lconst 1, 1) := by decide +kernel
theorem dX12_isLaw_16 : decode cX12_isLaw 16 = .ok (.lsub, 1) := by decide +kernel
theorem dX12_isLaw_17 : decode cX12_isLaw 17 = .ok (.invokestatic 180, 3) := by decide +kernel
theorem dX12_isLaw_20 : decode cX12_isLaw 20 = .ok (.ifCond .eq 7, 3) := by decide +kernel
theorem dX12_isLaw_27 : decode cX12_isLaw 27 = .ok (.iconst 0, 1) := by decide +kernel
def yX12_tell : MethodName := ⟨RX12, "tell", "(I)I"⟩
abbrev cX12_tell : ByteArray := prog_14_method_7_code
theorem dX12_tell_0 : decode cX12_tell 0 = .ok (.aload_n 0, 1) := by decide +kernel
theorem dX12_tell_1 : decode cX12_tell 1 = .ok (.iload_n 1, 1) := by decide +kernel
theorem dX12_tell_2 : decode cX12_tell 2 = .ok (.ifCond .ge 7, 3) := by decide +kernel
theorem dX12_tell_9 : decode cX12_tell 9 = .ok (.iconst 0, 1) := by decide +kernel
theorem dX12_tell_10 : decode cX12_tell 10 = .ok (.putfield 163, 3) := by decide +kernel
theorem fl_RX12_163 : Cond.fieldLink RX12 163 RX12 "status" "I" ∈ gW := gW_t 1274 (by decide +kernel) rfl
theorem dX12_tell_13 : decode cX12_tell 13 = .ok (.iload_n 1, 1) := by decide +kernel
theorem dX12_tell_14 : decode cX12_tell 14 = .ok (.ifCond .ge 14, 3) := by decide +kernel
theorem dX12_tell_28 : decode cX12_tell 28 = .ok (.iload_n 1, 1) := by decide +kernel
theorem dX12_tell_29 : decode cX12_tell 29 = .ok (.ireturn, 1) := by decide +kernel
theorem dX12_tell_5 : decode cX12_tell 5 = .ok (.iload_n 1, 1) := by decide +kernel
theorem dX12_tell_6 : decode cX12_tell 6 = .ok (.goto 4, 3) := by decide +kernel
theorem dX12_tell_17 : decode cX12_tell 17 = .ok (.aload_n 0, 1) := by decide +kernel
theorem dX12_tell_18 : decode cX12_tell 18 = .ok (.getfield 7, 3) := by decide +kernel
theorem fl_RX12_7 : Cond.fieldLink RX12 7 RX12 "refusals" "[I" ∈ gW := gW_t 1275 (by decide +kernel) rfl
theorem dX12_tell_21 : decode cX12_tell 21 = .ok (.iload_n 1, 1) := by decide +kernel
theorem dX12_tell_22 : decode cX12_tell 22 = .ok (.ineg, 1) := by decide +kernel
theorem dX12_tell_23 : decode cX12_tell 23 = .ok (.dup2, 1) := by decide +kernel
theorem dX12_tell_24 : decode cX12_tell 24 = .ok (.iaload, 1) := by decide +kernel
theorem dX12_tell_25 : decode cX12_tell 25 = .ok (.iconst 1, 1) := by decide +kernel
theorem dX12_tell_26 : decode cX12_tell 26 = .ok (.iadd, 1) := by decide +kernel
theorem dX12_tell_27 : decode cX12_tell 27 = .ok (.iastore, 1) := by decide +kernel
def yX12_settled : MethodName := ⟨RX12, "settled", "(I)I"⟩
abbrev cX12_settled : ByteArray := prog_14_method_9_code
theorem dX12_settled_0 : decode cX12_settled 0 = .ok (.aload_n 0, 1) := by decide +kernel
theorem dX12_settled_1 : decode cX12_settled 1 = .ok (.iload_n 1, 1) := by decide +kernel
theorem dX12_settled_2 : decode cX12_settled 2 = .ok (.ifCond .ge 10, 3) := by decide +kernel
theorem dX12_settled_12 : decode cX12_settled 12 = .ok (.iconst 0, 1) := by decide +kernel
theorem dX12_settled_13 : decode cX12_settled 13 = .ok (.putfield 166, 3) := by decide +kernel
theorem fl_RX12_166 : Cond.fieldLink RX12 166 RX12 "nUndo" "I" ∈ gW := gW_t 1281 (by decide +kernel) rfl
theorem dX12_settled_16 : decode cX12_settled 16 = .ok (.aload_n 0, 1) := by decide +kernel
theorem dX12_settled_17 : decode cX12_settled 17 = .ok (.iload_n 1, 1) := by decide +kernel
theorem dX12_settled_18 : decode cX12_settled 18 = .ok (.invokevirtual 169, 3) := by decide +kernel
theorem lk_RX12_169 : Cond.methodLink RX12 169 yX12_tell ∈ gW := gW_t 1455 (by decide +kernel) rfl
theorem mI_X12_tell : Cond.instanceMethod yX12_tell ∈ gW := gW_t 1457 (by decide +kernel) rfl
theorem mS_X12_tell : Cond.selects RX12 yX12_tell yX12_tell ∈ gW := gW_p (q := (yX12_tell, 59)) 40 (by decide +kernel)
theorem mC_X12_tell : Cond.code yX12_tell cX12_tell 2 (some .int) ∈ gW := gW_t 1458 (by decide +kernel) rfl
theorem ok_X12_tell : okD yX12_tell 1 := ⟨by decide +kernel, by decide +kernel, by decide +kernel⟩
theorem dX12_settled_21 : decode cX12_settled 21 = .ok (.ireturn, 1) := by decide +kernel
theorem dX12_settled_5 : decode cX12_settled 5 = .ok (.aload_n 0, 1) := by decide +kernel
theorem dX12_settled_6 : decode cX12_settled 6 = .ok (.getfield 166, 3) := by decide +kernel
theorem dX12_settled_9 : decode cX12_settled 9 = .ok (.goto 4, 3) := by decide +kernel
def yX12_change : MethodName := ⟨RX12, "change", "(II)I"⟩
abbrev cX12_change : ByteArray := prog_14_method_8_code
theorem dX12_change_0 : decode cX12_change 0 = .ok (.aload_n 0, 1) := by decide +kernel
theorem dX12_change_1 : decode cX12_change 1 = .ok (.getfield 13, 3) := by decide +kernel
theorem dX12_change_4 : decode cX12_change 4 = .ok (.iload_n 1, 1) := by decide +kernel
theorem dX12_change_5 : decode cX12_change 5 = .ok (.iaload, 1) := by decide +kernel
theorem dX12_change_6 : decode cX12_change 6 = .ok (.istore_n 3, 1) := by decide +kernel
theorem dX12_change_7 : decode cX12_change 7 = .ok (.aload_n 0, 1) := by decide +kernel
theorem dX12_change_8 : decode cX12_change 8 = .ok (.getfield 13, 3) := by decide +kernel
theorem dX12_change_11 : decode cX12_change 11 = .ok (.iload_n 1, 1) := by decide +kernel
theorem dX12_change_12 : decode cX12_change 12 = .ok (.iload_n 2, 1) := by decide +kernel
theorem dX12_change_13 : decode cX12_change 13 = .ok (.iastore, 1) := by decide +kernel
theorem dX12_change_14 : decode cX12_change 14 = .ok (.aload_n 0, 1) := by decide +kernel
theorem dX12_change_15 : decode cX12_change 15 = .ok (.iconst 0, 1) := by decide +kernel
theorem dX12_change_16 : decode cX12_change 16 = .ok (.putfield 163, 3) := by decide +kernel
theorem dX12_change_19 : decode cX12_change 19 = .ok (.iload_n 3, 1) := by decide +kernel
theorem dX12_change_20 : decode cX12_change 20 = .ok (.ireturn, 1) := by decide +kernel
def yX12_tells : MethodName := ⟨RX12, "tells", "(IIIIJ)J"⟩
abbrev cX12_tells : ByteArray := prog_14_method_72_code
theorem dX12_tells_0 : decode cX12_tells 0 = .ok (.aload_n 0, 1) := by decide +kernel
theorem dX12_tells_1 : decode cX12_tells 1 = .ok (.getfield 13, 3) := by decide +kernel
theorem dX12_tells_4 : decode cX12_tells 4 = .ok (.bipush 6, 2) := by decide +kernel
theorem dX12_tells_6 : decode cX12_tells 6 = .ok (.iaload, 1) := by decide +kernel
theorem dX12_tells_7 : decode cX12_tells 7 = .ok (.iconst (-1), 1) := by decide +kernel
theorem dX12_tells_8 : decode cX12_tells 8 = .ok (.if_icmp .ne 6, 3) := by decide +kernel
theorem dX12_tells_11 : decode cX12_tells 11 = .ok (.lload 5, 2) := by decide +kernel
theorem dX12_tells_13 : decode cX12_tells 13 = .ok (.lreturn, 1) := by decide +kernel
def yX12_saysOf : MethodName := ⟨RX12, "saysOf", "(II)I"⟩
abbrev cX12_saysOf : ByteArray := prog_14_method_73_code
theorem dX12_saysOf_0 : decode cX12_saysOf 0 = .ok (.aload_n 0, 1) := by decide +kernel
theorem dX12_saysOf_1 : decode cX12_saysOf 1 = .ok (.iconst 0, 1) := by decide +kernel
theorem dX12_saysOf_2 : decode cX12_saysOf 2 = .ok (.iload_n 1, 1) := by decide +kernel
theorem dX12_saysOf_3 : decode cX12_saysOf 3 = .ok (.iload_n 2, 1) := by decide +kernel
theorem dX12_saysOf_4 : decode cX12_saysOf 4 = .ok (.iconst (-1), 1) := by decide +kernel
theorem dX12_saysOf_5 : decode cX12_saysOf 5 = .ok (.ldc2_w 233, 3) := by decide +kernel
theorem ct_RX12_233 : Cond.constantLong RX12 233 20 ∈ gW := gW_t 1507 (by decide +kernel) rfl
theorem dX12_saysOf_8 : decode cX12_saysOf 8 = .ok (.invokevirtual 434, 3) := by decide +kernel
theorem lk_RX12_434 : Cond.methodLink RX12 434 yX12_tells ∈ gW := gW_t 1508 (by decide +kernel) rfl
theorem mI_X12_tells : Cond.instanceMethod yX12_tells ∈ gW := gW_t 1510 (by decide +kernel) rfl
theorem mS_X12_tells : Cond.selects RX12 yX12_tells yX12_tells ∈ gW := gW_p (q := (yX12_tells, 59)) 45 (by decide +kernel)
theorem mC_X12_tells : Cond.code yX12_tells cX12_tells 11 (some .long) ∈ gW := gW_t 1511 (by decide +kernel) rfl
theorem ok_X12_tells : okD yX12_tells 5 := ⟨by decide +kernel, by decide +kernel, by decide +kernel⟩
theorem dX12_saysOf_11 : decode cX12_saysOf 11 = .ok (.iconst 0, 1) := by decide +kernel
theorem dX12_saysOf_12 : decode cX12_saysOf 12 = .ok (.bipush 99, 2) := by decide +kernel
theorem dX12_saysOf_14 : decode cX12_saysOf 14 = .ok (.invokestatic 438, 3) := by decide +kernel
theorem lk_RX12_438 : Cond.methodLink RX12 438 yX12_within ∈ gW := gW_t 1535 (by decide +kernel) rfl
theorem mT_X12_within : Cond.static yX12_within ∈ gW := gW_t 1536 (by decide +kernel) rfl
theorem mC_X12_within : Cond.code yX12_within cX12_within 4 (some .int) ∈ gW := gW_t 1537 (by decide +kernel) rfl
theorem ok_X12_within : okD yX12_within 3 := ⟨by decide +kernel, by decide +kernel, by decide +kernel⟩
theorem dX12_saysOf_17 : decode cX12_saysOf 17 = .ok (.ireturn, 1) := by decide +kernel
def yX12_losesOf : MethodName := ⟨RX12, "losesOf", "(II)I"⟩
abbrev cX12_losesOf : ByteArray := prog_14_method_74_code
theorem dX12_losesOf_0 : decode cX12_losesOf 0 = .ok (.aload_n 0, 1) := by decide +kernel
theorem dX12_losesOf_1 : decode cX12_losesOf 1 = .ok (.iconst 1, 1) := by decide +kernel
theorem dX12_losesOf_2 : decode cX12_losesOf 2 = .ok (.iload_n 1, 1) := by decide +kernel
theorem dX12_losesOf_3 : decode cX12_losesOf 3 = .ok (.iload_n 2, 1) := by decide +kernel
theorem dX12_losesOf_4 : decode cX12_losesOf 4 = .ok (.iconst (-1), 1) := by decide +kernel
theorem dX12_losesOf_5 : decode cX12_losesOf 5 = .ok (.ldc2_w 442, 3) := by decide +kernel
theorem ct_RX12_442 : Cond.constantLong RX12 442 2 ∈ gW := gW_t 1542 (by decide +kernel) rfl
theorem dX12_losesOf_8 : decode cX12_losesOf 8 = .ok (.invokevirtual 434, 3) := by decide +kernel
theorem dX12_losesOf_11 : decode cX12_losesOf 11 = .ok (.iconst 0, 1) := by decide +kernel
theorem dX12_losesOf_12 : decode cX12_losesOf 12 = .ok (.bipush 9, 2) := by decide +kernel
theorem dX12_losesOf_14 : decode cX12_losesOf 14 = .ok (.invokestatic 438, 3) := by decide +kernel
theorem dX12_losesOf_17 : decode cX12_losesOf 17 = .ok (.ireturn, 1) := by decide +kernel
def yX12_loudAs : MethodName := ⟨RX12, "loudAs", "(III)I"⟩
abbrev cX12_loudAs : ByteArray := prog_14_method_79_code
theorem dX12_loudAs_0 : decode cX12_loudAs 0 = .ok (.iload_n 1, 1) := by decide +kernel
theorem dX12_loudAs_1 : decode cX12_loudAs 1 = .ok (.bipush 8, 2) := by decide +kernel
theorem dX12_loudAs_3 : decode cX12_loudAs 3 = .ok (.irem, 1) := by decide +kernel
theorem dX12_loudAs_4 : decode cX12_loudAs 4 = .ok (.iload_n 3, 1) := by decide +kernel
theorem dX12_loudAs_5 : decode cX12_loudAs 5 = .ok (.invokestatic 453, 3) := by decide +kernel
theorem lk_RX12_453 : Cond.methodLink RX12 453 yX12_apart ∈ gW := gW_t 1577 (by decide +kernel) rfl
theorem mT_X12_apart : Cond.static yX12_apart ∈ gW := gW_t 1578 (by decide +kernel) rfl
theorem mC_X12_apart : Cond.code yX12_apart cX12_apart 2 (some .int) ∈ gW := gW_t 1579 (by decide +kernel) rfl
theorem ok_X12_apart : okD yX12_apart 2 := ⟨by decide +kernel, by decide +kernel, by decide +kernel⟩
theorem dX12_loudAs_8 : decode cX12_loudAs 8 = .ok (.iload_n 1, 1) := by decide +kernel
theorem dX12_loudAs_9 : decode cX12_loudAs 9 = .ok (.bipush 8, 2) := by decide +kernel
theorem dX12_loudAs_11 : decode cX12_loudAs 11 = .ok (.idiv, 1) := by decide +kernel
theorem dX12_loudAs_12 : decode cX12_loudAs 12 = .ok (.iadd, 1) := by decide +kernel
theorem dX12_loudAs_13 : decode cX12_loudAs 13 = .ok (.iconst 1, 1) := by decide +kernel
theorem dX12_loudAs_14 : decode cX12_loudAs 14 = .ok (.iadd, 1) := by decide +kernel
theorem dX12_loudAs_15 : decode cX12_loudAs 15 = .ok (.istore 4, 2) := by decide +kernel
theorem dX12_loudAs_17 : decode cX12_loudAs 17 = .ok (.aload_n 0, 1) := by decide +kernel
theorem dX12_loudAs_18 : decode cX12_loudAs 18 = .ok (.iload_n 1, 1) := by decide +kernel
theorem dX12_loudAs_19 : decode cX12_loudAs 19 = .ok (.iload_n 2, 1) := by decide +kernel
theorem dX12_loudAs_20 : decode cX12_loudAs 20 = .ok (.invokevirtual 212, 3) := by decide +kernel
theorem lk_RX12_212 : Cond.methodLink RX12 212 yX12_saysOf ∈ gW := gW_t 1503 (by decide +kernel) rfl
theorem mI_X12_saysOf : Cond.instanceMethod yX12_saysOf ∈ gW := gW_t 1505 (by decide +kernel) rfl
theorem mS_X12_saysOf : Cond.selects RX12 yX12_saysOf yX12_saysOf ∈ gW := gW_p (q := (yX12_saysOf, 59)) 44 (by decide +kernel)
theorem mC_X12_saysOf : Cond.code yX12_saysOf cX12_saysOf 3 (some .int) ∈ gW := gW_t 1506 (by decide +kernel) rfl
theorem ok_X12_saysOf : okD yX12_saysOf 2 := ⟨by decide +kernel, by decide +kernel, by decide +kernel⟩
theorem dX12_loudAs_23 : decode cX12_loudAs 23 = .ok (.iload 4, 2) := by decide +kernel
theorem dX12_loudAs_25 : decode cX12_loudAs 25 = .ok (.aload_n 0, 1) := by decide +kernel
theorem dX12_loudAs_26 : decode cX12_loudAs 26 = .ok (.iload_n 1, 1) := by decide +kernel
theorem dX12_loudAs_27 : decode cX12_loudAs 27 = .ok (.iload_n 2, 1) := by decide +kernel
theorem dX12_loudAs_28 : decode cX12_loudAs 28 = .ok (.invokevirtual 215, 3) := by decide +kernel
theorem lk_RX12_215 : Cond.methodLink RX12 215 yX12_losesOf ∈ gW := gW_t 1538 (by decide +kernel) rfl
theorem mI_X12_losesOf : Cond.instanceMethod yX12_losesOf ∈ gW := gW_t 1540 (by decide +kernel) rfl
theorem mS_X12_losesOf : Cond.selects RX12 yX12_losesOf yX12_losesOf ∈ gW := gW_p (q := (yX12_losesOf, 59)) 51 (by decide +kernel)
theorem mC_X12_losesOf : Cond.code yX12_losesOf cX12_losesOf 3 (some .int) ∈ gW := gW_t 1541 (by decide +kernel) rfl
theorem ok_X12_losesOf : okD yX12_losesOf 2 := ⟨by decide +kernel, by decide +kernel, by decide +kernel⟩
theorem dX12_loudAs_31 : decode cX12_loudAs 31 = .ok (.imul, 1) := by decide +kernel
theorem dX12_loudAs_32 : decode cX12_loudAs 32 = .ok (.isub, 1) := by decide +kernel
theorem dX12_loudAs_33 : decode cX12_loudAs 33 = .ok (.ireturn, 1) := by decide +kernel
def yX12_soundOf : MethodName := ⟨RX12, "soundOf", "(II)I"⟩
abbrev cX12_soundOf : ByteArray := prog_14_method_111_code
theorem dX12_soundOf_0 : decode cX12_soundOf 0 = .ok (.aload_n 0, 1) := by decide +kernel
theorem dX12_soundOf_1 : decode cX12_soundOf 1 = .ok (.iload_n 1, 1) := by decide +kernel
theorem dX12_soundOf_2 : decode cX12_soundOf 2 = .ok (.iconst 3, 1) := by decide +kernel
theorem dX12_soundOf_3 : decode cX12_soundOf 3 = .ok (.iload_n 2, 1) := by decide +kernel
theorem dX12_soundOf_4 : decode cX12_soundOf 4 = .ok (.invokevirtual 456, 3) := by decide +kernel
theorem lk_RX12_456 : Cond.methodLink RX12 456 yX12_loudAs ∈ gW := gW_t 1781 (by decide +kernel) rfl
theorem mI_X12_loudAs : Cond.instanceMethod yX12_loudAs ∈ gW := gW_t 1783 (by decide +kernel) rfl
theorem mS_X12_loudAs : Cond.selects RX12 yX12_loudAs yX12_loudAs ∈ gW := gW_p (q := (yX12_loudAs, 59)) 87 (by decide +kernel)
theorem mC_X12_loudAs : Cond.code yX12_loudAs cX12_loudAs 5 (some .int) ∈ gW := gW_t 1784 (by decide +kernel) rfl
theorem ok_X12_loudAs : okD yX12_loudAs 3 := ⟨by decide +kernel, by decide +kernel, by decide +kernel⟩
theorem dX12_soundOf_7 : decode cX12_soundOf 7 = .ok (.i2l, 1) := by decide +kernel
theorem dX12_soundOf_8 : decode cX12_soundOf 8 = .ok (.iconst 0, 1) := by decide +kernel
theorem dX12_soundOf_9 : decode cX12_soundOf 9 = .ok (.bipush 99, 2) := by decide +kernel
theorem dX12_soundOf_11 : decode cX12_soundOf 11 = .ok (.invokestatic 438, 3) := by decide +kernel
theorem dX12_soundOf_14 : decode cX12_soundOf 14 = .ok (.ireturn, 1) := by decide +kernel
def yX12_dinBut : MethodName := ⟨RX12, "dinBut", "(II)I"⟩
abbrev cX12_dinBut : ByteArray := prog_14_method_81_code
theorem dX12_dinBut_0 : decode cX12_dinBut 0 = .ok (.iconst 0, 1) := by decide +kernel
theorem dX12_dinBut_1 : decode cX12_dinBut 1 = .ok (.istore_n 3, 1) := by decide +kernel
theorem dX12_dinBut_2 : decode cX12_dinBut 2 = .ok (.iconst 0, 1) := by decide +kernel
theorem dX12_dinBut_3 : decode cX12_dinBut 3 = .ok (.istore 4, 2) := by decide +kernel
theorem dX12_dinBut_5 : decode cX12_dinBut 5 = .ok (.iload 4, 2) := by decide +kernel
theorem dX12_dinBut_7 : decode cX12_dinBut 7 = .ok (.aload_n 0, 1) := by decide +kernel
theorem dX12_dinBut_8 : decode cX12_dinBut 8 = .ok (.getfield 13, 3) := by decide +kernel
theorem dX12_dinBut_11 : decode cX12_dinBut 11 = .ok (.iconst 2, 1) := by decide +kernel
theorem dX12_dinBut_12 : decode cX12_dinBut 12 = .ok (.iaload, 1) := by decide +kernel
theorem dX12_dinBut_13 : decode cX12_dinBut 13 = .ok (.if_icmp .ge 76, 3) := by decide +kernel
theorem dX12_dinBut_89 : decode cX12_dinBut 89 = .ok (.iload_n 3, 1) := by decide +kernel
theorem dX12_dinBut_90 : decode cX12_dinBut 90 = .ok (.ireturn, 1) := by decide +kernel
def yX12_isHidden : MethodName := ⟨RX12, "isHidden", "(I)Z"⟩
abbrev cX12_isHidden : ByteArray := prog_14_method_112_code
theorem dX12_isHidden_0 : decode cX12_isHidden 0 = .ok (.aload_n 0, 1) := by decide +kernel
theorem dX12_isHidden_1 : decode cX12_isHidden 1 = .ok (.getfield 13, 3) := by decide +kernel
theorem dX12_isHidden_4 : decode cX12_isHidden 4 = .ok (.bipush 113, 2) := by decide +kernel
theorem dX12_isHidden_6 : decode cX12_isHidden 6 = .ok (.iload_n 1, 1) := by decide +kernel
theorem dX12_isHidden_7 : decode cX12_isHidden 7 = .ok (.iadd, 1) := by decide +kernel
theorem dX12_isHidden_8 : decode cX12_isHidden 8 = .ok (.iaload, 1) := by decide +kernel
theorem dX12_isHidden_9 : decode cX12_isHidden 9 = .ok (.iconst 3, 1) := by decide +kernel
theorem dX12_isHidden_10 : decode cX12_isHidden 10 = .ok (.if_icmp .eq 19, 3) := by decide +kernel
theorem dX12_isHidden_13 : decode cX12_isHidden 13 = .ok (.aload_n 0, 1) := by decide +kernel
theorem dX12_isHidden_14 : decode cX12_isHidden 14 = .ok (.getfield 13, 3) := by decide +kernel
theorem dX12_isHidden_17 : decode cX12_isHidden 17 = .ok (.bipush 33, 2) := by decide +kernel
theorem dX12_isHidden_19 : decode cX12_isHidden 19 = .ok (.iload_n 1, 1) := by decide +kernel
theorem dX12_isHidden_20 : decode cX12_isHidden 20 = .ok (.iadd, 1) := by decide +kernel
theorem dX12_isHidden_21 : decode cX12_isHidden 21 = .ok (.iaload, 1) := by decide +kernel
theorem dX12_isHidden_22 : decode cX12_isHidden 22 = .ok (.ifCond .ne 7, 3) := by decide +kernel
theorem dX12_isHidden_25 : decode cX12_isHidden 25 = .ok (.iconst 1, 1) := by decide +kernel
theorem dX12_isHidden_26 : decode cX12_isHidden 26 = .ok (.goto 4, 3) := by decide +kernel
theorem dX12_isHidden_30 : decode cX12_isHidden 30 = .ok (.istore_n 2, 1) := by decide +kernel
theorem dX12_isHidden_31 : decode cX12_isHidden 31 = .ok (.iconst 0, 1) := by decide +kernel
theorem dX12_isHidden_32 : decode cX12_isHidden 32 = .ok (.istore_n 3, 1) := by decide +kernel
theorem dX12_isHidden_33 : decode cX12_isHidden 33 = .ok (.iload_n 3, 1) := by decide +kernel
theorem dX12_isHidden_34 : decode cX12_isHidden 34 = .ok (.aload_n 0, 1) := by decide +kernel
theorem dX12_isHidden_35 : decode cX12_isHidden 35 = .ok (.getfield 13, 3) := by decide +kernel
theorem dX12_isHidden_38 : decode cX12_isHidden 38 = .ok (.iconst 3, 1) := by decide +kernel
theorem dX12_isHidden_39 : decode cX12_isHidden 39 = .ok (.iaload, 1) := by decide +kernel
theorem dX12_isHidden_40 : decode cX12_isHidden 40 = .ok (.if_icmp .ge 53, 3) := by decide +kernel
theorem dX12_isHidden_93 : decode cX12_isHidden 93 = .ok (.iload_n 2, 1) := by decide +kernel
theorem dX12_isHidden_94 : decode cX12_isHidden 94 = .ok (.ireturn, 1) := by decide +kernel
def yX12_dugCells : MethodName := ⟨RX12, "dugCells", "()I"⟩
abbrev cX12_dugCells : ByteArray := prog_14_method_136_code
theorem dX12_dugCells_0 : decode cX12_dugCells 0 = .ok (.iconst 0, 1) := by decide +kernel
theorem dX12_dugCells_1 : decode cX12_dugCells 1 = .ok (.istore_n 1, 1) := by decide +kernel
theorem dX12_dugCells_2 : decode cX12_dugCells 2 = .ok (.iconst 0, 1) := by decide +kernel
theorem dX12_dugCells_3 : decode cX12_dugCells 3 = .ok (.istore_n 2, 1) := by decide +kernel
theorem dX12_dugCells_4 : decode cX12_dugCells 4 = .ok (.iload_n 2, 1) := by decide +kernel
theorem dX12_dugCells_5 : decode cX12_dugCells 5 = .ok (.bipush 40, 2) := by decide +kernel
theorem dX12_dugCells_7 : decode cX12_dugCells 7 = .ok (.if_icmp .ge 21, 3) := by decide +kernel
theorem dX12_dugCells_10 : decode cX12_dugCells 10 = .ok (.iload_n 1, 1) := by decide +kernel
theorem dX12_dugCells_11 : decode cX12_dugCells 11 = .ok (.aload_n 0, 1) := by decide +kernel
theorem dX12_dugCells_12 : decode cX12_dugCells 12 = .ok (.getfield 13, 3) := by decide +kernel
theorem dX12_dugCells_15 : decode cX12_dugCells 15 = .ok (.bipush 33, 2) := by decide +kernel
theorem dX12_dugCells_17 : decode cX12_dugCells 17 = .ok (.iload_n 2, 1) := by decide +kernel
theorem dX12_dugCells_18 : decode cX12_dugCells 18 = .ok (.iadd, 1) := by decide +kernel
theorem dX12_dugCells_19 : decode cX12_dugCells 19 = .ok (.iaload, 1) := by decide +kernel
theorem dX12_dugCells_20 : decode cX12_dugCells 20 = .ok (.iadd, 1) := by decide +kernel
theorem dX12_dugCells_21 : decode cX12_dugCells 21 = .ok (.istore_n 1, 1) := by decide +kernel
theorem dX12_dugCells_22 : decode cX12_dugCells 22 = .ok (.iinc 2 1, 3) := by decide +kernel
theorem dX12_dugCells_25 : decode cX12_dugCells 25 = .ok (.goto (-21), 3) := by decide +kernel
theorem dX12_dugCells_28 : decode cX12_dugCells 28 = .ok (.iload_n 1, 1) := by decide +kernel
theorem dX12_dugCells_29 : decode cX12_dugCells 29 = .ok (.ireturn, 1) := by decide +kernel
def yX12_digNow : MethodName := ⟨RX12, "digNow", "(II)I"⟩
abbrev cX12_digNow : ByteArray := prog_14_method_90_code
theorem dX12_digNow_0 : decode cX12_digNow 0 = .ok (.iload_n 2, 1) := by decide +kernel
theorem dX12_digNow_1 : decode cX12_digNow 1 = .ok (.i2l, 1) := by decide +kernel
theorem dX12_digNow_2 : decode cX12_digNow 2 = .ok (.lconst 0, 1) := by decide +kernel
theorem dX12_digNow_3 : decode cX12_digNow 3 = .ok (.ldc2_w 442, 3) := by decide +kernel
theorem dX12_digNow_6 : decode cX12_digNow 6 = .ok (.invokestatic 180, 3) := by decide +kernel
theorem dX12_digNow_9 : decode cX12_digNow 9 = .ok (.ifCond .ne 5, 3) := by decide +kernel
theorem dX12_digNow_14 : decode cX12_digNow 14 = .ok (.aload_n 0, 1) := by decide +kernel
theorem dX12_digNow_15 : decode cX12_digNow 15 = .ok (.iload_n 1, 1) := by decide +kernel
theorem dX12_digNow_16 : decode cX12_digNow 16 = .ok (.invokevirtual 221, 3) := by decide +kernel
theorem lk_RX12_221 : Cond.methodLink RX12 221 yX12_isShaft ∈ gW := gW_t 1524 (by decide +kernel) rfl
theorem mI_X12_isShaft : Cond.instanceMethod yX12_isShaft ∈ gW := gW_t 1526 (by decide +kernel) rfl
theorem mS_X12_isShaft : Cond.selects RX12 yX12_isShaft yX12_isShaft ∈ gW := gW_p (q := (yX12_isShaft, 59)) 49 (by decide +kernel)
theorem mC_X12_isShaft : Cond.code yX12_isShaft cX12_isShaft 2 (some .boolean) ∈ gW := gW_t 1527 (by decide +kernel) rfl
theorem ok_X12_isShaft : okD yX12_isShaft 1 := ⟨by decide +kernel, by decide +kernel, by decide +kernel⟩
theorem dX12_digNow_19 : decode cX12_digNow 19 = .ok (.ifCond .ne 6, 3) := by decide +kernel
theorem dX12_digNow_22 : decode cX12_digNow 22 = .ok (.bipush (-2), 2) := by decide +kernel
theorem dX12_digNow_24 : decode cX12_digNow 24 = .ok (.ireturn, 1) := by decide +kernel
theorem dX12_digNow_12 : decode cX12_digNow 12 = .ok (.iconst (-1), 1) := by decide +kernel
theorem dX12_digNow_13 : decode cX12_digNow 13 = .ok (.ireturn, 1) := by decide +kernel
def yX12_haulNow : MethodName := ⟨RX12, "haulNow", "(I)I"⟩
abbrev cX12_haulNow : ByteArray := prog_14_method_94_code
theorem dX12_haulNow_0 : decode cX12_haulNow 0 = .ok (.aload_n 0, 1) := by decide +kernel
theorem dX12_haulNow_1 : decode cX12_haulNow 1 = .ok (.iload_n 1, 1) := by decide +kernel
theorem dX12_haulNow_2 : decode cX12_haulNow 2 = .ok (.invokevirtual 221, 3) := by decide +kernel
theorem dX12_haulNow_5 : decode cX12_haulNow 5 = .ok (.ifCond .ne 6, 3) := by decide +kernel
theorem dX12_haulNow_8 : decode cX12_haulNow 8 = .ok (.bipush (-2), 2) := by decide +kernel
theorem dX12_haulNow_10 : decode cX12_haulNow 10 = .ok (.ireturn, 1) := by decide +kernel
def yX12_hushNow : MethodName := ⟨RX12, "hushNow", "(I)I"⟩
abbrev cX12_hushNow : ByteArray := prog_14_method_96_code
theorem dX12_hushNow_0 : decode cX12_hushNow 0 = .ok (.aload_n 0, 1) := by decide +kernel
theorem dX12_hushNow_1 : decode cX12_hushNow 1 = .ok (.iload_n 1, 1) := by decide +kernel
theorem dX12_hushNow_2 : decode cX12_hushNow 2 = .ok (.invokevirtual 240, 3) := by decide +kernel
theorem lk_RX12_240 : Cond.methodLink RX12 240 yX12_isNoise ∈ gW := gW_t 1601 (by decide +kernel) rfl
theorem mI_X12_isNoise : Cond.instanceMethod yX12_isNoise ∈ gW := gW_t 1603 (by decide +kernel) rfl
theorem mS_X12_isNoise : Cond.selects RX12 yX12_isNoise yX12_isNoise ∈ gW := gW_p (q := (yX12_isNoise, 59)) 58 (by decide +kernel)
theorem mC_X12_isNoise : Cond.code yX12_isNoise cX12_isNoise 2 (some .boolean) ∈ gW := gW_t 1604 (by decide +kernel) rfl
theorem ok_X12_isNoise : okD yX12_isNoise 1 := ⟨by decide +kernel, by decide +kernel, by decide +kernel⟩
theorem dX12_hushNow_5 : decode cX12_hushNow 5 = .ok (.ifCond .ne 6, 3) := by decide +kernel
theorem dX12_hushNow_8 : decode cX12_hushNow 8 = .ok (.bipush (-2), 2) := by decide +kernel
theorem dX12_hushNow_10 : decode cX12_hushNow 10 = .ok (.ireturn, 1) := by decide +kernel
def yX12_lieNow : MethodName := ⟨RX12, "lieNow", "(II)I"⟩
abbrev cX12_lieNow : ByteArray := prog_14_method_98_code
theorem dX12_lieNow_0 : decode cX12_lieNow 0 = .ok (.iload_n 2, 1) := by decide +kernel
theorem dX12_lieNow_1 : decode cX12_lieNow 1 = .ok (.invokestatic 218, 3) := by decide +kernel
theorem lk_RX12_218 : Cond.methodLink RX12 218 yX12_isColumn ∈ gW := gW_t 1547 (by decide +kernel) rfl
theorem mT_X12_isColumn : Cond.static yX12_isColumn ∈ gW := gW_t 1548 (by decide +kernel) rfl
theorem mC_X12_isColumn : Cond.code yX12_isColumn cX12_isColumn 1 (some .boolean) ∈ gW := gW_t 1549 (by decide +kernel) rfl
theorem ok_X12_isColumn : okD yX12_isColumn 1 := ⟨by decide +kernel, by decide +kernel, by decide +kernel⟩
theorem dX12_lieNow_4 : decode cX12_lieNow 4 = .ok (.ifCond .ne 5, 3) := by decide +kernel
theorem dX12_lieNow_9 : decode cX12_lieNow 9 = .ok (.aload_n 0, 1) := by decide +kernel
theorem dX12_lieNow_10 : decode cX12_lieNow 10 = .ok (.iload_n 1, 1) := by decide +kernel
theorem dX12_lieNow_11 : decode cX12_lieNow 11 = .ok (.invokevirtual 237, 3) := by decide +kernel
theorem lk_RX12_237 : Cond.methodLink RX12 237 yX12_isEar ∈ gW := gW_t 1520 (by decide +kernel) rfl
theorem mI_X12_isEar : Cond.instanceMethod yX12_isEar ∈ gW := gW_t 1522 (by decide +kernel) rfl
theorem mS_X12_isEar : Cond.selects RX12 yX12_isEar yX12_isEar ∈ gW := gW_p (q := (yX12_isEar, 59)) 48 (by decide +kernel)
theorem mC_X12_isEar : Cond.code yX12_isEar cX12_isEar 2 (some .boolean) ∈ gW := gW_t 1523 (by decide +kernel) rfl
theorem ok_X12_isEar : okD yX12_isEar 1 := ⟨by decide +kernel, by decide +kernel, by decide +kernel⟩
theorem dX12_lieNow_14 : decode cX12_lieNow 14 = .ok (.ifCond .ne 6, 3) := by decide +kernel
theorem dX12_lieNow_17 : decode cX12_lieNow 17 = .ok (.bipush (-2), 2) := by decide +kernel
theorem dX12_lieNow_19 : decode cX12_lieNow 19 = .ok (.ireturn, 1) := by decide +kernel
theorem dX12_lieNow_7 : decode cX12_lieNow 7 = .ok (.iconst (-1), 1) := by decide +kernel
theorem dX12_lieNow_8 : decode cX12_lieNow 8 = .ok (.ireturn, 1) := by decide +kernel
