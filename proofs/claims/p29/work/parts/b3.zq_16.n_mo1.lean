def yX12_isColumn : MethodName := ⟨RX12, "isColumn", "(I)Z"⟩
abbrev cX12_isColumn : ByteArray := prog_14_method_17_code
theorem dX12_isColumn_0 : decode cX12_isColumn 0 = .ok (.iload_n 0, 1) := by decide +kernel
theorem dX12_isColumn_1 : decode cX12_isColumn 1 = .ok (.i2l, 1) := by decide +kernel
theorem dX12_isColumn_2 : decode cX12_isColumn 2 = .ok (.lconst 0, 1) := by decide +kernel
theorem dX12_isColumn_3 : decode cX12_isColumn 3 = .ok (.ldc2_w 189, 3) := by decide +kernel
theorem ct_RX12_189 : Cond.constantLong RX12 189 7 ∈ gW := gW_u tb_7 110 (by rfl) (by decide +kernel)
theorem dX12_isColumn_6 : decode cX12_isColumn 6 = .ok (.invokestatic 180, 3) := by decide +kernel
theorem dX12_isColumn_9 : decode cX12_isColumn 9 = .ok (.ireturn, 1) := by decide +kernel
def yX12_isShaft : MethodName := ⟨RX12, "isShaft", "(I)Z"⟩
abbrev cX12_isShaft : ByteArray := prog_14_method_18_code
theorem dX12_isShaft_0 : decode cX12_isShaft 0 = .ok (.iload_n 1, 1) := by decide +kernel
theorem dX12_isShaft_1 : decode cX12_isShaft 1 = .ok (.i2l, 1) := by decide +kernel
theorem dX12_isShaft_2 : decode cX12_isShaft 2 = .ok (.lconst 0, 1) := by decide +kernel
theorem dX12_isShaft_3 : decode cX12_isShaft 3 = .ok (.aload_n 0, 1) := by decide +kernel
theorem dX12_isShaft_4 : decode cX12_isShaft 4 = .ok (.getfield 13, 3) := by decide +kernel
theorem dX12_isShaft_7 : decode cX12_isShaft 7 = .ok (.iconst 0, 1) := by decide +kernel
theorem dX12_isShaft_8 : decode cX12_isShaft 8 = .ok (.iaload, 1) := by decide +kernel
theorem dX12_isShaft_9 : decode cX12_isShaft 9 = .ok (.i2l, 1) := by decide +kernel
theorem dX12_isShaft_10 : decode cX12_isShaft 10 = .ok (.lconst 1, 1) := by decide +kernel
theorem dX12_isShaft_11 : decode cX12_isShaft 11 = .ok (.lsub, 1) := by decide +kernel
theorem dX12_isShaft_12 : decode cX12_isShaft 12 = .ok (.invokestatic 180, 3) := by decide +kernel
theorem dX12_isShaft_15 : decode cX12_isShaft 15 = .ok (.ireturn, 1) := by decide +kernel
def yX12_isEar : MethodName := ⟨RX12, "isEar", "(I)Z"⟩
abbrev cX12_isEar : ByteArray := prog_14_method_19_code
theorem dX12_isEar_0 : decode cX12_isEar 0 = .ok (.iload_n 1, 1) := by decide +kernel
theorem dX12_isEar_1 : decode cX12_isEar 1 = .ok (.i2l, 1) := by decide +kernel
theorem dX12_isEar_2 : decode cX12_isEar 2 = .ok (.lconst 0, 1) := by decide +kernel
theorem dX12_isEar_3 : decode cX12_isEar 3 = .ok (.aload_n 0, 1) := by decide +kernel
theorem dX12_isEar_4 : decode cX12_isEar 4 = .ok (.getfield 13, 3) := by decide +kernel
theorem dX12_isEar_7 : decode cX12_isEar 7 = .ok (.iconst 1, 1) := by decide +kernel
theorem dX12_isEar_8 : decode cX12_isEar 8 = .ok (.iaload, 1) := by decide +kernel
theorem dX12_isEar_9 : decode cX12_isEar 9 = .ok (.i2l, 1) := by decide +kernel
theorem dX12_isEar_10 : decode cX12_isEar 10 = .ok (.lconst 1, 1) := by decide +kernel
theorem dX12_isEar_11 : decode cX12_isEar 11 = .ok (.lsub, 1) := by decide +kernel
theorem dX12_isEar_12 : decode cX12_isEar 12 = .ok (.invokestatic 180, 3) := by decide +kernel
theorem dX12_isEar_15 : decode cX12_isEar 15 = .ok (.ireturn, 1) := by decide +kernel
def yX12_isNoise : MethodName := ⟨RX12, "isNoise", "(I)Z"⟩
abbrev cX12_isNoise : ByteArray := prog_14_method_20_code
theorem dX12_isNoise_0 : decode cX12_isNoise 0 = .ok (.iload_n 1, 1) := by decide +kernel
theorem dX12_isNoise_1 : decode cX12_isNoise 1 = .ok (.i2l, 1) := by decide +kernel
theorem dX12_isNoise_2 : decode cX12_isNoise 2 = .ok (.lconst 0, 1) := by decide +kernel
theorem dX12_isNoise_3 : decode cX12_isNoise 3 = .ok (.aload_n 0, 1) := by decide +kernel
theorem dX12_isNoise_4 : decode cX12_isNoise 4 = .ok (.getfield 13, 3) := by decide +kernel
theorem dX12_isNoise_7 : decode cX12_isNoise 7 = .ok (.iconst 2, 1) := by decide +kernel
theorem dX12_isNoise_8 : decode cX12_isNoise 8 = .ok (.iaload, 1) := by decide +kernel
theorem dX12_isNoise_9 : decode cX12_isNoise 9 = .ok (.i2l, 1) := by decide +kernel
theorem dX12_isNoise_10 : decode cX12_isNoise 10 = .ok (.lconst 1, 1) := by decide +kernel
theorem dX12_isNoise_11 : decode cX12_isNoise 11 = .ok (.lsub, 1) := by decide +kernel
theorem dX12_isNoise_12 : decode cX12_isNoise 12 = .ok (.invokestatic 180, 3) := by decide +kernel
theorem dX12_isNoise_15 : decode cX12_isNoise 15 = .ok (.ireturn, 1) := by decide +kernel
def yX12_apart : MethodName := ⟨RX12, "apart", "(II)I"⟩
abbrev cX12_apart : ByteArray := prog_14_method_21_code
theorem dX12_apart_0 : decode cX12_apart 0 = .ok (.iload_n 0, 1) := by decide +kernel
theorem dX12_apart_1 : decode cX12_apart 1 = .ok (.iload_n 1, 1) := by decide +kernel
theorem dX12_apart_2 : decode cX12_apart 2 = .ok (.if_icmp .le 9, 3) := by decide +kernel
theorem dX12_apart_11 : decode cX12_apart 11 = .ok (.iload_n 1, 1) := by decide +kernel
theorem dX12_apart_12 : decode cX12_apart 12 = .ok (.iload_n 0, 1) := by decide +kernel
theorem dX12_apart_13 : decode cX12_apart 13 = .ok (.isub, 1) := by decide +kernel
theorem dX12_apart_14 : decode cX12_apart 14 = .ok (.ireturn, 1) := by decide +kernel
theorem dX12_apart_5 : decode cX12_apart 5 = .ok (.iload_n 0, 1) := by decide +kernel
theorem dX12_apart_6 : decode cX12_apart 6 = .ok (.iload_n 1, 1) := by decide +kernel
theorem dX12_apart_7 : decode cX12_apart 7 = .ok (.isub, 1) := by decide +kernel
theorem dX12_apart_8 : decode cX12_apart 8 = .ok (.goto 6, 3) := by decide +kernel
def yX12_canBe : MethodName := ⟨RX12, "canBe", "(II)Z"⟩
abbrev cX12_canBe : ByteArray := prog_14_method_22_code
theorem dX12_canBe_0 : decode cX12_canBe 0 = .ok (.iload_n 0, 1) := by decide +kernel
theorem dX12_canBe_1 : decode cX12_canBe 1 = .ok (.ifCond .ne 15, 3) := by decide +kernel
theorem dX12_canBe_16 : decode cX12_canBe 16 = .ok (.iload_n 0, 1) := by decide +kernel
theorem dX12_canBe_17 : decode cX12_canBe 17 = .ok (.iconst 1, 1) := by decide +kernel
theorem dX12_canBe_18 : decode cX12_canBe 18 = .ok (.if_icmp .ne 15, 3) := by decide +kernel
theorem dX12_canBe_33 : decode cX12_canBe 33 = .ok (.iload_n 0, 1) := by decide +kernel
theorem dX12_canBe_34 : decode cX12_canBe 34 = .ok (.iconst 2, 1) := by decide +kernel
theorem dX12_canBe_35 : decode cX12_canBe 35 = .ok (.if_icmp .ne 19, 3) := by decide +kernel
theorem dX12_canBe_54 : decode cX12_canBe 54 = .ok (.iconst 0, 1) := by decide +kernel
theorem dX12_canBe_55 : decode cX12_canBe 55 = .ok (.ireturn, 1) := by decide +kernel
theorem dX12_canBe_38 : decode cX12_canBe 38 = .ok (.iload_n 1, 1) := by decide +kernel
theorem dX12_canBe_39 : decode cX12_canBe 39 = .ok (.i2l, 1) := by decide +kernel
theorem dX12_canBe_40 : decode cX12_canBe 40 = .ok (.lconst 0, 1) := by decide +kernel
theorem dX12_canBe_41 : decode cX12_canBe 41 = .ok (.ldc2_w 195, 3) := by decide +kernel
theorem ct_RX12_195 : Cond.constantLong RX12 195 99 ∈ gW := gW_u tb_7 51 (by rfl) (by decide +kernel)
theorem dX12_canBe_44 : decode cX12_canBe 44 = .ok (.invokestatic 180, 3) := by decide +kernel
theorem dX12_canBe_47 : decode cX12_canBe 47 = .ok (.ifCond .eq 7, 3) := by decide +kernel
theorem dX12_canBe_50 : decode cX12_canBe 50 = .ok (.iconst 1, 1) := by decide +kernel
theorem dX12_canBe_51 : decode cX12_canBe 51 = .ok (.goto 4, 3) := by decide +kernel
theorem dX12_canBe_21 : decode cX12_canBe 21 = .ok (.iload_n 1, 1) := by decide +kernel
theorem dX12_canBe_22 : decode cX12_canBe 22 = .ok (.i2l, 1) := by decide +kernel
theorem dX12_canBe_23 : decode cX12_canBe 23 = .ok (.lconst 1, 1) := by decide +kernel
theorem dX12_canBe_24 : decode cX12_canBe 24 = .ok (.ldc2_w 193, 3) := by decide +kernel
theorem ct_RX12_193 : Cond.constantLong RX12 193 9 ∈ gW := gW_u tb_7 50 (by rfl) (by decide +kernel)
theorem dX12_canBe_27 : decode cX12_canBe 27 = .ok (.invokestatic 180, 3) := by decide +kernel
theorem dX12_canBe_30 : decode cX12_canBe 30 = .ok (.goto 25, 3) := by decide +kernel
theorem dX12_canBe_4 : decode cX12_canBe 4 = .ok (.iload_n 1, 1) := by decide +kernel
theorem dX12_canBe_5 : decode cX12_canBe 5 = .ok (.i2l, 1) := by decide +kernel
theorem dX12_canBe_6 : decode cX12_canBe 6 = .ok (.lconst 0, 1) := by decide +kernel
theorem dX12_canBe_7 : decode cX12_canBe 7 = .ok (.ldc2_w 191, 3) := by decide +kernel
theorem ct_RX12_191 : Cond.constantLong RX12 191 3 ∈ gW := gW_u tb_7 49 (by rfl) (by decide +kernel)
theorem dX12_canBe_10 : decode cX12_canBe 10 = .ok (.invokestatic 180, 3) := by decide +kernel
theorem dX12_canBe_13 : decode cX12_canBe 13 = .ok (.goto 42, 3) := by decide +kernel
def yX12_placeOf : MethodName := ⟨RX12, "placeOf", "(I)I"⟩
abbrev cX12_placeOf : ByteArray := prog_14_method_23_code
theorem dX12_placeOf_0 : decode cX12_placeOf 0 = .ok (.iload_n 0, 1) := by decide +kernel
theorem dX12_placeOf_1 : decode cX12_placeOf 1 = .ok (.ifCond .ne 8, 3) := by decide +kernel
theorem dX12_placeOf_9 : decode cX12_placeOf 9 = .ok (.iload_n 0, 1) := by decide +kernel
theorem dX12_placeOf_10 : decode cX12_placeOf 10 = .ok (.iconst 1, 1) := by decide +kernel
theorem dX12_placeOf_11 : decode cX12_placeOf 11 = .ok (.if_icmp .ne 9, 3) := by decide +kernel
theorem dX12_placeOf_20 : decode cX12_placeOf 20 = .ok (.bipush 73, 2) := by decide +kernel
theorem dX12_placeOf_22 : decode cX12_placeOf 22 = .ok (.ireturn, 1) := by decide +kernel
theorem dX12_placeOf_14 : decode cX12_placeOf 14 = .ok (.sipush 153, 3) := by decide +kernel
theorem dX12_placeOf_17 : decode cX12_placeOf 17 = .ok (.goto 5, 3) := by decide +kernel
theorem dX12_placeOf_4 : decode cX12_placeOf 4 = .ok (.bipush 113, 2) := by decide +kernel
theorem dX12_placeOf_6 : decode cX12_placeOf 6 = .ok (.goto 16, 3) := by decide +kernel
def yX12_put : MethodName := ⟨RX12, "put", "(III)I"⟩
abbrev cX12_put : ByteArray := prog_14_method_24_code
theorem dX12_put_0 : decode cX12_put 0 = .ok (.aload_n 0, 1) := by decide +kernel
theorem dX12_put_1 : decode cX12_put 1 = .ok (.iconst 0, 1) := by decide +kernel
theorem dX12_put_2 : decode cX12_put 2 = .ok (.putfield 156, 3) := by decide +kernel
theorem dX12_put_5 : decode cX12_put 5 = .ok (.iload_n 1, 1) := by decide +kernel
theorem dX12_put_6 : decode cX12_put 6 = .ok (.invokestatic 197, 3) := by decide +kernel
theorem lk_RX12_197 : Cond.methodLink RX12 197 yX12_isCell ∈ gW := gW_u tb_7 42 (by rfl) (by decide +kernel)
theorem mT_X12_isCell : Cond.static yX12_isCell ∈ gW := gW_u tb_7 43 (by rfl) (by decide +kernel)
theorem mC_X12_isCell : Cond.code yX12_isCell cX12_isCell 1 (some .boolean) ∈ gW := gW_u tb_7 44 (by rfl) (by decide +kernel)
theorem ok_X12_isCell : okD yX12_isCell 1 := ⟨by decide +kernel, by decide +kernel, by decide +kernel⟩
theorem dX12_put_9 : decode cX12_put 9 = .ok (.ifCond .eq 11, 3) := by decide +kernel
theorem dX12_put_20 : decode cX12_put 20 = .ok (.aload_n 0, 1) := by decide +kernel
theorem dX12_put_21 : decode cX12_put 21 = .ok (.iconst (-1), 1) := by decide +kernel
theorem dX12_put_22 : decode cX12_put 22 = .ok (.invokevirtual 169, 3) := by decide +kernel
theorem dX12_put_25 : decode cX12_put 25 = .ok (.ireturn, 1) := by decide +kernel
theorem dX12_put_12 : decode cX12_put 12 = .ok (.iload_n 2, 1) := by decide +kernel
theorem dX12_put_13 : decode cX12_put 13 = .ok (.iload_n 3, 1) := by decide +kernel
theorem dX12_put_14 : decode cX12_put 14 = .ok (.invokestatic 201, 3) := by decide +kernel
theorem lk_RX12_201 : Cond.methodLink RX12 201 yX12_canBe ∈ gW := gW_u tb_7 46 (by rfl) (by decide +kernel)
theorem mT_X12_canBe : Cond.static yX12_canBe ∈ gW := gW_u tb_7 47 (by rfl) (by decide +kernel)
theorem mC_X12_canBe : Cond.code yX12_canBe cX12_canBe 2 (some .boolean) ∈ gW := gW_u tb_7 48 (by rfl) (by decide +kernel)
theorem ok_X12_canBe : okD yX12_canBe 2 := ⟨by decide +kernel, by decide +kernel, by decide +kernel⟩
theorem dX12_put_17 : decode cX12_put 17 = .ok (.ifCond .ne 9, 3) := by decide +kernel
theorem dX12_put_26 : decode cX12_put 26 = .ok (.iload_n 2, 1) := by decide +kernel
theorem dX12_put_27 : decode cX12_put 27 = .ok (.ifCond .ne 23, 3) := by decide +kernel
theorem dX12_put_30 : decode cX12_put 30 = .ok (.aload_n 0, 1) := by decide +kernel
theorem dX12_put_31 : decode cX12_put 31 = .ok (.getfield 13, 3) := by decide +kernel
theorem dX12_put_34 : decode cX12_put 34 = .ok (.bipush 33, 2) := by decide +kernel
theorem dX12_put_36 : decode cX12_put 36 = .ok (.iload_n 1, 1) := by decide +kernel
theorem dX12_put_37 : decode cX12_put 37 = .ok (.iadd, 1) := by decide +kernel
theorem dX12_put_38 : decode cX12_put 38 = .ok (.iaload, 1) := by decide +kernel
theorem dX12_put_39 : decode cX12_put 39 = .ok (.iconst 1, 1) := by decide +kernel
theorem dX12_put_40 : decode cX12_put 40 = .ok (.if_icmp .ne 10, 3) := by decide +kernel
theorem dX12_put_43 : decode cX12_put 43 = .ok (.aload_n 0, 1) := by decide +kernel
theorem dX12_put_44 : decode cX12_put 44 = .ok (.bipush (-3), 2) := by decide +kernel
theorem dX12_put_46 : decode cX12_put 46 = .ok (.invokevirtual 169, 3) := by decide +kernel
theorem dX12_put_49 : decode cX12_put 49 = .ok (.ireturn, 1) := by decide +kernel
theorem dX12_put_50 : decode cX12_put 50 = .ok (.aload_n 0, 1) := by decide +kernel
theorem dX12_put_51 : decode cX12_put 51 = .ok (.iconst 0, 1) := by decide +kernel
theorem dX12_put_52 : decode cX12_put 52 = .ok (.putfield 166, 3) := by decide +kernel
theorem dX12_put_55 : decode cX12_put 55 = .ok (.aload_n 0, 1) := by decide +kernel
theorem dX12_put_56 : decode cX12_put 56 = .ok (.iload_n 2, 1) := by decide +kernel
theorem dX12_put_57 : decode cX12_put 57 = .ok (.invokestatic 205, 3) := by decide +kernel
theorem lk_RX12_205 : Cond.methodLink RX12 205 yX12_placeOf ∈ gW := gW_u tb_7 52 (by rfl) (by decide +kernel)
theorem mT_X12_placeOf : Cond.static yX12_placeOf ∈ gW := gW_u tb_7 53 (by rfl) (by decide +kernel)
theorem mC_X12_placeOf : Cond.code yX12_placeOf cX12_placeOf 1 (some .int) ∈ gW := gW_u tb_7 54 (by rfl) (by decide +kernel)
theorem ok_X12_placeOf : okD yX12_placeOf 1 := ⟨by decide +kernel, by decide +kernel, by decide +kernel⟩
theorem dX12_put_60 : decode cX12_put 60 = .ok (.iload_n 1, 1) := by decide +kernel
theorem dX12_put_61 : decode cX12_put 61 = .ok (.iadd, 1) := by decide +kernel
theorem dX12_put_62 : decode cX12_put 62 = .ok (.iload_n 3, 1) := by decide +kernel
theorem dX12_put_63 : decode cX12_put 63 = .ok (.invokevirtual 208, 3) := by decide +kernel
theorem lk_RX12_208 : Cond.methodLink RX12 208 yX12_change ∈ gW := gW_u tb_7 55 (by rfl) (by decide +kernel)
theorem mI_X12_change : Cond.instanceMethod yX12_change ∈ gW := gW_u tb_7 57 (by rfl) (by decide +kernel)
theorem mS_X12_change : Cond.selects RX12 yX12_change yX12_change ∈ gW := gW_p (q := (yX12_change, 59)) 43 (by decide +kernel)
theorem mC_X12_change : Cond.code yX12_change cX12_change 4 (some .int) ∈ gW := gW_u tb_7 58 (by rfl) (by decide +kernel)
theorem ok_X12_change : okD yX12_change 2 := ⟨by decide +kernel, by decide +kernel, by decide +kernel⟩
theorem dX12_put_66 : decode cX12_put 66 = .ok (.ireturn, 1) := by decide +kernel
def yX12_sink : MethodName := ⟨RX12, "sink", "(I)I"⟩
abbrev cX12_sink : ByteArray := prog_14_method_26_code
theorem dX12_sink_0 : decode cX12_sink 0 = .ok (.aload_n 0, 1) := by decide +kernel
theorem dX12_sink_1 : decode cX12_sink 1 = .ok (.iconst 0, 1) := by decide +kernel
theorem dX12_sink_2 : decode cX12_sink 2 = .ok (.putfield 156, 3) := by decide +kernel
theorem dX12_sink_5 : decode cX12_sink 5 = .ok (.iload_n 1, 1) := by decide +kernel
theorem dX12_sink_6 : decode cX12_sink 6 = .ok (.invokestatic 218, 3) := by decide +kernel
theorem lk_RX12_218 : Cond.methodLink RX12 218 yX12_isColumn ∈ gW := gW_u tb_7 107 (by rfl) (by decide +kernel)
theorem mT_X12_isColumn : Cond.static yX12_isColumn ∈ gW := gW_u tb_7 108 (by rfl) (by decide +kernel)
theorem mC_X12_isColumn : Cond.code yX12_isColumn cX12_isColumn 1 (some .boolean) ∈ gW := gW_u tb_7 109 (by rfl) (by decide +kernel)
theorem ok_X12_isColumn : okD yX12_isColumn 1 := ⟨by decide +kernel, by decide +kernel, by decide +kernel⟩
theorem dX12_sink_9 : decode cX12_sink 9 = .ok (.ifCond .ne 9, 3) := by decide +kernel
theorem dX12_sink_18 : decode cX12_sink 18 = .ok (.aload_n 0, 1) := by decide +kernel
theorem dX12_sink_19 : decode cX12_sink 19 = .ok (.getfield 13, 3) := by decide +kernel
theorem dX12_sink_22 : decode cX12_sink 22 = .ok (.bipush 33, 2) := by decide +kernel
theorem dX12_sink_24 : decode cX12_sink 24 = .ok (.iload_n 1, 1) := by decide +kernel
theorem dX12_sink_25 : decode cX12_sink 25 = .ok (.iadd, 1) := by decide +kernel
theorem dX12_sink_26 : decode cX12_sink 26 = .ok (.iaload, 1) := by decide +kernel
theorem dX12_sink_27 : decode cX12_sink 27 = .ok (.iconst 1, 1) := by decide +kernel
theorem dX12_sink_28 : decode cX12_sink 28 = .ok (.if_icmp .eq 16, 3) := by decide +kernel
theorem dX12_sink_44 : decode cX12_sink 44 = .ok (.aload_n 0, 1) := by decide +kernel
theorem dX12_sink_45 : decode cX12_sink 45 = .ok (.bipush (-3), 2) := by decide +kernel
theorem dX12_sink_47 : decode cX12_sink 47 = .ok (.invokevirtual 169, 3) := by decide +kernel
theorem dX12_sink_50 : decode cX12_sink 50 = .ok (.ireturn, 1) := by decide +kernel
theorem dX12_sink_31 : decode cX12_sink 31 = .ok (.aload_n 0, 1) := by decide +kernel
theorem dX12_sink_32 : decode cX12_sink 32 = .ok (.getfield 13, 3) := by decide +kernel
theorem dX12_sink_35 : decode cX12_sink 35 = .ok (.bipush 113, 2) := by decide +kernel
theorem dX12_sink_37 : decode cX12_sink 37 = .ok (.iload_n 1, 1) := by decide +kernel
theorem dX12_sink_38 : decode cX12_sink 38 = .ok (.iadd, 1) := by decide +kernel
theorem dX12_sink_39 : decode cX12_sink 39 = .ok (.iaload, 1) := by decide +kernel
theorem dX12_sink_40 : decode cX12_sink 40 = .ok (.iconst 1, 1) := by decide +kernel
theorem dX12_sink_41 : decode cX12_sink 41 = .ok (.if_icmp .ne 10, 3) := by decide +kernel
theorem dX12_sink_51 : decode cX12_sink 51 = .ok (.aload_n 0, 1) := by decide +kernel
theorem dX12_sink_52 : decode cX12_sink 52 = .ok (.getfield 13, 3) := by decide +kernel
theorem dX12_sink_55 : decode cX12_sink 55 = .ok (.iconst 0, 1) := by decide +kernel
theorem dX12_sink_56 : decode cX12_sink 56 = .ok (.iaload, 1) := by decide +kernel
theorem dX12_sink_57 : decode cX12_sink 57 = .ok (.istore_n 2, 1) := by decide +kernel
theorem dX12_sink_58 : decode cX12_sink 58 = .ok (.iload_n 2, 1) := by decide +kernel
theorem dX12_sink_59 : decode cX12_sink 59 = .ok (.bipush 6, 2) := by decide +kernel
theorem dX12_sink_61 : decode cX12_sink 61 = .ok (.if_icmp .ne 10, 3) := by decide +kernel
theorem dX12_sink_71 : decode cX12_sink 71 = .ok (.aload_n 0, 1) := by decide +kernel
theorem dX12_sink_72 : decode cX12_sink 72 = .ok (.getfield 13, 3) := by decide +kernel
theorem dX12_sink_75 : decode cX12_sink 75 = .ok (.bipush 10, 2) := by decide +kernel
theorem dX12_sink_77 : decode cX12_sink 77 = .ok (.iload_n 2, 1) := by decide +kernel
theorem dX12_sink_78 : decode cX12_sink 78 = .ok (.iadd, 1) := by decide +kernel
theorem dX12_sink_79 : decode cX12_sink 79 = .ok (.iload_n 1, 1) := by decide +kernel
theorem dX12_sink_80 : decode cX12_sink 80 = .ok (.iastore, 1) := by decide +kernel
theorem dX12_sink_81 : decode cX12_sink 81 = .ok (.aload_n 0, 1) := by decide +kernel
theorem dX12_sink_82 : decode cX12_sink 82 = .ok (.getfield 13, 3) := by decide +kernel
theorem dX12_sink_85 : decode cX12_sink 85 = .ok (.bipush 16, 2) := by decide +kernel
theorem dX12_sink_87 : decode cX12_sink 87 = .ok (.iload_n 2, 1) := by decide +kernel
theorem dX12_sink_88 : decode cX12_sink 88 = .ok (.iadd, 1) := by decide +kernel
theorem dX12_sink_89 : decode cX12_sink 89 = .ok (.iconst 0, 1) := by decide +kernel
theorem dX12_sink_90 : decode cX12_sink 90 = .ok (.iastore, 1) := by decide +kernel
theorem dX12_sink_91 : decode cX12_sink 91 = .ok (.aload_n 0, 1) := by decide +kernel
theorem dX12_sink_92 : decode cX12_sink 92 = .ok (.getfield 13, 3) := by decide +kernel
theorem dX12_sink_95 : decode cX12_sink 95 = .ok (.bipush 33, 2) := by decide +kernel
theorem dX12_sink_97 : decode cX12_sink 97 = .ok (.iload_n 1, 1) := by decide +kernel
theorem dX12_sink_98 : decode cX12_sink 98 = .ok (.iadd, 1) := by decide +kernel
theorem dX12_sink_99 : decode cX12_sink 99 = .ok (.iconst 1, 1) := by decide +kernel
theorem dX12_sink_100 : decode cX12_sink 100 = .ok (.iastore, 1) := by decide +kernel
theorem dX12_sink_101 : decode cX12_sink 101 = .ok (.aload_n 0, 1) := by decide +kernel
theorem dX12_sink_102 : decode cX12_sink 102 = .ok (.getfield 13, 3) := by decide +kernel
theorem dX12_sink_105 : decode cX12_sink 105 = .ok (.iconst 0, 1) := by decide +kernel
theorem dX12_sink_106 : decode cX12_sink 106 = .ok (.dup2, 1) := by decide +kernel
theorem dX12_sink_107 : decode cX12_sink 107 = .ok (.iaload, 1) := by decide +kernel
theorem dX12_sink_108 : decode cX12_sink 108 = .ok (.iconst 1, 1) := by decide +kernel
theorem dX12_sink_109 : decode cX12_sink 109 = .ok (.iadd, 1) := by decide +kernel
theorem dX12_sink_110 : decode cX12_sink 110 = .ok (.iastore, 1) := by decide +kernel
theorem dX12_sink_111 : decode cX12_sink 111 = .ok (.aload_n 0, 1) := by decide +kernel
theorem dX12_sink_112 : decode cX12_sink 112 = .ok (.iload_n 2, 1) := by decide +kernel
theorem dX12_sink_113 : decode cX12_sink 113 = .ok (.invokevirtual 184, 3) := by decide +kernel
theorem dX12_sink_116 : decode cX12_sink 116 = .ok (.ireturn, 1) := by decide +kernel
theorem dX12_sink_64 : decode cX12_sink 64 = .ok (.aload_n 0, 1) := by decide +kernel
theorem dX12_sink_65 : decode cX12_sink 65 = .ok (.bipush (-5), 2) := by decide +kernel
theorem dX12_sink_67 : decode cX12_sink 67 = .ok (.invokevirtual 169, 3) := by decide +kernel
theorem dX12_sink_70 : decode cX12_sink 70 = .ok (.ireturn, 1) := by decide +kernel
theorem dX12_sink_12 : decode cX12_sink 12 = .ok (.aload_n 0, 1) := by decide +kernel
theorem dX12_sink_13 : decode cX12_sink 13 = .ok (.iconst (-1), 1) := by decide +kernel
theorem dX12_sink_14 : decode cX12_sink 14 = .ok (.invokevirtual 169, 3) := by decide +kernel
theorem dX12_sink_17 : decode cX12_sink 17 = .ok (.ireturn, 1) := by decide +kernel
def yX12_isSpoilt : MethodName := ⟨RX12, "isSpoilt", "(I)Z"⟩
abbrev cX12_isSpoilt : ByteArray := prog_14_method_27_code
theorem dX12_isSpoilt_0 : decode cX12_isSpoilt 0 = .ok (.aload_n 0, 1) := by decide +kernel
theorem dX12_isSpoilt_1 : decode cX12_isSpoilt 1 = .ok (.getfield 13, 3) := by decide +kernel
theorem dX12_isSpoilt_4 : decode cX12_isSpoilt 4 = .ok (.bipush 113, 2) := by decide +kernel
theorem dX12_isSpoilt_6 : decode cX12_isSpoilt 6 = .ok (.aload_n 0, 1) := by decide +kernel
theorem dX12_isSpoilt_7 : decode cX12_isSpoilt 7 = .ok (.getfield 13, 3) := by decide +kernel
theorem dX12_isSpoilt_10 : decode cX12_isSpoilt 10 = .ok (.bipush 10, 2) := by decide +kernel
theorem dX12_isSpoilt_12 : decode cX12_isSpoilt 12 = .ok (.iload_n 1, 1) := by decide +kernel
theorem dX12_isSpoilt_13 : decode cX12_isSpoilt 13 = .ok (.iadd, 1) := by decide +kernel
theorem dX12_isSpoilt_14 : decode cX12_isSpoilt 14 = .ok (.iaload, 1) := by decide +kernel
theorem dX12_isSpoilt_15 : decode cX12_isSpoilt 15 = .ok (.iadd, 1) := by decide +kernel
theorem dX12_isSpoilt_16 : decode cX12_isSpoilt 16 = .ok (.iaload, 1) := by decide +kernel
theorem dX12_isSpoilt_17 : decode cX12_isSpoilt 17 = .ok (.iconst 2, 1) := by decide +kernel
theorem dX12_isSpoilt_18 : decode cX12_isSpoilt 18 = .ok (.if_icmp .ne 7, 3) := by decide +kernel
theorem dX12_isSpoilt_25 : decode cX12_isSpoilt 25 = .ok (.iconst 0, 1) := by decide +kernel
theorem dX12_isSpoilt_26 : decode cX12_isSpoilt 26 = .ok (.ireturn, 1) := by decide +kernel
theorem dX12_isSpoilt_21 : decode cX12_isSpoilt 21 = .ok (.iconst 1, 1) := by decide +kernel
theorem dX12_isSpoilt_22 : decode cX12_isSpoilt 22 = .ok (.goto 4, 3) := by decide +kernel
def yX12_hasFound : MethodName := ⟨RX12, "hasFound", "(I)Z"⟩
abbrev cX12_hasFound : ByteArray := prog_14_method_28_code
theorem dX12_hasFound_0 : decode cX12_hasFound 0 = .ok (.aload_n 0, 1) := by decide +kernel
theorem dX12_hasFound_1 : decode cX12_hasFound 1 = .ok (.getfield 13, 3) := by decide +kernel
theorem dX12_hasFound_4 : decode cX12_hasFound 4 = .ok (.bipush 113, 2) := by decide +kernel
theorem dX12_hasFound_6 : decode cX12_hasFound 6 = .ok (.aload_n 0, 1) := by decide +kernel
theorem dX12_hasFound_7 : decode cX12_hasFound 7 = .ok (.getfield 13, 3) := by decide +kernel
theorem dX12_hasFound_10 : decode cX12_hasFound 10 = .ok (.bipush 10, 2) := by decide +kernel
theorem dX12_hasFound_12 : decode cX12_hasFound 12 = .ok (.iload_n 1, 1) := by decide +kernel
theorem dX12_hasFound_13 : decode cX12_hasFound 13 = .ok (.iadd, 1) := by decide +kernel
theorem dX12_hasFound_14 : decode cX12_hasFound 14 = .ok (.iaload, 1) := by decide +kernel
theorem dX12_hasFound_15 : decode cX12_hasFound 15 = .ok (.iadd, 1) := by decide +kernel
theorem dX12_hasFound_16 : decode cX12_hasFound 16 = .ok (.iaload, 1) := by decide +kernel
theorem dX12_hasFound_17 : decode cX12_hasFound 17 = .ok (.iconst 3, 1) := by decide +kernel
theorem dX12_hasFound_18 : decode cX12_hasFound 18 = .ok (.if_icmp .ne 7, 3) := by decide +kernel
theorem dX12_hasFound_25 : decode cX12_hasFound 25 = .ok (.iconst 0, 1) := by decide +kernel
theorem dX12_hasFound_26 : decode cX12_hasFound 26 = .ok (.ireturn, 1) := by decide +kernel
theorem dX12_hasFound_21 : decode cX12_hasFound 21 = .ok (.iconst 1, 1) := by decide +kernel
theorem dX12_hasFound_22 : decode cX12_hasFound 22 = .ok (.goto 4, 3) := by decide +kernel
def yX12_listener : MethodName := ⟨RX12, "listener", "(II)I"⟩
abbrev cX12_listener : ByteArray := prog_14_method_30_code
theorem dX12_listener_0 : decode cX12_listener 0 = .ok (.aload_n 0, 1) := by decide +kernel
theorem dX12_listener_1 : decode cX12_listener 1 = .ok (.iconst 0, 1) := by decide +kernel
theorem dX12_listener_2 : decode cX12_listener 2 = .ok (.putfield 156, 3) := by decide +kernel
theorem dX12_listener_5 : decode cX12_listener 5 = .ok (.iload_n 1, 1) := by decide +kernel
theorem dX12_listener_6 : decode cX12_listener 6 = .ok (.invokestatic 218, 3) := by decide +kernel
theorem dX12_listener_9 : decode cX12_listener 9 = .ok (.ifCond .eq 15, 3) := by decide +kernel
theorem dX12_listener_24 : decode cX12_listener 24 = .ok (.aload_n 0, 1) := by decide +kernel
theorem dX12_listener_25 : decode cX12_listener 25 = .ok (.iconst (-1), 1) := by decide +kernel
theorem dX12_listener_26 : decode cX12_listener 26 = .ok (.invokevirtual 169, 3) := by decide +kernel
theorem dX12_listener_29 : decode cX12_listener 29 = .ok (.ireturn, 1) := by decide +kernel
theorem dX12_listener_12 : decode cX12_listener 12 = .ok (.iload_n 2, 1) := by decide +kernel
theorem dX12_listener_13 : decode cX12_listener 13 = .ok (.i2l, 1) := by decide +kernel
theorem dX12_listener_14 : decode cX12_listener 14 = .ok (.lconst 0, 1) := by decide +kernel
theorem dX12_listener_15 : decode cX12_listener 15 = .ok (.ldc2_w 233, 3) := by decide +kernel
theorem ct_RX12_233 : Cond.constantLong RX12 233 20 ∈ gW := gW_u tb_7 67 (by rfl) (by decide +kernel)
theorem dX12_listener_18 : decode cX12_listener 18 = .ok (.invokestatic 180, 3) := by decide +kernel
theorem dX12_listener_21 : decode cX12_listener 21 = .ok (.ifCond .ne 9, 3) := by decide +kernel
theorem dX12_listener_30 : decode cX12_listener 30 = .ok (.aload_n 0, 1) := by decide +kernel
theorem dX12_listener_31 : decode cX12_listener 31 = .ok (.getfield 13, 3) := by decide +kernel
theorem dX12_listener_34 : decode cX12_listener 34 = .ok (.iconst 1, 1) := by decide +kernel
theorem dX12_listener_35 : decode cX12_listener 35 = .ok (.iaload, 1) := by decide +kernel
theorem dX12_listener_36 : decode cX12_listener 36 = .ok (.istore_n 3, 1) := by decide +kernel
theorem dX12_listener_37 : decode cX12_listener 37 = .ok (.iload_n 3, 1) := by decide +kernel
theorem dX12_listener_38 : decode cX12_listener 38 = .ok (.iconst 5, 1) := by decide +kernel
theorem dX12_listener_39 : decode cX12_listener 39 = .ok (.if_icmp .ne 10, 3) := by decide +kernel
theorem dX12_listener_49 : decode cX12_listener 49 = .ok (.aload_n 0, 1) := by decide +kernel
theorem dX12_listener_50 : decode cX12_listener 50 = .ok (.getfield 13, 3) := by decide +kernel
theorem dX12_listener_53 : decode cX12_listener 53 = .ok (.bipush 28, 2) := by decide +kernel
theorem dX12_listener_55 : decode cX12_listener 55 = .ok (.iload_n 3, 1) := by decide +kernel
theorem dX12_listener_56 : decode cX12_listener 56 = .ok (.iadd, 1) := by decide +kernel
theorem dX12_listener_57 : decode cX12_listener 57 = .ok (.iload_n 1, 1) := by decide +kernel
theorem dX12_listener_58 : decode cX12_listener 58 = .ok (.iastore, 1) := by decide +kernel
theorem dX12_listener_59 : decode cX12_listener 59 = .ok (.aload_n 0, 1) := by decide +kernel
theorem dX12_listener_60 : decode cX12_listener 60 = .ok (.getfield 13, 3) := by decide +kernel
theorem dX12_listener_63 : decode cX12_listener 63 = .ok (.sipush 193, 3) := by decide +kernel
theorem dX12_listener_66 : decode cX12_listener 66 = .ok (.iload_n 3, 1) := by decide +kernel
theorem dX12_listener_67 : decode cX12_listener 67 = .ok (.iadd, 1) := by decide +kernel
theorem dX12_listener_68 : decode cX12_listener 68 = .ok (.iload_n 2, 1) := by decide +kernel
theorem dX12_listener_69 : decode cX12_listener 69 = .ok (.iastore, 1) := by decide +kernel
theorem dX12_listener_70 : decode cX12_listener 70 = .ok (.aload_n 0, 1) := by decide +kernel
theorem dX12_listener_71 : decode cX12_listener 71 = .ok (.getfield 13, 3) := by decide +kernel
theorem dX12_listener_74 : decode cX12_listener 74 = .ok (.iconst 1, 1) := by decide +kernel
theorem dX12_listener_75 : decode cX12_listener 75 = .ok (.dup2, 1) := by decide +kernel
theorem dX12_listener_76 : decode cX12_listener 76 = .ok (.iaload, 1) := by decide +kernel
theorem dX12_listener_77 : decode cX12_listener 77 = .ok (.iconst 1, 1) := by decide +kernel
theorem dX12_listener_78 : decode cX12_listener 78 = .ok (.iadd, 1) := by decide +kernel
theorem dX12_listener_79 : decode cX12_listener 79 = .ok (.iastore, 1) := by decide +kernel
theorem dX12_listener_80 : decode cX12_listener 80 = .ok (.aload_n 0, 1) := by decide +kernel
theorem dX12_listener_81 : decode cX12_listener 81 = .ok (.iload_n 3, 1) := by decide +kernel
theorem dX12_listener_82 : decode cX12_listener 82 = .ok (.invokevirtual 184, 3) := by decide +kernel
theorem dX12_listener_85 : decode cX12_listener 85 = .ok (.ireturn, 1) := by decide +kernel
theorem dX12_listener_42 : decode cX12_listener 42 = .ok (.aload_n 0, 1) := by decide +kernel
theorem dX12_listener_43 : decode cX12_listener 43 = .ok (.bipush (-5), 2) := by decide +kernel
theorem dX12_listener_45 : decode cX12_listener 45 = .ok (.invokevirtual 169, 3) := by decide +kernel
theorem dX12_listener_48 : decode cX12_listener 48 = .ok (.ireturn, 1) := by decide +kernel
def yX12_noise : MethodName := ⟨RX12, "noise", "(II)I"⟩
abbrev cX12_noise : ByteArray := prog_14_method_31_code
theorem dX12_noise_0 : decode cX12_noise 0 = .ok (.aload_n 0, 1) := by decide +kernel
theorem dX12_noise_1 : decode cX12_noise 1 = .ok (.iconst 0, 1) := by decide +kernel
theorem dX12_noise_2 : decode cX12_noise 2 = .ok (.putfield 156, 3) := by decide +kernel
theorem dX12_noise_5 : decode cX12_noise 5 = .ok (.iload_n 1, 1) := by decide +kernel
theorem dX12_noise_6 : decode cX12_noise 6 = .ok (.invokestatic 218, 3) := by decide +kernel
theorem dX12_noise_9 : decode cX12_noise 9 = .ok (.ifCond .eq 15, 3) := by decide +kernel
theorem dX12_noise_24 : decode cX12_noise 24 = .ok (.aload_n 0, 1) := by decide +kernel
theorem dX12_noise_25 : decode cX12_noise 25 = .ok (.iconst (-1), 1) := by decide +kernel
theorem dX12_noise_26 : decode cX12_noise 26 = .ok (.invokevirtual 169, 3) := by decide +kernel
theorem dX12_noise_29 : decode cX12_noise 29 = .ok (.ireturn, 1) := by decide +kernel
theorem dX12_noise_12 : decode cX12_noise 12 = .ok (.iload_n 2, 1) := by decide +kernel
theorem dX12_noise_13 : decode cX12_noise 13 = .ok (.i2l, 1) := by decide +kernel
theorem dX12_noise_14 : decode cX12_noise 14 = .ok (.lconst 0, 1) := by decide +kernel
theorem dX12_noise_15 : decode cX12_noise 15 = .ok (.ldc2_w 233, 3) := by decide +kernel
theorem dX12_noise_18 : decode cX12_noise 18 = .ok (.invokestatic 180, 3) := by decide +kernel
theorem dX12_noise_21 : decode cX12_noise 21 = .ok (.ifCond .ne 9, 3) := by decide +kernel
theorem dX12_noise_30 : decode cX12_noise 30 = .ok (.aload_n 0, 1) := by decide +kernel
theorem dX12_noise_31 : decode cX12_noise 31 = .ok (.getfield 13, 3) := by decide +kernel
theorem dX12_noise_34 : decode cX12_noise 34 = .ok (.iconst 2, 1) := by decide +kernel
theorem dX12_noise_35 : decode cX12_noise 35 = .ok (.iaload, 1) := by decide +kernel
theorem dX12_noise_36 : decode cX12_noise 36 = .ok (.istore_n 3, 1) := by decide +kernel
theorem dX12_noise_37 : decode cX12_noise 37 = .ok (.iload_n 3, 1) := by decide +kernel
theorem dX12_noise_38 : decode cX12_noise 38 = .ok (.bipush 6, 2) := by decide +kernel
theorem dX12_noise_40 : decode cX12_noise 40 = .ok (.if_icmp .ne 10, 3) := by decide +kernel
theorem dX12_noise_50 : decode cX12_noise 50 = .ok (.aload_n 0, 1) := by decide +kernel
theorem dX12_noise_51 : decode cX12_noise 51 = .ok (.getfield 13, 3) := by decide +kernel
theorem dX12_noise_54 : decode cX12_noise 54 = .ok (.sipush 198, 3) := by decide +kernel
theorem dX12_noise_57 : decode cX12_noise 57 = .ok (.iload_n 3, 1) := by decide +kernel
theorem dX12_noise_58 : decode cX12_noise 58 = .ok (.iadd, 1) := by decide +kernel
theorem dX12_noise_59 : decode cX12_noise 59 = .ok (.iload_n 1, 1) := by decide +kernel
theorem dX12_noise_60 : decode cX12_noise 60 = .ok (.iastore, 1) := by decide +kernel
theorem dX12_noise_61 : decode cX12_noise 61 = .ok (.aload_n 0, 1) := by decide +kernel
theorem dX12_noise_62 : decode cX12_noise 62 = .ok (.getfield 13, 3) := by decide +kernel
theorem dX12_noise_65 : decode cX12_noise 65 = .ok (.sipush 204, 3) := by decide +kernel
theorem dX12_noise_68 : decode cX12_noise 68 = .ok (.iload_n 3, 1) := by decide +kernel
theorem dX12_noise_69 : decode cX12_noise 69 = .ok (.iadd, 1) := by decide +kernel
theorem dX12_noise_70 : decode cX12_noise 70 = .ok (.iload_n 2, 1) := by decide +kernel
theorem dX12_noise_71 : decode cX12_noise 71 = .ok (.iastore, 1) := by decide +kernel
theorem dX12_noise_72 : decode cX12_noise 72 = .ok (.aload_n 0, 1) := by decide +kernel
theorem dX12_noise_73 : decode cX12_noise 73 = .ok (.getfield 13, 3) := by decide +kernel
theorem dX12_noise_76 : decode cX12_noise 76 = .ok (.bipush 22, 2) := by decide +kernel
theorem dX12_noise_78 : decode cX12_noise 78 = .ok (.iload_n 3, 1) := by decide +kernel
theorem dX12_noise_79 : decode cX12_noise 79 = .ok (.iadd, 1) := by decide +kernel
theorem dX12_noise_80 : decode cX12_noise 80 = .ok (.iconst 0, 1) := by decide +kernel
theorem dX12_noise_81 : decode cX12_noise 81 = .ok (.iastore, 1) := by decide +kernel
theorem dX12_noise_82 : decode cX12_noise 82 = .ok (.aload_n 0, 1) := by decide +kernel
theorem dX12_noise_83 : decode cX12_noise 83 = .ok (.getfield 13, 3) := by decide +kernel
theorem dX12_noise_86 : decode cX12_noise 86 = .ok (.iconst 2, 1) := by decide +kernel
theorem dX12_noise_87 : decode cX12_noise 87 = .ok (.dup2, 1) := by decide +kernel
theorem dX12_noise_88 : decode cX12_noise 88 = .ok (.iaload, 1) := by decide +kernel
theorem dX12_noise_89 : decode cX12_noise 89 = .ok (.iconst 1, 1) := by decide +kernel
theorem dX12_noise_90 : decode cX12_noise 90 = .ok (.iadd, 1) := by decide +kernel
theorem dX12_noise_91 : decode cX12_noise 91 = .ok (.iastore, 1) := by decide +kernel
theorem dX12_noise_92 : decode cX12_noise 92 = .ok (.aload_n 0, 1) := by decide +kernel
theorem dX12_noise_93 : decode cX12_noise 93 = .ok (.iload_n 3, 1) := by decide +kernel
theorem dX12_noise_94 : decode cX12_noise 94 = .ok (.invokevirtual 184, 3) := by decide +kernel
theorem dX12_noise_97 : decode cX12_noise 97 = .ok (.ireturn, 1) := by decide +kernel
theorem dX12_noise_43 : decode cX12_noise 43 = .ok (.aload_n 0, 1) := by decide +kernel
theorem dX12_noise_44 : decode cX12_noise 44 = .ok (.bipush (-5), 2) := by decide +kernel
theorem dX12_noise_46 : decode cX12_noise 46 = .ok (.invokevirtual 169, 3) := by decide +kernel
theorem dX12_noise_49 : decode cX12_noise 49 = .ok (.ireturn, 1) := by decide +kernel
def yX12_who : MethodName := ⟨RX12, "who", "(II)I"⟩
abbrev cX12_who : ByteArray := prog_14_method_32_code
theorem dX12_who_0 : decode cX12_who 0 = .ok (.aload_n 0, 1) := by decide +kernel
theorem dX12_who_1 : decode cX12_who 1 = .ok (.iconst 0, 1) := by decide +kernel
theorem dX12_who_2 : decode cX12_who 2 = .ok (.putfield 156, 3) := by decide +kernel
theorem dX12_who_5 : decode cX12_who 5 = .ok (.iload_n 2, 1) := by decide +kernel
theorem dX12_who_6 : decode cX12_who 6 = .ok (.i2l, 1) := by decide +kernel
theorem dX12_who_7 : decode cX12_who 7 = .ok (.lconst 0, 1) := by decide +kernel
theorem dX12_who_8 : decode cX12_who 8 = .ok (.ldc2_w 235, 3) := by decide +kernel
theorem ct_RX12_235 : Cond.constantLong RX12 235 4 ∈ gW := gW_u tb_7 160 (by rfl) (by decide +kernel)
theorem dX12_who_11 : decode cX12_who 11 = .ok (.invokestatic 180, 3) := by decide +kernel
theorem dX12_who_14 : decode cX12_who 14 = .ok (.ifCond .eq 27, 3) := by decide +kernel
theorem dX12_who_41 : decode cX12_who 41 = .ok (.iconst (-1), 1) := by decide +kernel
theorem dX12_who_42 : decode cX12_who 42 = .ok (.ireturn, 1) := by decide +kernel
theorem dX12_who_17 : decode cX12_who 17 = .ok (.iload_n 2, 1) := by decide +kernel
theorem dX12_who_18 : decode cX12_who 18 = .ok (.iconst 2, 1) := by decide +kernel
theorem dX12_who_19 : decode cX12_who 19 = .ok (.if_icmp .ge 14, 3) := by decide +kernel
theorem dX12_who_33 : decode cX12_who 33 = .ok (.aload_n 0, 1) := by decide +kernel
theorem dX12_who_34 : decode cX12_who 34 = .ok (.iload_n 1, 1) := by decide +kernel
theorem dX12_who_35 : decode cX12_who 35 = .ok (.invokevirtual 240, 3) := by decide +kernel
theorem lk_RX12_240 : Cond.methodLink RX12 240 yX12_isNoise ∈ gW := gW_u tb_7 161 (by rfl) (by decide +kernel)
theorem mI_X12_isNoise : Cond.instanceMethod yX12_isNoise ∈ gW := gW_u tb_7 163 (by rfl) (by decide +kernel)
theorem mS_X12_isNoise : Cond.selects RX12 yX12_isNoise yX12_isNoise ∈ gW := gW_p (q := (yX12_isNoise, 59)) 58 (by decide +kernel)
theorem mC_X12_isNoise : Cond.code yX12_isNoise cX12_isNoise 2 (some .boolean) ∈ gW := gW_u tb_7 164 (by rfl) (by decide +kernel)
theorem ok_X12_isNoise : okD yX12_isNoise 1 := ⟨by decide +kernel, by decide +kernel, by decide +kernel⟩
theorem dX12_who_38 : decode cX12_who 38 = .ok (.ifCond .ne 5, 3) := by decide +kernel
theorem dX12_who_22 : decode cX12_who 22 = .ok (.aload_n 0, 1) := by decide +kernel
theorem dX12_who_23 : decode cX12_who 23 = .ok (.iload_n 1, 1) := by decide +kernel
theorem dX12_who_24 : decode cX12_who 24 = .ok (.invokevirtual 237, 3) := by decide +kernel
theorem lk_RX12_237 : Cond.methodLink RX12 237 yX12_isEar ∈ gW := gW_u tb_7 80 (by rfl) (by decide +kernel)
theorem mI_X12_isEar : Cond.instanceMethod yX12_isEar ∈ gW := gW_u tb_7 82 (by rfl) (by decide +kernel)
theorem mS_X12_isEar : Cond.selects RX12 yX12_isEar yX12_isEar ∈ gW := gW_p (q := (yX12_isEar, 59)) 48 (by decide +kernel)
theorem mC_X12_isEar : Cond.code yX12_isEar cX12_isEar 2 (some .boolean) ∈ gW := gW_u tb_7 83 (by rfl) (by decide +kernel)
theorem ok_X12_isEar : okD yX12_isEar 1 := ⟨by decide +kernel, by decide +kernel, by decide +kernel⟩
theorem dX12_who_27 : decode cX12_who 27 = .ok (.ifCond .ne 16, 3) := by decide +kernel
theorem dX12_who_30 : decode cX12_who 30 = .ok (.goto 11, 3) := by decide +kernel
theorem dX12_who_43 : decode cX12_who 43 = .ok (.iload_n 2, 1) := by decide +kernel
theorem dX12_who_44 : decode cX12_who 44 = .ok (.tableswitch 75 0 3 #[32, 42, 53, 64], 32) := by decide +kernel
theorem dX12_who_76 : decode cX12_who 76 = .ok (.aload_n 0, 1) := by decide +kernel
theorem dX12_who_77 : decode cX12_who 77 = .ok (.getfield 13, 3) := by decide +kernel
theorem dX12_who_80 : decode cX12_who 80 = .ok (.bipush 28, 2) := by decide +kernel
theorem dX12_who_82 : decode cX12_who 82 = .ok (.iload_n 1, 1) := by decide +kernel
theorem dX12_who_83 : decode cX12_who 83 = .ok (.iadd, 1) := by decide +kernel
theorem dX12_who_84 : decode cX12_who 84 = .ok (.iaload, 1) := by decide +kernel
theorem dX12_who_85 : decode cX12_who 85 = .ok (.ireturn, 1) := by decide +kernel
theorem dX12_who_86 : decode cX12_who 86 = .ok (.aload_n 0, 1) := by decide +kernel
theorem dX12_who_87 : decode cX12_who 87 = .ok (.getfield 13, 3) := by decide +kernel
theorem dX12_who_90 : decode cX12_who 90 = .ok (.sipush 193, 3) := by decide +kernel
theorem dX12_who_93 : decode cX12_who 93 = .ok (.iload_n 1, 1) := by decide +kernel
theorem dX12_who_94 : decode cX12_who 94 = .ok (.iadd, 1) := by decide +kernel
theorem dX12_who_95 : decode cX12_who 95 = .ok (.iaload, 1) := by decide +kernel
theorem dX12_who_96 : decode cX12_who 96 = .ok (.ireturn, 1) := by decide +kernel
theorem dX12_who_97 : decode cX12_who 97 = .ok (.aload_n 0, 1) := by decide +kernel
theorem dX12_who_98 : decode cX12_who 98 = .ok (.getfield 13, 3) := by decide +kernel
theorem dX12_who_101 : decode cX12_who 101 = .ok (.sipush 198, 3) := by decide +kernel
theorem dX12_who_104 : decode cX12_who 104 = .ok (.iload_n 1, 1) := by decide +kernel
theorem dX12_who_105 : decode cX12_who 105 = .ok (.iadd, 1) := by decide +kernel
theorem dX12_who_106 : decode cX12_who 106 = .ok (.iaload, 1) := by decide +kernel
theorem dX12_who_107 : decode cX12_who 107 = .ok (.ireturn, 1) := by decide +kernel
theorem dX12_who_108 : decode cX12_who 108 = .ok (.aload_n 0, 1) := by decide +kernel
theorem dX12_who_109 : decode cX12_who 109 = .ok (.getfield 13, 3) := by decide +kernel
theorem dX12_who_112 : decode cX12_who 112 = .ok (.sipush 204, 3) := by decide +kernel
theorem dX12_who_115 : decode cX12_who 115 = .ok (.iload_n 1, 1) := by decide +kernel
theorem dX12_who_116 : decode cX12_who 116 = .ok (.iadd, 1) := by decide +kernel
theorem dX12_who_117 : decode cX12_who 117 = .ok (.iaload, 1) := by decide +kernel
theorem dX12_who_118 : decode cX12_who 118 = .ok (.ireturn, 1) := by decide +kernel
theorem dX12_who_119 : decode cX12_who 119 = .ok (.aload_n 0, 1) := by decide +kernel
theorem dX12_who_120 : decode cX12_who 120 = .ok (.getfield 13, 3) := by decide +kernel
theorem dX12_who_123 : decode cX12_who 123 = .ok (.bipush 22, 2) := by decide +kernel
theorem dX12_who_125 : decode cX12_who 125 = .ok (.iload_n 1, 1) := by decide +kernel
theorem dX12_who_126 : decode cX12_who 126 = .ok (.iadd, 1) := by decide +kernel
theorem dX12_who_127 : decode cX12_who 127 = .ok (.iaload, 1) := by decide +kernel
theorem dX12_who_128 : decode cX12_who 128 = .ok (.ireturn, 1) := by decide +kernel
def yX12_terms : MethodName := ⟨RX12, "terms", "(II)I"⟩
abbrev cX12_terms : ByteArray := prog_14_method_33_code
theorem dX12_terms_0 : decode cX12_terms 0 = .ok (.aload_n 0, 1) := by decide +kernel
theorem dX12_terms_1 : decode cX12_terms 1 = .ok (.iconst 0, 1) := by decide +kernel
theorem dX12_terms_2 : decode cX12_terms 2 = .ok (.putfield 156, 3) := by decide +kernel
theorem dX12_terms_5 : decode cX12_terms 5 = .ok (.iload_n 1, 1) := by decide +kernel
theorem dX12_terms_6 : decode cX12_terms 6 = .ok (.ifCond .ne 15, 3) := by decide +kernel
theorem dX12_terms_21 : decode cX12_terms 21 = .ok (.iload_n 1, 1) := by decide +kernel
theorem dX12_terms_22 : decode cX12_terms 22 = .ok (.iconst 1, 1) := by decide +kernel
theorem dX12_terms_23 : decode cX12_terms 23 = .ok (.if_icmp .ne 15, 3) := by decide +kernel
theorem dX12_terms_38 : decode cX12_terms 38 = .ok (.iload_n 1, 1) := by decide +kernel
theorem dX12_terms_39 : decode cX12_terms 39 = .ok (.iconst 2, 1) := by decide +kernel
theorem dX12_terms_40 : decode cX12_terms 40 = .ok (.if_icmp .ne 19, 3) := by decide +kernel
theorem dX12_terms_59 : decode cX12_terms 59 = .ok (.iconst 0, 1) := by decide +kernel
theorem dX12_terms_43 : decode cX12_terms 43 = .ok (.iload_n 2, 1) := by decide +kernel
theorem dX12_terms_44 : decode cX12_terms 44 = .ok (.i2l, 1) := by decide +kernel
theorem dX12_terms_45 : decode cX12_terms 45 = .ok (.lconst 0, 1) := by decide +kernel
theorem dX12_terms_46 : decode cX12_terms 46 = .ok (.ldc2_w 193, 3) := by decide +kernel
theorem dX12_terms_49 : decode cX12_terms 49 = .ok (.invokestatic 180, 3) := by decide +kernel
theorem dX12_terms_52 : decode cX12_terms 52 = .ok (.ifCond .eq 7, 3) := by decide +kernel
theorem dX12_terms_55 : decode cX12_terms 55 = .ok (.iconst 1, 1) := by decide +kernel
theorem dX12_terms_56 : decode cX12_terms 56 = .ok (.goto 4, 3) := by decide +kernel
theorem dX12_terms_26 : decode cX12_terms 26 = .ok (.iload_n 2, 1) := by decide +kernel
theorem dX12_terms_27 : decode cX12_terms 27 = .ok (.i2l, 1) := by decide +kernel
theorem dX12_terms_28 : decode cX12_terms 28 = .ok (.lconst 0, 1) := by decide +kernel
theorem dX12_terms_29 : decode cX12_terms 29 = .ok (.ldc2_w 245, 3) := by decide +kernel
theorem ct_RX12_245 : Cond.constantLong RX12 245 10 ∈ gW := gW_u tb_7 170 (by rfl) (by decide +kernel)
theorem dX12_terms_32 : decode cX12_terms 32 = .ok (.invokestatic 180, 3) := by decide +kernel
theorem dX12_terms_35 : decode cX12_terms 35 = .ok (.goto 25, 3) := by decide +kernel
theorem dX12_terms_9 : decode cX12_terms 9 = .ok (.iload_n 2, 1) := by decide +kernel
theorem dX12_terms_10 : decode cX12_terms 10 = .ok (.i2l, 1) := by decide +kernel
theorem dX12_terms_11 : decode cX12_terms 11 = .ok (.lconst 0, 1) := by decide +kernel
theorem dX12_terms_12 : decode cX12_terms 12 = .ok (.ldc2_w 243, 3) := by decide +kernel
theorem ct_RX12_243 : Cond.constantLong RX12 243 9999 ∈ gW := gW_u tb_7 169 (by rfl) (by decide +kernel)
theorem dX12_terms_15 : decode cX12_terms 15 = .ok (.invokestatic 180, 3) := by decide +kernel
theorem dX12_terms_18 : decode cX12_terms 18 = .ok (.goto 42, 3) := by decide +kernel
theorem dX12_terms_60 : decode cX12_terms 60 = .ok (.istore_n 3, 1) := by decide +kernel
theorem dX12_terms_61 : decode cX12_terms 61 = .ok (.iload_n 3, 1) := by decide +kernel
theorem dX12_terms_62 : decode cX12_terms 62 = .ok (.ifCond .ne 9, 3) := by decide +kernel
theorem dX12_terms_71 : decode cX12_terms 71 = .ok (.aload_n 0, 1) := by decide +kernel
theorem dX12_terms_72 : decode cX12_terms 72 = .ok (.iconst 0, 1) := by decide +kernel
theorem dX12_terms_73 : decode cX12_terms 73 = .ok (.putfield 166, 3) := by decide +kernel
theorem dX12_terms_76 : decode cX12_terms 76 = .ok (.aload_n 0, 1) := by decide +kernel
theorem dX12_terms_77 : decode cX12_terms 77 = .ok (.bipush 7, 2) := by decide +kernel
theorem dX12_terms_79 : decode cX12_terms 79 = .ok (.iload_n 1, 1) := by decide +kernel
theorem dX12_terms_80 : decode cX12_terms 80 = .ok (.iadd, 1) := by decide +kernel
theorem dX12_terms_81 : decode cX12_terms 81 = .ok (.iload_n 2, 1) := by decide +kernel
theorem dX12_terms_82 : decode cX12_terms 82 = .ok (.invokevirtual 208, 3) := by decide +kernel
theorem dX12_terms_85 : decode cX12_terms 85 = .ok (.ireturn, 1) := by decide +kernel
theorem dX12_terms_65 : decode cX12_terms 65 = .ok (.aload_n 0, 1) := by decide +kernel
theorem dX12_terms_66 : decode cX12_terms 66 = .ok (.iconst (-1), 1) := by decide +kernel
theorem dX12_terms_67 : decode cX12_terms 67 = .ok (.invokevirtual 169, 3) := by decide +kernel
theorem dX12_terms_70 : decode cX12_terms 70 = .ok (.ireturn, 1) := by decide +kernel
