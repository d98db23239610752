def yX1_countIn : MethodName := ⟨RX1, "countIn", "(J)I"⟩
abbrev cX1_countIn : ByteArray := prog_3_method_3_code
theorem dX1_countIn_0 : decode cX1_countIn 0 = .ok (.iconst 0, 1) := by decide +kernel
theorem dX1_countIn_1 : decode cX1_countIn 1 = .ok (.istore_n 3, 1) := by decide +kernel
theorem dX1_countIn_2 : decode cX1_countIn 2 = .ok (.iconst 0, 1) := by decide +kernel
theorem dX1_countIn_3 : decode cX1_countIn 3 = .ok (.istore 4, 2) := by decide +kernel
theorem dX1_countIn_5 : decode cX1_countIn 5 = .ok (.iload 4, 2) := by decide +kernel
theorem dX1_countIn_7 : decode cX1_countIn 7 = .ok (.aload_n 0, 1) := by decide +kernel
theorem dX1_countIn_8 : decode cX1_countIn 8 = .ok (.getfield 18, 3) := by decide +kernel
theorem dX1_countIn_11 : decode cX1_countIn 11 = .ok (.if_icmp .ge 28, 3) := by decide +kernel
theorem dX1_countIn_14 : decode cX1_countIn 14 = .ok (.lload_n 1, 1) := by decide +kernel
theorem dX1_countIn_15 : decode cX1_countIn 15 = .ok (.aload_n 0, 1) := by decide +kernel
theorem dX1_countIn_16 : decode cX1_countIn 16 = .ok (.getfield 9, 3) := by decide +kernel
theorem dX1_countIn_19 : decode cX1_countIn 19 = .ok (.iload 4, 2) := by decide +kernel
theorem dX1_countIn_21 : decode cX1_countIn 21 = .ok (.iaload, 1) := by decide +kernel
theorem dX1_countIn_22 : decode cX1_countIn 22 = .ok (.lshr, 1) := by decide +kernel
theorem dX1_countIn_23 : decode cX1_countIn 23 = .ok (.lconst 1, 1) := by decide +kernel
theorem dX1_countIn_24 : decode cX1_countIn 24 = .ok (.land, 1) := by decide +kernel
theorem dX1_countIn_25 : decode cX1_countIn 25 = .ok (.lconst 0, 1) := by decide +kernel
theorem dX1_countIn_26 : decode cX1_countIn 26 = .ok (.lcmp, 1) := by decide +kernel
theorem dX1_countIn_27 : decode cX1_countIn 27 = .ok (.ifCond .eq 6, 3) := by decide +kernel
theorem dX1_countIn_33 : decode cX1_countIn 33 = .ok (.iinc 4 1, 3) := by decide +kernel
theorem dX1_countIn_36 : decode cX1_countIn 36 = .ok (.goto (-31), 3) := by decide +kernel
theorem dX1_countIn_30 : decode cX1_countIn 30 = .ok (.iinc 3 1, 3) := by decide +kernel
theorem dX1_countIn_39 : decode cX1_countIn 39 = .ok (.iload_n 3, 1) := by decide +kernel
theorem dX1_countIn_40 : decode cX1_countIn 40 = .ok (.ireturn, 1) := by decide +kernel
def yX1_allBuckets : MethodName := ⟨RX1, "allBuckets", "()I"⟩
abbrev cX1_allBuckets : ByteArray := prog_3_method_4_code
theorem dX1_allBuckets_0 : decode cX1_allBuckets 0 = .ok (.iconst 0, 1) := by decide +kernel
theorem dX1_allBuckets_1 : decode cX1_allBuckets 1 = .ok (.istore_n 1, 1) := by decide +kernel
theorem dX1_allBuckets_2 : decode cX1_allBuckets 2 = .ok (.iconst 0, 1) := by decide +kernel
theorem dX1_allBuckets_3 : decode cX1_allBuckets 3 = .ok (.istore_n 2, 1) := by decide +kernel
theorem dX1_allBuckets_4 : decode cX1_allBuckets 4 = .ok (.iload_n 2, 1) := by decide +kernel
theorem dX1_allBuckets_5 : decode cX1_allBuckets 5 = .ok (.aload_n 0, 1) := by decide +kernel
theorem dX1_allBuckets_6 : decode cX1_allBuckets 6 = .ok (.getfield 18, 3) := by decide +kernel
theorem dX1_allBuckets_9 : decode cX1_allBuckets 9 = .ok (.if_icmp .ge 18, 3) := by decide +kernel
theorem dX1_allBuckets_12 : decode cX1_allBuckets 12 = .ok (.iload_n 1, 1) := by decide +kernel
theorem dX1_allBuckets_13 : decode cX1_allBuckets 13 = .ok (.aload_n 0, 1) := by decide +kernel
theorem dX1_allBuckets_14 : decode cX1_allBuckets 14 = .ok (.getfield 15, 3) := by decide +kernel
theorem dX1_allBuckets_17 : decode cX1_allBuckets 17 = .ok (.iload_n 2, 1) := by decide +kernel
theorem dX1_allBuckets_18 : decode cX1_allBuckets 18 = .ok (.iaload, 1) := by decide +kernel
theorem dX1_allBuckets_19 : decode cX1_allBuckets 19 = .ok (.iadd, 1) := by decide +kernel
theorem dX1_allBuckets_20 : decode cX1_allBuckets 20 = .ok (.istore_n 1, 1) := by decide +kernel
theorem dX1_allBuckets_21 : decode cX1_allBuckets 21 = .ok (.iinc 2 1, 3) := by decide +kernel
theorem dX1_allBuckets_24 : decode cX1_allBuckets 24 = .ok (.goto (-20), 3) := by decide +kernel
theorem dX1_allBuckets_27 : decode cX1_allBuckets 27 = .ok (.iload_n 1, 1) := by decide +kernel
theorem dX1_allBuckets_28 : decode cX1_allBuckets 28 = .ok (.ireturn, 1) := by decide +kernel
def yX4_noiseIn : MethodName := ⟨RX4, "noiseIn", "(II)I"⟩
abbrev cX4_noiseIn : ByteArray := prog_6_method_4_code
theorem dX4_noiseIn_0 : decode cX4_noiseIn 0 = .ok (.aload_n 0, 1) := by decide +kernel
theorem dX4_noiseIn_1 : decode cX4_noiseIn 1 = .ok (.getfield 43, 3) := by decide +kernel
theorem fl_RX4_43 : Cond.fieldLink RX4 43 RX4 "hushed" "I" ∈ gW := gW_t 168 (by decide +kernel) rfl
theorem dX4_noiseIn_4 : decode cX4_noiseIn 4 = .ok (.iload_n 2, 1) := by decide +kernel
theorem dX4_noiseIn_5 : decode cX4_noiseIn 5 = .ok (.ior, 1) := by decide +kernel
theorem dX4_noiseIn_6 : decode cX4_noiseIn 6 = .ok (.istore_n 3, 1) := by decide +kernel
theorem dX4_noiseIn_7 : decode cX4_noiseIn 7 = .ok (.iconst 0, 1) := by decide +kernel
theorem dX4_noiseIn_8 : decode cX4_noiseIn 8 = .ok (.istore 4, 2) := by decide +kernel
theorem dX4_noiseIn_10 : decode cX4_noiseIn 10 = .ok (.iconst 0, 1) := by decide +kernel
theorem dX4_noiseIn_11 : decode cX4_noiseIn 11 = .ok (.istore 5, 2) := by decide +kernel
theorem dX4_noiseIn_13 : decode cX4_noiseIn 13 = .ok (.iload 5, 2) := by decide +kernel
theorem dX4_noiseIn_15 : decode cX4_noiseIn 15 = .ok (.aload_n 0, 1) := by decide +kernel
theorem dX4_noiseIn_16 : decode cX4_noiseIn 16 = .ok (.getfield 40, 3) := by decide +kernel
theorem dX4_noiseIn_19 : decode cX4_noiseIn 19 = .ok (.if_icmp .ge 47, 3) := by decide +kernel
theorem dX4_noiseIn_22 : decode cX4_noiseIn 22 = .ok (.iload_n 3, 1) := by decide +kernel
theorem dX4_noiseIn_23 : decode cX4_noiseIn 23 = .ok (.iload 5, 2) := by decide +kernel
theorem dX4_noiseIn_25 : decode cX4_noiseIn 25 = .ok (.ishr, 1) := by decide +kernel
theorem dX4_noiseIn_26 : decode cX4_noiseIn 26 = .ok (.iconst 1, 1) := by decide +kernel
theorem dX4_noiseIn_27 : decode cX4_noiseIn 27 = .ok (.iand, 1) := by decide +kernel
theorem dX4_noiseIn_28 : decode cX4_noiseIn 28 = .ok (.ifCond .ne 32, 3) := by decide +kernel
theorem dX4_noiseIn_60 : decode cX4_noiseIn 60 = .ok (.iinc 5 1, 3) := by decide +kernel
theorem dX4_noiseIn_63 : decode cX4_noiseIn 63 = .ok (.goto (-50), 3) := by decide +kernel
theorem dX4_noiseIn_31 : decode cX4_noiseIn 31 = .ok (.iload 4, 2) := by decide +kernel
theorem dX4_noiseIn_33 : decode cX4_noiseIn 33 = .ok (.iconst 0, 1) := by decide +kernel
theorem dX4_noiseIn_34 : decode cX4_noiseIn 34 = .ok (.aload_n 0, 1) := by decide +kernel
theorem dX4_noiseIn_35 : decode cX4_noiseIn 35 = .ok (.getfield 21, 3) := by decide +kernel
theorem dX4_noiseIn_38 : decode cX4_noiseIn 38 = .ok (.iload 5, 2) := by decide +kernel
theorem dX4_noiseIn_40 : decode cX4_noiseIn 40 = .ok (.iaload, 1) := by decide +kernel
theorem dX4_noiseIn_41 : decode cX4_noiseIn 41 = .ok (.aload_n 0, 1) := by decide +kernel
theorem dX4_noiseIn_42 : decode cX4_noiseIn 42 = .ok (.getfield 18, 3) := by decide +kernel
theorem dX4_noiseIn_45 : decode cX4_noiseIn 45 = .ok (.iload 5, 2) := by decide +kernel
theorem dX4_noiseIn_47 : decode cX4_noiseIn 47 = .ok (.iaload, 1) := by decide +kernel
theorem dX4_noiseIn_48 : decode cX4_noiseIn 48 = .ok (.iload_n 1, 1) := by decide +kernel
theorem dX4_noiseIn_49 : decode cX4_noiseIn 49 = .ok (.isub, 1) := by decide +kernel
theorem dX4_noiseIn_50 : decode cX4_noiseIn 50 = .ok (.invokestatic 46, 3) := by decide +kernel
theorem lk_RX4_46 : Cond.methodLink RX4 46 Lib.Math.abs.name ∈ gW := gW_t 896 (by decide +kernel) rfl
theorem lb_s_iabs : Cond.static Lib.Math.abs.name ∈ gW := gW_t 897 (by decide +kernel) rfl
theorem lb_c_iabs : Cond.code Lib.Math.abs.name Lib.Math.abs.code 1 (some .int) ∈ gW := gW_t 898 (by decide +kernel) rfl
theorem dX4_noiseIn_53 : decode cX4_noiseIn 53 = .ok (.isub, 1) := by decide +kernel
theorem dX4_noiseIn_54 : decode cX4_noiseIn 54 = .ok (.invokestatic 52, 3) := by decide +kernel
theorem lk_RX4_52 : Cond.methodLink RX4 52 Lib.Math.max.name ∈ gW := gW_t 899 (by decide +kernel) rfl
theorem dX4_noiseIn_57 : decode cX4_noiseIn 57 = .ok (.iadd, 1) := by decide +kernel
theorem dX4_noiseIn_58 : decode cX4_noiseIn 58 = .ok (.istore 4, 2) := by decide +kernel
theorem dX4_noiseIn_66 : decode cX4_noiseIn 66 = .ok (.iload 4, 2) := by decide +kernel
theorem dX4_noiseIn_68 : decode cX4_noiseIn 68 = .ok (.ireturn, 1) := by decide +kernel
def yX6_waterIn : MethodName := ⟨RX6, "waterIn", "(J)I"⟩
abbrev cX6_waterIn : ByteArray := prog_8_method_9_code
theorem dX6_waterIn_0 : decode cX6_waterIn 0 = .ok (.iconst 0, 1) := by decide +kernel
theorem dX6_waterIn_1 : decode cX6_waterIn 1 = .ok (.istore_n 3, 1) := by decide +kernel
theorem dX6_waterIn_2 : decode cX6_waterIn 2 = .ok (.iconst 0, 1) := by decide +kernel
theorem dX6_waterIn_3 : decode cX6_waterIn 3 = .ok (.istore 4, 2) := by decide +kernel
theorem dX6_waterIn_5 : decode cX6_waterIn 5 = .ok (.iload 4, 2) := by decide +kernel
theorem dX6_waterIn_7 : decode cX6_waterIn 7 = .ok (.bipush 40, 2) := by decide +kernel
theorem dX6_waterIn_9 : decode cX6_waterIn 9 = .ok (.if_icmp .ge 30, 3) := by decide +kernel
theorem dX6_waterIn_12 : decode cX6_waterIn 12 = .ok (.lload_n 1, 1) := by decide +kernel
theorem dX6_waterIn_13 : decode cX6_waterIn 13 = .ok (.iload 4, 2) := by decide +kernel
theorem dX6_waterIn_15 : decode cX6_waterIn 15 = .ok (.lshr, 1) := by decide +kernel
theorem dX6_waterIn_16 : decode cX6_waterIn 16 = .ok (.lconst 1, 1) := by decide +kernel
theorem dX6_waterIn_17 : decode cX6_waterIn 17 = .ok (.land, 1) := by decide +kernel
theorem dX6_waterIn_18 : decode cX6_waterIn 18 = .ok (.lconst 0, 1) := by decide +kernel
theorem dX6_waterIn_19 : decode cX6_waterIn 19 = .ok (.lcmp, 1) := by decide +kernel
theorem dX6_waterIn_20 : decode cX6_waterIn 20 = .ok (.ifCond .eq 13, 3) := by decide +kernel
theorem dX6_waterIn_33 : decode cX6_waterIn 33 = .ok (.iinc 4 1, 3) := by decide +kernel
theorem dX6_waterIn_36 : decode cX6_waterIn 36 = .ok (.goto (-31), 3) := by decide +kernel
theorem dX6_waterIn_23 : decode cX6_waterIn 23 = .ok (.iload_n 3, 1) := by decide +kernel
theorem dX6_waterIn_24 : decode cX6_waterIn 24 = .ok (.aload_n 0, 1) := by decide +kernel
theorem dX6_waterIn_25 : decode cX6_waterIn 25 = .ok (.getfield 18, 3) := by decide +kernel
theorem dX6_waterIn_28 : decode cX6_waterIn 28 = .ok (.iload 4, 2) := by decide +kernel
theorem dX6_waterIn_30 : decode cX6_waterIn 30 = .ok (.iaload, 1) := by decide +kernel
theorem dX6_waterIn_31 : decode cX6_waterIn 31 = .ok (.iadd, 1) := by decide +kernel
theorem dX6_waterIn_32 : decode cX6_waterIn 32 = .ok (.istore_n 3, 1) := by decide +kernel
theorem dX6_waterIn_39 : decode cX6_waterIn 39 = .ok (.iload_n 3, 1) := by decide +kernel
theorem dX6_waterIn_40 : decode cX6_waterIn 40 = .ok (.ireturn, 1) := by decide +kernel
def yX5_addFour : MethodName := ⟨RX5, "addFour", "(I)V"⟩
abbrev cX5_addFour : ByteArray := prog_7_method_2_code
theorem dX5_addFour_0 : decode cX5_addFour 0 = .ok (.bipush 24, 2) := by decide +kernel
theorem dX5_addFour_2 : decode cX5_addFour 2 = .ok (.istore_n 2, 1) := by decide +kernel
theorem dX5_addFour_3 : decode cX5_addFour 3 = .ok (.iload_n 2, 1) := by decide +kernel
theorem dX5_addFour_4 : decode cX5_addFour 4 = .ok (.ifCond .lt 45, 3) := by decide +kernel
theorem dX5_addFour_7 : decode cX5_addFour 7 = .ok (.aload_n 0, 1) := by decide +kernel
theorem dX5_addFour_8 : decode cX5_addFour 8 = .ok (.getfield 34, 3) := by decide +kernel
theorem fl_RX5_34 : Cond.fieldLink RX5 34 RX5 "length" "I" ∈ gW := gW_t 348 (by decide +kernel) rfl
theorem dX5_addFour_11 : decode cX5_addFour 11 = .ok (.sipush 400, 3) := by decide +kernel
theorem dX5_addFour_14 : decode cX5_addFour 14 = .ok (.if_icmp .ge 29, 3) := by decide +kernel
theorem dX5_addFour_43 : decode cX5_addFour 43 = .ok (.iinc 2 (-8), 3) := by decide +kernel
theorem dX5_addFour_46 : decode cX5_addFour 46 = .ok (.goto (-43), 3) := by decide +kernel
theorem dX5_addFour_17 : decode cX5_addFour 17 = .ok (.aload_n 0, 1) := by decide +kernel
theorem dX5_addFour_18 : decode cX5_addFour 18 = .ok (.getfield 9, 3) := by decide +kernel
theorem fl_RX5_9 : Cond.fieldLink RX5 9 RX5 "bytes" "[I" ∈ gW := gW_t 347 (by decide +kernel) rfl
theorem dX5_addFour_21 : decode cX5_addFour 21 = .ok (.aload_n 0, 1) := by decide +kernel
theorem dX5_addFour_22 : decode cX5_addFour 22 = .ok (.getfield 34, 3) := by decide +kernel
theorem dX5_addFour_25 : decode cX5_addFour 25 = .ok (.iload_n 1, 1) := by decide +kernel
theorem dX5_addFour_26 : decode cX5_addFour 26 = .ok (.iload_n 2, 1) := by decide +kernel
theorem dX5_addFour_27 : decode cX5_addFour 27 = .ok (.ishr, 1) := by decide +kernel
theorem dX5_addFour_28 : decode cX5_addFour 28 = .ok (.sipush 255, 3) := by decide +kernel
theorem dX5_addFour_31 : decode cX5_addFour 31 = .ok (.iand, 1) := by decide +kernel
theorem dX5_addFour_32 : decode cX5_addFour 32 = .ok (.iastore, 1) := by decide +kernel
theorem dX5_addFour_33 : decode cX5_addFour 33 = .ok (.aload_n 0, 1) := by decide +kernel
theorem dX5_addFour_34 : decode cX5_addFour 34 = .ok (.dup, 1) := by decide +kernel
theorem dX5_addFour_35 : decode cX5_addFour 35 = .ok (.getfield 34, 3) := by decide +kernel
theorem dX5_addFour_38 : decode cX5_addFour 38 = .ok (.iconst 1, 1) := by decide +kernel
theorem dX5_addFour_39 : decode cX5_addFour 39 = .ok (.iadd, 1) := by decide +kernel
theorem dX5_addFour_40 : decode cX5_addFour 40 = .ok (.putfield 34, 3) := by decide +kernel
theorem dX5_addFour_49 : decode cX5_addFour 49 = .ok (.return_, 1) := by decide +kernel
