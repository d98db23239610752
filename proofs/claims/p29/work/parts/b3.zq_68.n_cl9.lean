def yX11_time : MethodName := ⟨RX11, "time", "(III)J"⟩
abbrev cX11_time : ByteArray := prog_1_method_38_code
theorem dX11_time_0 : decode cX11_time 0 = .ok (.iload_n 3, 1) := by decide +kernel
theorem dX11_time_1 : decode cX11_time 1 = .ok (.sipush 201, 3) := by decide +kernel
theorem dX11_time_4 : decode cX11_time 4 = .ok (.invokestatic 82, 3) := by decide +kernel
theorem dX11_time_7 : decode cX11_time 7 = .ok (.ifCond .eq 12, 3) := by decide +kernel
theorem dX11_time_19 : decode cX11_time 19 = .ok (.ldc2_w 268, 3) := by decide +kernel
theorem dX11_time_22 : decode cX11_time 22 = .ok (.lreturn, 1) := by decide +kernel
theorem dX11_time_10 : decode cX11_time 10 = .ok (.aload_n 0, 1) := by decide +kernel
theorem dX11_time_11 : decode cX11_time 11 = .ok (.iload_n 1, 1) := by decide +kernel
theorem dX11_time_12 : decode cX11_time 12 = .ok (.iload_n 2, 1) := by decide +kernel
theorem dX11_time_13 : decode cX11_time 13 = .ok (.invokevirtual 293, 3) := by decide +kernel
theorem dX11_time_16 : decode cX11_time 16 = .ok (.ifCond .ne 7, 3) := by decide +kernel
theorem dX11_time_23 : decode cX11_time 23 = .ok (.aload_n 0, 1) := by decide +kernel
theorem dX11_time_24 : decode cX11_time 24 = .ok (.getfield 49, 3) := by decide +kernel
theorem dX11_time_27 : decode cX11_time 27 = .ok (.iload_n 3, 1) := by decide +kernel
theorem dX11_time_28 : decode cX11_time 28 = .ok (.aload_n 0, 1) := by decide +kernel
theorem dX11_time_29 : decode cX11_time 29 = .ok (.getfield 21, 3) := by decide +kernel
theorem dX11_time_32 : decode cX11_time 32 = .ok (.getfield 78, 3) := by decide +kernel
theorem dX11_time_35 : decode cX11_time 35 = .ok (.getfield 193, 3) := by decide +kernel
theorem dX11_time_38 : decode cX11_time 38 = .ok (.iconst 1, 1) := by decide +kernel
theorem dX11_time_39 : decode cX11_time 39 = .ok (.iaload, 1) := by decide +kernel
theorem dX11_time_40 : decode cX11_time 40 = .ok (.invokevirtual 362, 3) := by decide +kernel
theorem lk_RX11_362 : Cond.methodLink RX11 362 yX9_chanceIn ∈ gW := gW_u tb_5 235 (by rfl) (by decide +kernel)
theorem mI_X9_chanceIn : Cond.instanceMethod yX9_chanceIn ∈ gW := gW_u tb_5 236 (by rfl) (by decide +kernel)
theorem mS_X9_chanceIn : Cond.selects RX9 yX9_chanceIn yX9_chanceIn ∈ gW := gW_u tb_5 237 (by rfl) (by decide +kernel)
theorem mC_X9_chanceIn : Cond.code yX9_chanceIn cX9_chanceIn 5 (some .long) ∈ gW := gW_u tb_5 238 (by rfl) (by decide +kernel)
theorem ok_X9_chanceIn : okD yX9_chanceIn 2 := ⟨by decide +kernel, by decide +kernel, by decide +kernel⟩
theorem dX11_time_43 : decode cX11_time 43 = .ok (.lreturn, 1) := by decide +kernel
def yX11_compare : MethodName := ⟨RX11, "compare", "(I)I"⟩
abbrev cX11_compare : ByteArray := prog_1_method_39_code
theorem dX11_compare_0 : decode cX11_compare 0 = .ok (.aload_n 0, 1) := by decide +kernel
theorem dX11_compare_1 : decode cX11_compare 1 = .ok (.getfield 21, 3) := by decide +kernel
theorem dX11_compare_4 : decode cX11_compare 4 = .ok (.getfield 78, 3) := by decide +kernel
theorem dX11_compare_7 : decode cX11_compare 7 = .ok (.astore_n 2, 1) := by decide +kernel
theorem dX11_compare_8 : decode cX11_compare 8 = .ok (.aload_n 2, 1) := by decide +kernel
theorem dX11_compare_9 : decode cX11_compare 9 = .ok (.iload_n 1, 1) := by decide +kernel
theorem dX11_compare_10 : decode cX11_compare 10 = .ok (.invokevirtual 243, 3) := by decide +kernel
theorem dX11_compare_13 : decode cX11_compare 13 = .ok (.ifCond .ne 5, 3) := by decide +kernel
theorem dX11_compare_18 : decode cX11_compare 18 = .ok (.aload_n 0, 1) := by decide +kernel
theorem dX11_compare_19 : decode cX11_compare 19 = .ok (.getfield 56, 3) := by decide +kernel
theorem dX11_compare_22 : decode cX11_compare 22 = .ok (.aload_n 2, 1) := by decide +kernel
theorem dX11_compare_23 : decode cX11_compare 23 = .ok (.aload_n 2, 1) := by decide +kernel
theorem dX11_compare_24 : decode cX11_compare 24 = .ok (.iload_n 1, 1) := by decide +kernel
theorem dX11_compare_25 : decode cX11_compare 25 = .ok (.invokevirtual 366, 3) := by decide +kernel
theorem lk_RX11_366 : Cond.methodLink RX11 366 yX10_lawOf ∈ gW := gW_u tb_6 8 (by rfl) (by decide +kernel)
theorem dX11_compare_28 : decode cX11_compare 28 = .ok (.invokevirtual 270, 3) := by decide +kernel
theorem dX11_compare_31 : decode cX11_compare 31 = .ok (.iconst 0, 1) := by decide +kernel
theorem dX11_compare_32 : decode cX11_compare 32 = .ok (.istore_n 3, 1) := by decide +kernel
theorem dX11_compare_33 : decode cX11_compare 33 = .ok (.iconst 0, 1) := by decide +kernel
theorem dX11_compare_34 : decode cX11_compare 34 = .ok (.istore 4, 2) := by decide +kernel
theorem dX11_compare_36 : decode cX11_compare 36 = .ok (.iload 4, 2) := by decide +kernel
theorem dX11_compare_38 : decode cX11_compare 38 = .ok (.aload_n 2, 1) := by decide +kernel
theorem dX11_compare_39 : decode cX11_compare 39 = .ok (.getfield 156, 3) := by decide +kernel
theorem dX11_compare_42 : decode cX11_compare 42 = .ok (.getfield 160, 3) := by decide +kernel
theorem dX11_compare_45 : decode cX11_compare 45 = .ok (.if_icmp .ge 25, 3) := by decide +kernel
theorem dX11_compare_48 : decode cX11_compare 48 = .ok (.iload_n 3, 1) := by decide +kernel
theorem dX11_compare_49 : decode cX11_compare 49 = .ok (.aload_n 0, 1) := by decide +kernel
theorem dX11_compare_50 : decode cX11_compare 50 = .ok (.getfield 56, 3) := by decide +kernel
theorem dX11_compare_53 : decode cX11_compare 53 = .ok (.aload_n 2, 1) := by decide +kernel
theorem dX11_compare_54 : decode cX11_compare 54 = .ok (.iload 4, 2) := by decide +kernel
theorem dX11_compare_56 : decode cX11_compare 56 = .ok (.invokevirtual 273, 3) := by decide +kernel
theorem dX11_compare_59 : decode cX11_compare 59 = .ok (.invokestatic 308, 3) := by decide +kernel
theorem dX11_compare_62 : decode cX11_compare 62 = .ok (.iadd, 1) := by decide +kernel
theorem dX11_compare_63 : decode cX11_compare 63 = .ok (.istore_n 3, 1) := by decide +kernel
theorem dX11_compare_64 : decode cX11_compare 64 = .ok (.iinc 4 1, 3) := by decide +kernel
theorem dX11_compare_67 : decode cX11_compare 67 = .ok (.goto (-31), 3) := by decide +kernel
theorem dX11_compare_70 : decode cX11_compare 70 = .ok (.iload_n 3, 1) := by decide +kernel
theorem dX11_compare_71 : decode cX11_compare 71 = .ok (.ireturn, 1) := by decide +kernel
theorem dX11_compare_16 : decode cX11_compare 16 = .ok (.iconst (-1), 1) := by decide +kernel
theorem dX11_compare_17 : decode cX11_compare 17 = .ok (.ireturn, 1) := by decide +kernel
