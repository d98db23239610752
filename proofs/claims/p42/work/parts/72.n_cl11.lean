def yX11_compare : MethodName := ⟨RX11, "compare", "(I)I"⟩
abbrev cX11_compare : ByteArray := prog_1_method_39_code
theorem dX11_compare_0 : decode cX11_compare 0 = .ok (.aload_n 0, 1) := by decide +kernel
theorem dX11_compare_1 : decode cX11_compare 1 = .ok (.getfield 21, 3) := by decide +kernel
theorem dX11_compare_4 : decode cX11_compare 4 = .ok (.getfield 78, 3) := by decide +kernel
theorem dX11_compare_7 : decode cX11_compare 7 = .ok (.astore_n 2, 1) := by decide +kernel
theorem dX11_compare_8 : decode cX11_compare 8 = .ok (.aload_n 2, 1) := by decide +kernel
theorem dX11_compare_9 : decode cX11_compare 9 = .ok (.iload_n 1, 1) := by decide +kernel
theorem dX11_compare_10 : decode cX11_compare 10 = .ok (.invokevirtual 243, 3) := by decide +kernel
theorem dX11_compare_13 : decode cX11_compare 13 = .ok (.ifCond .ne 5, 3) := by decide +kernel
theorem dX11_compare_18 : decode cX11_compare 18 = .ok (.aload_n 0, 1) := by decide +kernel
theorem dX11_compare_19 : decode cX11_compare 19 = .ok (.getfield 56, 3) := by decide +kernel
theorem dX11_compare_22 : decode cX11_compare 22 = .ok (.aload_n 2, 1) := by decide +kernel
theorem dX11_compare_23 : decode cX11_compare 23 = .ok (.aload_n 2, 1) := by decide +kernel
theorem dX11_compare_24 : decode cX11_compare 24 = .ok (.iload_n 1, 1) := by decide +kernel
theorem dX11_compare_25 : decode cX11_compare 25 = .ok (.invokevirtual 366, 3) := by decide +kernel
theorem lk_RX11_366 : Cond.methodLink RX11 366 yX10_lawOf ∈ gW := gW_t 1208 (by decide +kernel) rfl
theorem dX11_compare_28 : decode cX11_compare 28 = .ok (.invokevirtual 270, 3) := by decide +kernel
theorem dX11_compare_31 : decode cX11_compare 31 = .ok (.iconst 0, 1) := by decide +kernel
theorem dX11_compare_32 : decode cX11_compare 32 = .ok (.istore_n 3, 1) := by decide +kernel
theorem dX11_compare_33 : decode cX11_compare 33 = .ok (.iconst 0, 1) := by decide +kernel
theorem dX11_compare_34 : decode cX11_compare 34 = .ok (.istore 4, 2) := by decide +kernel
theorem dX11_compare_36 : decode cX11_compare 36 = .ok (.iload 4, 2) := by decide +kernel
theorem dX11_compare_38 : decode cX11_compare 38 = .ok (.aload_n 2, 1) := by decide +kernel
theorem dX11_compare_39 : decode cX11_compare 39 = .ok (.getfield 156, 3) := by decide +kernel
theorem dX11_compare_42 : decode cX11_compare 42 = .ok (.getfield 160, 3) := by decide +kernel
theorem dX11_compare_45 : decode cX11_compare 45 = .ok (.if_icmp .ge 25, 3) := by decide +kernel
theorem dX11_compare_48 : decode cX11_compare 48 = .ok (.iload_n 3, 1) := by decide +kernel
theorem dX11_compare_49 : decode cX11_compare 49 = .ok (.aload_n 0, 1) := by decide +kernel
theorem dX11_compare_50 : decode cX11_compare 50 = .ok (.getfield 56, 3) := by decide +kernel
theorem dX11_compare_53 : decode cX11_compare 53 = .ok (.aload_n 2, 1) := by decide +kernel
theorem dX11_compare_54 : decode cX11_compare 54 = .ok (.iload 4, 2) := by decide +kernel
theorem dX11_compare_56 : decode cX11_compare 56 = .ok (.invokevirtual 273, 3) := by decide +kernel
theorem dX11_compare_59 : decode cX11_compare 59 = .ok (.invokestatic 308, 3) := by decide +kernel
theorem dX11_compare_62 : decode cX11_compare 62 = .ok (.iadd, 1) := by decide +kernel
theorem dX11_compare_63 : decode cX11_compare 63 = .ok (.istore_n 3, 1) := by decide +kernel
theorem dX11_compare_64 : decode cX11_compare 64 = .ok (.iinc 4 1, 3) := by decide +kernel
theorem dX11_compare_67 : decode cX11_compare 67 = .ok (.goto (-31), 3) := by decide +kernel
theorem dX11_compare_70 : decode cX11_compare 70 = .ok (.iload_n 3, 1) := by decide +kernel
theorem dX11_compare_71 : decode cX11_compare 71 = .ok (.ireturn, 1) := by decide +kernel
theorem dX11_compare_16 : decode cX11_compare 16 = .ok (.iconst (-1), 1) := by decide +kernel
theorem dX11_compare_17 : decode cX11_compare 17 = .ok (.ireturn, 1) := by decide +kernel
