theorem dX11_compare_31 : decode cX11_compare 31 = .ok (.iconst 0, 1) := by decide +kernel
theorem dX11_compare_32 : decode cX11_compare 32 = .ok (.istore_n 3, 1) := by decide +kernel
theorem dX11_compare_33 : decode cX11_compare 33 = .ok (.iconst 0, 1) := by decide +kernel
theorem dX11_compare_34 : decode cX11_compare 34 = .ok (.istore 4, 2) := by decide +kernel
theorem dX11_compare_36 : decode cX11_compare 36 = .ok (.iload 4, 2) := by decide +kernel
theorem dX11_compare_38 : decode cX11_compare 38 = .ok (.aload_n 2, 1) := by decide +kernel
theorem dX11_compare_39 : decode cX11_compare 39 = .ok (.getfield 156, 3) := by decide +kernel
theorem dX11_compare_42 : decode cX11_compare 42 = .ok (.getfield 160, 3) := by decide +kernel
theorem dX11_compare_45 : decode cX11_compare 45 = .ok (.if_icmp .ge 25, 3) := by decide +kernel
theorem dX11_compare_48 : decode cX11_compare 48 = .ok (.iload_n 3, 1) := by decide +kernel
theorem dX11_compare_49 : decode cX11_compare 49 = .ok (.aload_n 0, 1) := by decide +kernel
theorem dX11_compare_50 : decode cX11_compare 50 = .ok (.getfield 56, 3) := by decide +kernel
theorem dX11_compare_53 : decode cX11_compare 53 = .ok (.aload_n 2, 1) := by decide +kernel
theorem dX11_compare_54 : decode cX11_compare 54 = .ok (.iload 4, 2) := by decide +kernel
theorem dX11_compare_56 : decode cX11_compare 56 = .ok (.invokevirtual 273, 3) := by decide +kernel
theorem dX11_compare_59 : decode cX11_compare 59 = .ok (.invokestatic 308, 3) := by decide +kernel
theorem dX11_compare_62 : decode cX11_compare 62 = .ok (.iadd, 1) := by decide +kernel
theorem dX11_compare_63 : decode cX11_compare 63 = .ok (.istore_n 3, 1) := by decide +kernel
theorem dX11_compare_64 : decode cX11_compare 64 = .ok (.iinc 4 1, 3) := by decide +kernel
theorem dX11_compare_67 : decode cX11_compare 67 = .ok (.goto (-31), 3) := by decide +kernel
theorem dX11_compare_70 : decode cX11_compare 70 = .ok (.iload_n 3, 1) := by decide +kernel
theorem dX11_compare_71 : decode cX11_compare 71 = .ok (.ireturn, 1) := by decide +kernel
theorem dX11_compare_16 : decode cX11_compare 16 = .ok (.iconst (-1), 1) := by decide +kernel
theorem dX11_compare_17 : decode cX11_compare 17 = .ok (.ireturn, 1) := by decide +kernel
