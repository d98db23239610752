theorem dX7_runSeasons_76 : decode cX7_runSeasons 76 = .ok (.ifCond .ge 14, 3) := by decide +kernel
theorem dX7_runSeasons_90 : decode cX7_runSeasons 90 = .ok (.iconst 1, 1) := by decide +kernel
theorem dX7_runSeasons_91 : decode cX7_runSeasons 91 = .ok (.goto 4, 3) := by decide +kernel
theorem dX7_runSeasons_79 : decode cX7_runSeasons 79 = .ok (.aload_n 0, 1) := by decide +kernel
theorem dX7_runSeasons_80 : decode cX7_runSeasons 80 = .ok (.iload 6, 2) := by decide +kernel
theorem dX7_runSeasons_82 : decode cX7_runSeasons 82 = .ok (.iload 7, 2) := by decide +kernel
theorem dX7_runSeasons_84 : decode cX7_runSeasons 84 = .ok (.invokevirtual 205, 3) := by decide +kernel
theorem dX7_runSeasons_87 : decode cX7_runSeasons 87 = .ok (.ifCond .lt 7, 3) := by decide +kernel
theorem dX7_runSeasons_94 : decode cX7_runSeasons 94 = .ok (.iconst 0, 1) := by decide +kernel
theorem dX7_runSeasons_95 : decode cX7_runSeasons 95 = .ok (.istore 8, 2) := by decide +kernel
theorem dX7_runSeasons_97 : decode cX7_runSeasons 97 = .ok (.iload 8, 2) := by decide +kernel
theorem dX7_runSeasons_99 : decode cX7_runSeasons 99 = .ok (.ifCond .ne 31, 3) := by decide +kernel
theorem dX7_runSeasons_130 : decode cX7_runSeasons 130 = .ok (.iinc 5 1, 3) := by decide +kernel
theorem dX7_runSeasons_133 : decode cX7_runSeasons 133 = .ok (.goto (-111), 3) := by decide +kernel
theorem dX7_runSeasons_102 : decode cX7_runSeasons 102 = .ok (.aload_n 0, 1) := by decide +kernel
theorem dX7_runSeasons_103 : decode cX7_runSeasons 103 = .ok (.getfield 12, 3) := by decide +kernel
theorem dX7_runSeasons_106 : decode cX7_runSeasons 106 = .ok (.getfield 81, 3) := by decide +kernel
theorem dX7_runSeasons_109 : decode cX7_runSeasons 109 = .ok (.iconst 0, 1) := by decide +kernel
theorem dX7_runSeasons_110 : decode cX7_runSeasons 110 = .ok (.iaload, 1) := by decide +kernel
theorem dX7_runSeasons_111 : decode cX7_runSeasons 111 = .ok (.sipush 9999, 3) := by decide +kernel
theorem dX7_runSeasons_114 : decode cX7_runSeasons 114 = .ok (.if_icmp .ge 16, 3) := by decide +kernel
theorem dX7_runSeasons_117 : decode cX7_runSeasons 117 = .ok (.aload_n 0, 1) := by decide +kernel
theorem dX7_runSeasons_118 : decode cX7_runSeasons 118 = .ok (.getfield 12, 3) := by decide +kernel
theorem dX7_runSeasons_121 : decode cX7_runSeasons 121 = .ok (.getfield 81, 3) := by decide +kernel
theorem dX7_runSeasons_124 : decode cX7_runSeasons 124 = .ok (.iconst 0, 1) := by decide +kernel
theorem dX7_runSeasons_125 : decode cX7_runSeasons 125 = .ok (.dup2, 1) := by decide +kernel
theorem dX7_runSeasons_126 : decode cX7_runSeasons 126 = .ok (.iaload, 1) := by decide +kernel
theorem dX7_runSeasons_127 : decode cX7_runSeasons 127 = .ok (.iconst 1, 1) := by decide +kernel
theorem dX7_runSeasons_128 : decode cX7_runSeasons 128 = .ok (.iadd, 1) := by decide +kernel
theorem dX7_runSeasons_129 : decode cX7_runSeasons 129 = .ok (.iastore, 1) := by decide +kernel
theorem dX7_runSeasons_136 : decode cX7_runSeasons 136 = .ok (.return_, 1) := by decide +kernel
theorem dX7_runSeasons_15 : decode cX7_runSeasons 15 = .ok (.return_, 1) := by decide +kernel
