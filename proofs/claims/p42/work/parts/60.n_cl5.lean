def yX7_runSeasons : MethodName := ⟨RX7, "runSeasons", "(II)V"⟩
abbrev cX7_runSeasons : ByteArray := prog_9_method_11_code
theorem dX7_runSeasons_0 : decode cX7_runSeasons 0 = .ok (.aload_n 0, 1) := by decide +kernel
theorem dX7_runSeasons_1 : decode cX7_runSeasons 1 = .ok (.getfield 12, 3) := by decide +kernel
theorem dX7_runSeasons_4 : decode cX7_runSeasons 4 = .ok (.getfield 36, 3) := by decide +kernel
theorem dX7_runSeasons_7 : decode cX7_runSeasons 7 = .ok (.getfield 40, 3) := by decide +kernel
theorem dX7_runSeasons_10 : decode cX7_runSeasons 10 = .ok (.istore_n 3, 1) := by decide +kernel
theorem dX7_runSeasons_11 : decode cX7_runSeasons 11 = .ok (.iload_n 3, 1) := by decide +kernel
theorem dX7_runSeasons_12 : decode cX7_runSeasons 12 = .ok (.ifCond .ne 4, 3) := by decide +kernel
theorem dX7_runSeasons_16 : decode cX7_runSeasons 16 = .ok (.iload_n 1, 1) := by decide +kernel
theorem dX7_runSeasons_17 : decode cX7_runSeasons 17 = .ok (.istore 4, 2) := by decide +kernel
theorem dX7_runSeasons_19 : decode cX7_runSeasons 19 = .ok (.iconst 0, 1) := by decide +kernel
theorem dX7_runSeasons_20 : decode cX7_runSeasons 20 = .ok (.istore 5, 2) := by decide +kernel
theorem dX7_runSeasons_22 : decode cX7_runSeasons 22 = .ok (.iload 5, 2) := by decide +kernel
theorem dX7_runSeasons_24 : decode cX7_runSeasons 24 = .ok (.iload_n 2, 1) := by decide +kernel
theorem dX7_runSeasons_25 : decode cX7_runSeasons 25 = .ok (.if_icmp .ge 111, 3) := by decide +kernel
theorem dX7_runSeasons_28 : decode cX7_runSeasons 28 = .ok (.iload 4, 2) := by decide +kernel
theorem dX7_runSeasons_30 : decode cX7_runSeasons 30 = .ok (.sipush 1103, 3) := by decide +kernel
theorem dX7_runSeasons_33 : decode cX7_runSeasons 33 = .ok (.imul, 1) := by decide +kernel
theorem dX7_runSeasons_34 : decode cX7_runSeasons 34 = .ok (.sipush 12345, 3) := by decide +kernel
theorem dX7_runSeasons_37 : decode cX7_runSeasons 37 = .ok (.iadd, 1) := by decide +kernel
theorem dX7_runSeasons_38 : decode cX7_runSeasons 38 = .ok (.ldc 208, 2) := by decide +kernel
theorem ct_RX7_208 : Cond.constant RX7 208 1000003 ∈ gW := gW_t 1218 (by decide +kernel) rfl
theorem dX7_runSeasons_40 : decode cX7_runSeasons 40 = .ok (.irem, 1) := by decide +kernel
theorem dX7_runSeasons_41 : decode cX7_runSeasons 41 = .ok (.istore 4, 2) := by decide +kernel
theorem dX7_runSeasons_43 : decode cX7_runSeasons 43 = .ok (.iload 4, 2) := by decide +kernel
theorem dX7_runSeasons_45 : decode cX7_runSeasons 45 = .ok (.iload_n 3, 1) := by decide +kernel
theorem dX7_runSeasons_46 : decode cX7_runSeasons 46 = .ok (.irem, 1) := by decide +kernel
theorem dX7_runSeasons_47 : decode cX7_runSeasons 47 = .ok (.istore 6, 2) := by decide +kernel
theorem dX7_runSeasons_49 : decode cX7_runSeasons 49 = .ok (.iload 4, 2) := by decide +kernel
theorem dX7_runSeasons_51 : decode cX7_runSeasons 51 = .ok (.sipush 1103, 3) := by decide +kernel
theorem dX7_runSeasons_54 : decode cX7_runSeasons 54 = .ok (.imul, 1) := by decide +kernel
theorem dX7_runSeasons_55 : decode cX7_runSeasons 55 = .ok (.sipush 12345, 3) := by decide +kernel
theorem dX7_runSeasons_58 : decode cX7_runSeasons 58 = .ok (.iadd, 1) := by decide +kernel
theorem dX7_runSeasons_59 : decode cX7_runSeasons 59 = .ok (.ldc 208, 2) := by decide +kernel
theorem dX7_runSeasons_61 : decode cX7_runSeasons 61 = .ok (.irem, 1) := by decide +kernel
theorem dX7_runSeasons_62 : decode cX7_runSeasons 62 = .ok (.istore 4, 2) := by decide +kernel
theorem dX7_runSeasons_64 : decode cX7_runSeasons 64 = .ok (.iload 4, 2) := by decide +kernel
theorem dX7_runSeasons_66 : decode cX7_runSeasons 66 = .ok (.iconst 3, 1) := by decide +kernel
theorem dX7_runSeasons_67 : decode cX7_runSeasons 67 = .ok (.irem, 1) := by decide +kernel
theorem dX7_runSeasons_68 : decode cX7_runSeasons 68 = .ok (.istore 7, 2) := by decide +kernel
theorem dX7_runSeasons_70 : decode cX7_runSeasons 70 = .ok (.aload_n 0, 1) := by decide +kernel
theorem dX7_runSeasons_71 : decode cX7_runSeasons 71 = .ok (.iload 6, 2) := by decide +kernel
theorem dX7_runSeasons_73 : decode cX7_runSeasons 73 = .ok (.invokevirtual 199, 3) := by decide +kernel
theorem dX7_runSeasons_76 : decode cX7_runSeasons 76 = .ok (.ifCond .ge 14, 3) := by decide +kernel
theorem dX7_runSeasons_90 : decode cX7_runSeasons 90 = .ok (.iconst 1, 1) := by decide +kernel
theorem dX7_runSeasons_91 : decode cX7_runSeasons 91 = .ok (.goto 4, 3) := by decide +kernel
theorem dX7_runSeasons_79 : decode cX7_runSeasons 79 = .ok (.aload_n 0, 1) := by decide +kernel
theorem dX7_runSeasons_80 : decode cX7_runSeasons 80 = .ok (.iload 6, 2) := by decide +kernel
theorem dX7_runSeasons_82 : decode cX7_runSeasons 82 = .ok (.iload 7, 2) := by decide +kernel
theorem dX7_runSeasons_84 : decode cX7_runSeasons 84 = .ok (.invokevirtual 205, 3) := by decide +kernel
theorem dX7_runSeasons_87 : decode cX7_runSeasons 87 = .ok (.ifCond .lt 7, 3) := by decide +kernel
theorem dX7_runSeasons_94 : decode cX7_runSeasons 94 = .ok (.iconst 0, 1) := by decide +kernel
theorem dX7_runSeasons_95 : decode cX7_runSeasons 95 = .ok (.istore 8, 2) := by decide +kernel
theorem dX7_runSeasons_97 : decode cX7_runSeasons 97 = .ok (.iload 8, 2) := by decide +kernel
theorem dX7_runSeasons_99 : decode cX7_runSeasons 99 = .ok (.ifCond .ne 31, 3) := by decide +kernel
theorem dX7_runSeasons_130 : decode cX7_runSeasons 130 = .ok (.iinc 5 1, 3) := by decide +kernel
theorem dX7_runSeasons_133 : decode cX7_runSeasons 133 = .ok (.goto (-111), 3) := by decide +kernel
theorem dX7_runSeasons_102 : decode cX7_runSeasons 102 = .ok (.aload_n 0, 1) := by decide +kernel
theorem dX7_runSeasons_103 : decode cX7_runSeasons 103 = .ok (.getfield 12, 3) := by decide +kernel
theorem dX7_runSeasons_106 : decode cX7_runSeasons 106 = .ok (.getfield 81, 3) := by decide +kernel
theorem dX7_runSeasons_109 : decode cX7_runSeasons 109 = .ok (.iconst 0, 1) := by decide +kernel
theorem dX7_runSeasons_110 : decode cX7_runSeasons 110 = .ok (.iaload, 1) := by decide +kernel
theorem dX7_runSeasons_111 : decode cX7_runSeasons 111 = .ok (.sipush 9999, 3) := by decide +kernel
theorem dX7_runSeasons_114 : decode cX7_runSeasons 114 = .ok (.if_icmp .ge 16, 3) := by decide +kernel
theorem dX7_runSeasons_117 : decode cX7_runSeasons 117 = .ok (.aload_n 0, 1) := by decide +kernel
theorem dX7_runSeasons_118 : decode cX7_runSeasons 118 = .ok (.getfield 12, 3) := by decide +kernel
theorem dX7_runSeasons_121 : decode cX7_runSeasons 121 = .ok (.getfield 81, 3) := by decide +kernel
theorem dX7_runSeasons_124 : decode cX7_runSeasons 124 = .ok (.iconst 0, 1) := by decide +kernel
theorem dX7_runSeasons_125 : decode cX7_runSeasons 125 = .ok (.dup2, 1) := by decide +kernel
theorem dX7_runSeasons_126 : decode cX7_runSeasons 126 = .ok (.iaload, 1) := by decide +kernel
theorem dX7_runSeasons_127 : decode cX7_runSeasons 127 = .ok (.iconst 1, 1) := by decide +kernel
theorem dX7_runSeasons_128 : decode cX7_runSeasons 128 = .ok (.iadd, 1) := by decide +kernel
theorem dX7_runSeasons_129 : decode cX7_runSeasons 129 = .ok (.iastore, 1) := by decide +kernel
theorem dX7_runSeasons_136 : decode cX7_runSeasons 136 = .ok (.return_, 1) := by decide +kernel
theorem dX7_runSeasons_15 : decode cX7_runSeasons 15 = .ok (.return_, 1) := by decide +kernel
def yX9_weigh : MethodName := ⟨RX9, "weigh", "(LListenWells$Rock;LListenWells$Asker;I)V"⟩
abbrev cX9_weigh : ByteArray := prog_11_method_2_code
theorem dX9_weigh_0 : decode cX9_weigh 0 = .ok (.iconst 0, 1) := by decide +kernel
theorem dX9_weigh_1 : decode cX9_weigh 1 = .ok (.istore 4, 2) := by decide +kernel
theorem dX9_weigh_3 : decode cX9_weigh 3 = .ok (.iload 4, 2) := by decide +kernel
theorem dX9_weigh_5 : decode cX9_weigh 5 = .ok (.bipush 40, 2) := by decide +kernel
theorem dX9_weigh_7 : decode cX9_weigh 7 = .ok (.if_icmp .ge 71, 3) := by decide +kernel
theorem dX9_weigh_10 : decode cX9_weigh 10 = .ok (.aload_n 1, 1) := by decide +kernel
theorem dX9_weigh_11 : decode cX9_weigh 11 = .ok (.iload 4, 2) := by decide +kernel
theorem dX9_weigh_13 : decode cX9_weigh 13 = .ok (.invokevirtual 41, 3) := by decide +kernel
theorem lk_RX9_41 : Cond.methodLink RX9 41 yX6_isDug ∈ gW := gW_t 1055 (by decide +kernel) rfl
theorem dX9_weigh_16 : decode cX9_weigh 16 = .ok (.ifCond .ne 17, 3) := by decide +kernel
theorem dX9_weigh_33 : decode cX9_weigh 33 = .ok (.iconst 0, 1) := by decide +kernel
theorem dX9_weigh_19 : decode cX9_weigh 19 = .ok (.aload_n 2, 1) := by decide +kernel
theorem dX9_weigh_20 : decode cX9_weigh 20 = .ok (.iload_n 3, 1) := by decide +kernel
theorem dX9_weigh_21 : decode cX9_weigh 21 = .ok (.iload 4, 2) := by decide +kernel
theorem dX9_weigh_23 : decode cX9_weigh 23 = .ok (.invokevirtual 47, 3) := by decide +kernel
theorem lk_RX9_47 : Cond.methodLink RX9 47 yX0_passesOf ∈ gW := gW_t 1056 (by decide +kernel) rfl
theorem dX9_weigh_26 : decode cX9_weigh 26 = .ok (.ifCond .eq 7, 3) := by decide +kernel
theorem dX9_weigh_29 : decode cX9_weigh 29 = .ok (.iconst 1, 1) := by decide +kernel
theorem dX9_weigh_30 : decode cX9_weigh 30 = .ok (.goto 4, 3) := by decide +kernel
theorem dX9_weigh_34 : decode cX9_weigh 34 = .ok (.istore 5, 2) := by decide +kernel
theorem dX9_weigh_36 : decode cX9_weigh 36 = .ok (.aload_n 0, 1) := by decide +kernel
theorem dX9_weigh_37 : decode cX9_weigh 37 = .ok (.getfield 9, 3) := by decide +kernel
theorem dX9_weigh_40 : decode cX9_weigh 40 = .ok (.iload 4, 2) := by decide +kernel
theorem dX9_weigh_42 : decode cX9_weigh 42 = .ok (.iload 5, 2) := by decide +kernel
theorem dX9_weigh_44 : decode cX9_weigh 44 = .ok (.ifCond .eq 13, 3) := by decide +kernel
theorem dX9_weigh_57 : decode cX9_weigh 57 = .ok (.iconst 0, 1) := by decide +kernel
theorem dX9_weigh_47 : decode cX9_weigh 47 = .ok (.aload_n 2, 1) := by decide +kernel
theorem dX9_weigh_48 : decode cX9_weigh 48 = .ok (.iload_n 3, 1) := by decide +kernel
theorem dX9_weigh_49 : decode cX9_weigh 49 = .ok (.iload 4, 2) := by decide +kernel
theorem dX9_weigh_51 : decode cX9_weigh 51 = .ok (.invokevirtual 53, 3) := by decide +kernel
theorem lk_RX9_53 : Cond.methodLink RX9 53 yX0_digsOf ∈ gW := gW_t 1057 (by decide +kernel) rfl
theorem dX9_weigh_54 : decode cX9_weigh 54 = .ok (.goto 4, 3) := by decide +kernel
theorem dX9_weigh_58 : decode cX9_weigh 58 = .ok (.iastore, 1) := by decide +kernel
theorem dX9_weigh_59 : decode cX9_weigh 59 = .ok (.aload_n 0, 1) := by decide +kernel
theorem dX9_weigh_60 : decode cX9_weigh 60 = .ok (.getfield 15, 3) := by decide +kernel
theorem dX9_weigh_63 : decode cX9_weigh 63 = .ok (.iload 4, 2) := by decide +kernel
theorem dX9_weigh_65 : decode cX9_weigh 65 = .ok (.aload_n 1, 1) := by decide +kernel
theorem dX9_weigh_66 : decode cX9_weigh 66 = .ok (.iload 4, 2) := by decide +kernel
theorem dX9_weigh_68 : decode cX9_weigh 68 = .ok (.invokevirtual 57, 3) := by decide +kernel
theorem lk_RX9_57 : Cond.methodLink RX9 57 yX6_endsAWay ∈ gW := gW_t 1058 (by decide +kernel) rfl
theorem dX9_weigh_71 : decode cX9_weigh 71 = .ok (.bastore, 1) := by decide +kernel
theorem dX9_weigh_72 : decode cX9_weigh 72 = .ok (.iinc 4 1, 3) := by decide +kernel
theorem dX9_weigh_75 : decode cX9_weigh 75 = .ok (.goto (-72), 3) := by decide +kernel
theorem dX9_weigh_78 : decode cX9_weigh 78 = .ok (.return_, 1) := by decide +kernel
