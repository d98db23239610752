def yX11_down : MethodName := ⟨RX11, "down", "(III)I"⟩
abbrev cX11_down : ByteArray := prog_1_method_28_code
theorem dX11_down_0 : decode cX11_down 0 = .ok (.iload_n 3, 1) := by decide +kernel
theorem dX11_down_1 : decode cX11_down 1 = .ok (.ifCond .lt 12, 3) := by decide +kernel
theorem dX11_down_13 : decode cX11_down 13 = .ok (.iconst (-1), 1) := by decide +kernel
theorem dX11_down_14 : decode cX11_down 14 = .ok (.ireturn, 1) := by decide +kernel
theorem dX11_down_4 : decode cX11_down 4 = .ok (.aload_n 0, 1) := by decide +kernel
theorem dX11_down_5 : decode cX11_down 5 = .ok (.iload_n 1, 1) := by decide +kernel
theorem dX11_down_6 : decode cX11_down 6 = .ok (.iload_n 2, 1) := by decide +kernel
theorem dX11_down_7 : decode cX11_down 7 = .ok (.invokevirtual 293, 3) := by decide +kernel
theorem lk_RX11_293 : Cond.methodLink RX11 293 yX11_findWay ∈ gW := gW_u tb_5 86 (by rfl) (by decide +kernel)
theorem mI_X11_findWay : Cond.instanceMethod yX11_findWay ∈ gW := gW_u tb_5 88 (by rfl) (by decide +kernel)
theorem mS_X11_findWay : Cond.selects RX11 yX11_findWay yX11_findWay ∈ gW := gW_p (q := (yX11_findWay, 14)) 31 (by decide +kernel)
theorem mC_X11_findWay : Cond.code yX11_findWay cX11_findWay 4 (some .boolean) ∈ gW := gW_u tb_5 89 (by rfl) (by decide +kernel)
theorem ok_X11_findWay : okD yX11_findWay 2 := ⟨by decide +kernel, by decide +kernel, by decide +kernel⟩
theorem dX11_down_10 : decode cX11_down 10 = .ok (.ifCond .ne 5, 3) := by decide +kernel
theorem dX11_down_15 : decode cX11_down 15 = .ok (.iload_n 3, 1) := by decide +kernel
theorem dX11_down_16 : decode cX11_down 16 = .ok (.ifCond .ne 11, 3) := by decide +kernel
theorem dX11_down_27 : decode cX11_down 27 = .ok (.aload_n 0, 1) := by decide +kernel
theorem dX11_down_28 : decode cX11_down 28 = .ok (.getfield 49, 3) := by decide +kernel
theorem dX11_down_31 : decode cX11_down 31 = .ok (.aload_n 0, 1) := by decide +kernel
theorem dX11_down_32 : decode cX11_down 32 = .ok (.getfield 21, 3) := by decide +kernel
theorem dX11_down_35 : decode cX11_down 35 = .ok (.getfield 78, 3) := by decide +kernel
theorem dX11_down_38 : decode cX11_down 38 = .ok (.getfield 134, 3) := by decide +kernel
theorem dX11_down_41 : decode cX11_down 41 = .ok (.getfield 147, 3) := by decide +kernel
theorem dX11_down_44 : decode cX11_down 44 = .ok (.iload_n 1, 1) := by decide +kernel
theorem dX11_down_45 : decode cX11_down 45 = .ok (.iaload, 1) := by decide +kernel
theorem dX11_down_46 : decode cX11_down 46 = .ok (.iload_n 2, 1) := by decide +kernel
theorem dX11_down_47 : decode cX11_down 47 = .ok (.invokevirtual 299, 3) := by decide +kernel
theorem lk_RX11_299 : Cond.methodLink RX11 299 yX9_walk ∈ gW := gW_u tb_5 110 (by rfl) (by decide +kernel)
theorem mI_X9_walk : Cond.instanceMethod yX9_walk ∈ gW := gW_u tb_5 111 (by rfl) (by decide +kernel)
theorem mS_X9_walk : Cond.selects RX9 yX9_walk yX9_walk ∈ gW := gW_u tb_5 112 (by rfl) (by decide +kernel)
theorem mC_X9_walk : Cond.code yX9_walk cX9_walk 6 none ∈ gW := gW_u tb_5 113 (by rfl) (by decide +kernel)
theorem ok_X9_walk : okD yX9_walk 2 := ⟨by decide +kernel, by decide +kernel, by decide +kernel⟩
theorem dX11_down_50 : decode cX11_down 50 = .ok (.iload_n 3, 1) := by decide +kernel
theorem dX11_down_51 : decode cX11_down 51 = .ok (.iconst 1, 1) := by decide +kernel
theorem dX11_down_52 : decode cX11_down 52 = .ok (.if_icmp .ne 11, 3) := by decide +kernel
theorem dX11_down_63 : decode cX11_down 63 = .ok (.iload_n 3, 1) := by decide +kernel
theorem dX11_down_64 : decode cX11_down 64 = .ok (.iconst 2, 1) := by decide +kernel
theorem dX11_down_65 : decode cX11_down 65 = .ok (.isub, 1) := by decide +kernel
theorem dX11_down_66 : decode cX11_down 66 = .ok (.aload_n 0, 1) := by decide +kernel
theorem dX11_down_67 : decode cX11_down 67 = .ok (.getfield 49, 3) := by decide +kernel
theorem dX11_down_70 : decode cX11_down 70 = .ok (.getfield 302, 3) := by decide +kernel
theorem fl_RX11_302 : Cond.fieldLink RX11 302 RX9 "steps" "I" ∈ gW := gW_u tb_2 153 (by rfl) (by decide +kernel)
theorem dX11_down_73 : decode cX11_down 73 = .ok (.if_icmp .ge 17, 3) := by decide +kernel
theorem dX11_down_90 : decode cX11_down 90 = .ok (.iconst (-1), 1) := by decide +kernel
theorem dX11_down_91 : decode cX11_down 91 = .ok (.ireturn, 1) := by decide +kernel
theorem dX11_down_76 : decode cX11_down 76 = .ok (.aload_n 0, 1) := by decide +kernel
theorem dX11_down_77 : decode cX11_down 77 = .ok (.getfield 49, 3) := by decide +kernel
theorem dX11_down_80 : decode cX11_down 80 = .ok (.getfield 305, 3) := by decide +kernel
theorem fl_RX11_305 : Cond.fieldLink RX11 305 RX9 "path" "[I" ∈ gW := gW_u tb_2 151 (by rfl) (by decide +kernel)
theorem dX11_down_83 : decode cX11_down 83 = .ok (.iload_n 3, 1) := by decide +kernel
theorem dX11_down_84 : decode cX11_down 84 = .ok (.iconst 2, 1) := by decide +kernel
theorem dX11_down_85 : decode cX11_down 85 = .ok (.isub, 1) := by decide +kernel
theorem dX11_down_86 : decode cX11_down 86 = .ok (.iaload, 1) := by decide +kernel
theorem dX11_down_87 : decode cX11_down 87 = .ok (.goto 4, 3) := by decide +kernel
theorem dX11_down_55 : decode cX11_down 55 = .ok (.aload_n 0, 1) := by decide +kernel
theorem dX11_down_56 : decode cX11_down 56 = .ok (.getfield 49, 3) := by decide +kernel
theorem dX11_down_59 : decode cX11_down 59 = .ok (.getfield 302, 3) := by decide +kernel
theorem dX11_down_62 : decode cX11_down 62 = .ok (.ireturn, 1) := by decide +kernel
theorem dX11_down_19 : decode cX11_down 19 = .ok (.aload_n 0, 1) := by decide +kernel
theorem dX11_down_20 : decode cX11_down 20 = .ok (.getfield 49, 3) := by decide +kernel
theorem dX11_down_23 : decode cX11_down 23 = .ok (.getfield 296, 3) := by decide +kernel
theorem dX11_down_26 : decode cX11_down 26 = .ok (.ireturn, 1) := by decide +kernel
def yX11_gangs : MethodName := ⟨RX11, "gangs", "(JI)I"⟩
abbrev cX11_gangs : ByteArray := prog_1_method_29_code
theorem dX11_gangs_0 : decode cX11_gangs 0 = .ok (.aload_n 0, 1) := by decide +kernel
theorem dX11_gangs_1 : decode cX11_gangs 1 = .ok (.getfield 21, 3) := by decide +kernel
theorem dX11_gangs_4 : decode cX11_gangs 4 = .ok (.getfield 78, 3) := by decide +kernel
theorem dX11_gangs_7 : decode cX11_gangs 7 = .ok (.getfield 134, 3) := by decide +kernel
theorem dX11_gangs_10 : decode cX11_gangs 10 = .ok (.getfield 137, 3) := by decide +kernel
theorem dX11_gangs_13 : decode cX11_gangs 13 = .ok (.istore 4, 2) := by decide +kernel
theorem dX11_gangs_15 : decode cX11_gangs 15 = .ok (.lload_n 1, 1) := by decide +kernel
theorem dX11_gangs_16 : decode cX11_gangs 16 = .ok (.lconst 0, 1) := by decide +kernel
theorem dX11_gangs_17 : decode cX11_gangs 17 = .ok (.lcmp, 1) := by decide +kernel
theorem dX11_gangs_18 : decode cX11_gangs 18 = .ok (.ifCond .lt 32, 3) := by decide +kernel
theorem dX11_gangs_50 : decode cX11_gangs 50 = .ok (.iconst (-1), 1) := by decide +kernel
theorem dX11_gangs_51 : decode cX11_gangs 51 = .ok (.ireturn, 1) := by decide +kernel
theorem dX11_gangs_21 : decode cX11_gangs 21 = .ok (.lload_n 1, 1) := by decide +kernel
theorem dX11_gangs_22 : decode cX11_gangs 22 = .ok (.bipush 40, 2) := by decide +kernel
theorem dX11_gangs_24 : decode cX11_gangs 24 = .ok (.lshr, 1) := by decide +kernel
theorem dX11_gangs_25 : decode cX11_gangs 25 = .ok (.lconst 0, 1) := by decide +kernel
theorem dX11_gangs_26 : decode cX11_gangs 26 = .ok (.lcmp, 1) := by decide +kernel
theorem dX11_gangs_27 : decode cX11_gangs 27 = .ok (.ifCond .ne 23, 3) := by decide +kernel
theorem dX11_gangs_30 : decode cX11_gangs 30 = .ok (.lload_n 1, 1) := by decide +kernel
theorem dX11_gangs_31 : decode cX11_gangs 31 = .ok (.invokestatic 308, 3) := by decide +kernel
theorem dX11_gangs_34 : decode cX11_gangs 34 = .ok (.bipush 6, 2) := by decide +kernel
theorem dX11_gangs_36 : decode cX11_gangs 36 = .ok (.if_icmp .gt 14, 3) := by decide +kernel
theorem dX11_gangs_39 : decode cX11_gangs 39 = .ok (.iload_n 3, 1) := by decide +kernel
theorem dX11_gangs_40 : decode cX11_gangs 40 = .ok (.iload 4, 2) := by decide +kernel
theorem dX11_gangs_42 : decode cX11_gangs 42 = .ok (.iconst 1, 1) := by decide +kernel
theorem dX11_gangs_43 : decode cX11_gangs 43 = .ok (.iadd, 1) := by decide +kernel
theorem dX11_gangs_44 : decode cX11_gangs 44 = .ok (.invokestatic 82, 3) := by decide +kernel
theorem dX11_gangs_47 : decode cX11_gangs 47 = .ok (.ifCond .ne 5, 3) := by decide +kernel
theorem dX11_gangs_52 : decode cX11_gangs 52 = .ok (.aload_n 0, 1) := by decide +kernel
theorem dX11_gangs_53 : decode cX11_gangs 53 = .ok (.getfield 10, 3) := by decide +kernel
theorem dX11_gangs_56 : decode cX11_gangs 56 = .ok (.aload_n 0, 1) := by decide +kernel
theorem dX11_gangs_57 : decode cX11_gangs 57 = .ok (.getfield 21, 3) := by decide +kernel
theorem dX11_gangs_60 : decode cX11_gangs 60 = .ok (.getfield 78, 3) := by decide +kernel
theorem dX11_gangs_63 : decode cX11_gangs 63 = .ok (.aload_n 0, 1) := by decide +kernel
theorem dX11_gangs_64 : decode cX11_gangs 64 = .ok (.getfield 21, 3) := by decide +kernel
theorem dX11_gangs_67 : decode cX11_gangs 67 = .ok (.getfield 78, 3) := by decide +kernel
theorem dX11_gangs_70 : decode cX11_gangs 70 = .ok (.invokevirtual 116, 3) := by decide +kernel
theorem dX11_gangs_73 : decode cX11_gangs 73 = .ok (.invokevirtual 120, 3) := by decide +kernel
theorem dX11_gangs_76 : decode cX11_gangs 76 = .ok (.aload_n 0, 1) := by decide +kernel
theorem dX11_gangs_77 : decode cX11_gangs 77 = .ok (.getfield 49, 3) := by decide +kernel
theorem dX11_gangs_80 : decode cX11_gangs 80 = .ok (.aload_n 0, 1) := by decide +kernel
theorem dX11_gangs_81 : decode cX11_gangs 81 = .ok (.getfield 21, 3) := by decide +kernel
theorem dX11_gangs_84 : decode cX11_gangs 84 = .ok (.getfield 78, 3) := by decide +kernel
theorem dX11_gangs_87 : decode cX11_gangs 87 = .ok (.aload_n 0, 1) := by decide +kernel
theorem dX11_gangs_88 : decode cX11_gangs 88 = .ok (.getfield 10, 3) := by decide +kernel
theorem dX11_gangs_91 : decode cX11_gangs 91 = .ok (.lload_n 1, 1) := by decide +kernel
theorem dX11_gangs_92 : decode cX11_gangs 92 = .ok (.invokevirtual 314, 3) := by decide +kernel
theorem lk_RX11_314 : Cond.methodLink RX11 314 yX9_share ∈ gW := gW_u tb_5 124 (by rfl) (by decide +kernel)
theorem mI_X9_share : Cond.instanceMethod yX9_share ∈ gW := gW_u tb_5 125 (by rfl) (by decide +kernel)
theorem mS_X9_share : Cond.selects RX9 yX9_share yX9_share ∈ gW := gW_u tb_5 126 (by rfl) (by decide +kernel)
theorem mC_X9_share : Cond.code yX9_share cX9_share 10 (some .boolean) ∈ gW := gW_u tb_5 127 (by rfl) (by decide +kernel)
theorem ok_X9_share : okD yX9_share 3 := ⟨by decide +kernel, by decide +kernel, by decide +kernel⟩
theorem dX11_gangs_95 : decode cX11_gangs 95 = .ok (.ifCond .ne 5, 3) := by decide +kernel
theorem dX11_gangs_100 : decode cX11_gangs 100 = .ok (.iload_n 3, 1) := by decide +kernel
theorem dX11_gangs_101 : decode cX11_gangs 101 = .ok (.ifCond .ne 13, 3) := by decide +kernel
theorem dX11_gangs_114 : decode cX11_gangs 114 = .ok (.aload_n 0, 1) := by decide +kernel
theorem dX11_gangs_115 : decode cX11_gangs 115 = .ok (.getfield 49, 3) := by decide +kernel
theorem dX11_gangs_118 : decode cX11_gangs 118 = .ok (.getfield 318, 3) := by decide +kernel
theorem fl_RX11_318 : Cond.fieldLink RX11 318 RX9 "cellOfShaft" "[I" ∈ gW := gW_u tb_2 160 (by rfl) (by decide +kernel)
theorem dX11_gangs_121 : decode cX11_gangs 121 = .ok (.iload_n 3, 1) := by decide +kernel
theorem dX11_gangs_122 : decode cX11_gangs 122 = .ok (.iconst 1, 1) := by decide +kernel
theorem dX11_gangs_123 : decode cX11_gangs 123 = .ok (.isub, 1) := by decide +kernel
theorem dX11_gangs_124 : decode cX11_gangs 124 = .ok (.iaload, 1) := by decide +kernel
theorem dX11_gangs_125 : decode cX11_gangs 125 = .ok (.ireturn, 1) := by decide +kernel
theorem dX11_gangs_104 : decode cX11_gangs 104 = .ok (.aload_n 0, 1) := by decide +kernel
theorem dX11_gangs_105 : decode cX11_gangs 105 = .ok (.getfield 49, 3) := by decide +kernel
theorem dX11_gangs_108 : decode cX11_gangs 108 = .ok (.getfield 296, 3) := by decide +kernel
theorem dX11_gangs_111 : decode cX11_gangs 111 = .ok (.goto 14, 3) := by decide +kernel
theorem dX11_gangs_98 : decode cX11_gangs 98 = .ok (.iconst (-1), 1) := by decide +kernel
theorem dX11_gangs_99 : decode cX11_gangs 99 = .ok (.ireturn, 1) := by decide +kernel
def yX11_quiet : MethodName := ⟨RX11, "quiet", "(III)I"⟩
abbrev cX11_quiet : ByteArray := prog_1_method_30_code
theorem dX11_quiet_0 : decode cX11_quiet 0 = .ok (.aload_n 0, 1) := by decide +kernel
theorem dX11_quiet_1 : decode cX11_quiet 1 = .ok (.getfield 21, 3) := by decide +kernel
theorem dX11_quiet_4 : decode cX11_quiet 4 = .ok (.getfield 78, 3) := by decide +kernel
theorem dX11_quiet_7 : decode cX11_quiet 7 = .ok (.astore 4, 2) := by decide +kernel
theorem dX11_quiet_9 : decode cX11_quiet 9 = .ok (.iload_n 1, 1) := by decide +kernel
theorem dX11_quiet_10 : decode cX11_quiet 10 = .ok (.ifCond .lt 20, 3) := by decide +kernel
theorem dX11_quiet_30 : decode cX11_quiet 30 = .ok (.iconst 0, 1) := by decide +kernel
theorem dX11_quiet_13 : decode cX11_quiet 13 = .ok (.iload_n 1, 1) := by decide +kernel
theorem dX11_quiet_14 : decode cX11_quiet 14 = .ok (.aload 4, 2) := by decide +kernel
theorem dX11_quiet_16 : decode cX11_quiet 16 = .ok (.getfield 156, 3) := by decide +kernel
theorem dX11_quiet_19 : decode cX11_quiet 19 = .ok (.getfield 160, 3) := by decide +kernel
theorem dX11_quiet_22 : decode cX11_quiet 22 = .ok (.ishr, 1) := by decide +kernel
theorem dX11_quiet_23 : decode cX11_quiet 23 = .ok (.ifCond .ne 7, 3) := by decide +kernel
theorem dX11_quiet_26 : decode cX11_quiet 26 = .ok (.iconst 1, 1) := by decide +kernel
theorem dX11_quiet_27 : decode cX11_quiet 27 = .ok (.goto 4, 3) := by decide +kernel
theorem dX11_quiet_31 : decode cX11_quiet 31 = .ok (.istore 5, 2) := by decide +kernel
theorem dX11_quiet_33 : decode cX11_quiet 33 = .ok (.iload 5, 2) := by decide +kernel
theorem dX11_quiet_35 : decode cX11_quiet 35 = .ok (.ifCond .eq 34, 3) := by decide +kernel
theorem dX11_quiet_69 : decode cX11_quiet 69 = .ok (.iconst (-1), 1) := by decide +kernel
theorem dX11_quiet_70 : decode cX11_quiet 70 = .ok (.ireturn, 1) := by decide +kernel
theorem dX11_quiet_38 : decode cX11_quiet 38 = .ok (.iload_n 2, 1) := by decide +kernel
theorem dX11_quiet_39 : decode cX11_quiet 39 = .ok (.bipush 40, 2) := by decide +kernel
theorem dX11_quiet_41 : decode cX11_quiet 41 = .ok (.invokestatic 82, 3) := by decide +kernel
theorem dX11_quiet_44 : decode cX11_quiet 44 = .ok (.ifCond .eq 25, 3) := by decide +kernel
theorem dX11_quiet_47 : decode cX11_quiet 47 = .ok (.iload_n 3, 1) := by decide +kernel
theorem dX11_quiet_48 : decode cX11_quiet 48 = .ok (.iconst 2, 1) := by decide +kernel
theorem dX11_quiet_49 : decode cX11_quiet 49 = .ok (.invokestatic 82, 3) := by decide +kernel
theorem dX11_quiet_52 : decode cX11_quiet 52 = .ok (.ifCond .eq 17, 3) := by decide +kernel
theorem dX11_quiet_55 : decode cX11_quiet 55 = .ok (.aload 4, 2) := by decide +kernel
theorem dX11_quiet_57 : decode cX11_quiet 57 = .ok (.getfield 95, 3) := by decide +kernel
theorem dX11_quiet_60 : decode cX11_quiet 60 = .ok (.getfield 124, 3) := by decide +kernel
theorem dX11_quiet_63 : decode cX11_quiet 63 = .ok (.iload_n 2, 1) := by decide +kernel
theorem dX11_quiet_64 : decode cX11_quiet 64 = .ok (.iaload, 1) := by decide +kernel
theorem dX11_quiet_65 : decode cX11_quiet 65 = .ok (.iconst 3, 1) := by decide +kernel
theorem dX11_quiet_66 : decode cX11_quiet 66 = .ok (.if_icmp .eq 5, 3) := by decide +kernel
theorem dX11_quiet_71 : decode cX11_quiet 71 = .ok (.aload_n 0, 1) := by decide +kernel
theorem dX11_quiet_72 : decode cX11_quiet 72 = .ok (.getfield 10, 3) := by decide +kernel
theorem dX11_quiet_75 : decode cX11_quiet 75 = .ok (.aload 4, 2) := by decide +kernel
theorem dX11_quiet_77 : decode cX11_quiet 77 = .ok (.aload 4, 2) := by decide +kernel
theorem dX11_quiet_79 : decode cX11_quiet 79 = .ok (.invokevirtual 116, 3) := by decide +kernel
theorem dX11_quiet_82 : decode cX11_quiet 82 = .ok (.invokevirtual 120, 3) := by decide +kernel
theorem dX11_quiet_85 : decode cX11_quiet 85 = .ok (.aload_n 0, 1) := by decide +kernel
theorem dX11_quiet_86 : decode cX11_quiet 86 = .ok (.getfield 56, 3) := by decide +kernel
theorem dX11_quiet_89 : decode cX11_quiet 89 = .ok (.aload 4, 2) := by decide +kernel
theorem dX11_quiet_91 : decode cX11_quiet 91 = .ok (.iload_n 1, 1) := by decide +kernel
theorem dX11_quiet_92 : decode cX11_quiet 92 = .ok (.iload_n 2, 1) := by decide +kernel
theorem dX11_quiet_93 : decode cX11_quiet 93 = .ok (.invokevirtual 321, 3) := by decide +kernel
theorem lk_RX11_321 : Cond.methodLink RX11 321 yX3_fewestToHush ∈ gW := gW_u tb_5 151 (by rfl) (by decide +kernel)
theorem mI_X3_fewestToHush : Cond.instanceMethod yX3_fewestToHush ∈ gW := gW_u tb_5 152 (by rfl) (by decide +kernel)
theorem mS_X3_fewestToHush : Cond.selects RX3 yX3_fewestToHush yX3_fewestToHush ∈ gW := gW_u tb_5 153 (by rfl) (by decide +kernel)
theorem mC_X3_fewestToHush : Cond.code yX3_fewestToHush cX3_fewestToHush 8 (some .int) ∈ gW := gW_u tb_5 154 (by rfl) (by decide +kernel)
theorem ok_X3_fewestToHush : okD yX3_fewestToHush 3 := ⟨by decide +kernel, by decide +kernel, by decide +kernel⟩
theorem dX11_quiet_96 : decode cX11_quiet 96 = .ok (.istore 6, 2) := by decide +kernel
theorem dX11_quiet_98 : decode cX11_quiet 98 = .ok (.iload 6, 2) := by decide +kernel
theorem dX11_quiet_100 : decode cX11_quiet 100 = .ok (.iconst (-1), 1) := by decide +kernel
theorem dX11_quiet_101 : decode cX11_quiet 101 = .ok (.if_icmp .ne 5, 3) := by decide +kernel
theorem dX11_quiet_106 : decode cX11_quiet 106 = .ok (.iload_n 3, 1) := by decide +kernel
theorem dX11_quiet_107 : decode cX11_quiet 107 = .ok (.ifCond .ne 11, 3) := by decide +kernel
theorem dX11_quiet_118 : decode cX11_quiet 118 = .ok (.iload 6, 2) := by decide +kernel
theorem dX11_quiet_120 : decode cX11_quiet 120 = .ok (.ireturn, 1) := by decide +kernel
theorem dX11_quiet_110 : decode cX11_quiet 110 = .ok (.iload 6, 2) := by decide +kernel
theorem dX11_quiet_112 : decode cX11_quiet 112 = .ok (.invokestatic 325, 3) := by decide +kernel
theorem dX11_quiet_115 : decode cX11_quiet 115 = .ok (.goto 5, 3) := by decide +kernel
theorem dX11_quiet_104 : decode cX11_quiet 104 = .ok (.iconst (-1), 1) := by decide +kernel
theorem dX11_quiet_105 : decode cX11_quiet 105 = .ok (.ireturn, 1) := by decide +kernel
def yX11_hidden : MethodName := ⟨RX11, "hidden", "()J"⟩
abbrev cX11_hidden : ByteArray := prog_1_method_33_code
theorem dX11_hidden_0 : decode cX11_hidden 0 = .ok (.aload_n 0, 1) := by decide +kernel
theorem dX11_hidden_1 : decode cX11_hidden 1 = .ok (.getfield 56, 3) := by decide +kernel
theorem dX11_hidden_4 : decode cX11_hidden 4 = .ok (.aload_n 0, 1) := by decide +kernel
theorem dX11_hidden_5 : decode cX11_hidden 5 = .ok (.getfield 21, 3) := by decide +kernel
theorem dX11_hidden_8 : decode cX11_hidden 8 = .ok (.getfield 78, 3) := by decide +kernel
theorem dX11_hidden_11 : decode cX11_hidden 11 = .ok (.invokevirtual 338, 3) := by decide +kernel
theorem lk_RX11_338 : Cond.methodLink RX11 338 yX3_hiddenCells ∈ gW := gW_u tb_5 182 (by rfl) (by decide +kernel)
theorem mI_X3_hiddenCells : Cond.instanceMethod yX3_hiddenCells ∈ gW := gW_u tb_5 183 (by rfl) (by decide +kernel)
theorem mS_X3_hiddenCells : Cond.selects RX3 yX3_hiddenCells yX3_hiddenCells ∈ gW := gW_u tb_5 184 (by rfl) (by decide +kernel)
theorem mC_X3_hiddenCells : Cond.code yX3_hiddenCells cX3_hiddenCells 5 (some .long) ∈ gW := gW_u tb_5 185 (by rfl) (by decide +kernel)
theorem ok_X3_hiddenCells : okD yX3_hiddenCells 1 := ⟨by decide +kernel, by decide +kernel, by decide +kernel⟩
theorem dX11_hidden_14 : decode cX11_hidden 14 = .ok (.lreturn, 1) := by decide +kernel
def yX11_next : MethodName := ⟨RX11, "next", "(I)I"⟩
abbrev cX11_next : ByteArray := prog_1_method_34_code
theorem dX11_next_0 : decode cX11_next 0 = .ok (.iload_n 1, 1) := by decide +kernel
theorem dX11_next_1 : decode cX11_next 1 = .ok (.iconst 2, 1) := by decide +kernel
theorem dX11_next_2 : decode cX11_next 2 = .ok (.invokestatic 82, 3) := by decide +kernel
theorem dX11_next_5 : decode cX11_next 5 = .ok (.ifCond .eq 20, 3) := by decide +kernel
theorem dX11_next_25 : decode cX11_next 25 = .ok (.lconst 0, 1) := by decide +kernel
theorem dX11_next_8 : decode cX11_next 8 = .ok (.aload_n 0, 1) := by decide +kernel
theorem dX11_next_9 : decode cX11_next 9 = .ok (.getfield 56, 3) := by decide +kernel
theorem dX11_next_12 : decode cX11_next 12 = .ok (.aload_n 0, 1) := by decide +kernel
theorem dX11_next_13 : decode cX11_next 13 = .ok (.getfield 21, 3) := by decide +kernel
theorem dX11_next_16 : decode cX11_next 16 = .ok (.getfield 78, 3) := by decide +kernel
theorem dX11_next_19 : decode cX11_next 19 = .ok (.invokevirtual 338, 3) := by decide +kernel
theorem dX11_next_22 : decode cX11_next 22 = .ok (.goto 4, 3) := by decide +kernel
theorem dX11_next_26 : decode cX11_next 26 = .ok (.lstore_n 2, 1) := by decide +kernel
theorem dX11_next_27 : decode cX11_next 27 = .ok (.lload_n 2, 1) := by decide +kernel
theorem dX11_next_28 : decode cX11_next 28 = .ok (.lconst 0, 1) := by decide +kernel
theorem dX11_next_29 : decode cX11_next 29 = .ok (.lcmp, 1) := by decide +kernel
theorem dX11_next_30 : decode cX11_next 30 = .ok (.ifCond .ne 5, 3) := by decide +kernel
theorem dX11_next_35 : decode cX11_next 35 = .ok (.iconst 0, 1) := by decide +kernel
theorem dX11_next_36 : decode cX11_next 36 = .ok (.istore 4, 2) := by decide +kernel
theorem dX11_next_38 : decode cX11_next 38 = .ok (.aload_n 0, 1) := by decide +kernel
theorem dX11_next_39 : decode cX11_next 39 = .ok (.getfield 56, 3) := by decide +kernel
theorem dX11_next_42 : decode cX11_next 42 = .ok (.lload_n 2, 1) := by decide +kernel
theorem dX11_next_43 : decode cX11_next 43 = .ok (.iconst 0, 1) := by decide +kernel
theorem dX11_next_44 : decode cX11_next 44 = .ok (.invokevirtual 342, 3) := by decide +kernel
theorem lk_RX11_342 : Cond.methodLink RX11 342 yX3_mostAlike ∈ gW := gW_u tb_5 197 (by rfl) (by decide +kernel)
theorem mI_X3_mostAlike : Cond.instanceMethod yX3_mostAlike ∈ gW := gW_u tb_5 198 (by rfl) (by decide +kernel)
theorem mS_X3_mostAlike : Cond.selects RX3 yX3_mostAlike yX3_mostAlike ∈ gW := gW_u tb_5 199 (by rfl) (by decide +kernel)
theorem mC_X3_mostAlike : Cond.code yX3_mostAlike cX3_mostAlike 7 (some .int) ∈ gW := gW_u tb_5 200 (by rfl) (by decide +kernel)
theorem ok_X3_mostAlike : okD yX3_mostAlike 2 := ⟨by decide +kernel, by decide +kernel, by decide +kernel⟩
theorem dX11_next_47 : decode cX11_next 47 = .ok (.istore 5, 2) := by decide +kernel
theorem dX11_next_49 : decode cX11_next 49 = .ok (.iconst 1, 1) := by decide +kernel
theorem dX11_next_50 : decode cX11_next 50 = .ok (.istore 6, 2) := by decide +kernel
theorem dX11_next_52 : decode cX11_next 52 = .ok (.iload 6, 2) := by decide +kernel
theorem dX11_next_54 : decode cX11_next 54 = .ok (.bipush 8, 2) := by decide +kernel
theorem dX11_next_56 : decode cX11_next 56 = .ok (.if_icmp .ge 36, 3) := by decide +kernel
theorem dX11_next_59 : decode cX11_next 59 = .ok (.aload_n 0, 1) := by decide +kernel
theorem dX11_next_60 : decode cX11_next 60 = .ok (.getfield 56, 3) := by decide +kernel
theorem dX11_next_63 : decode cX11_next 63 = .ok (.lload_n 2, 1) := by decide +kernel
theorem dX11_next_64 : decode cX11_next 64 = .ok (.iload 6, 2) := by decide +kernel
theorem dX11_next_66 : decode cX11_next 66 = .ok (.invokevirtual 342, 3) := by decide +kernel
theorem dX11_next_69 : decode cX11_next 69 = .ok (.istore 7, 2) := by decide +kernel
theorem dX11_next_71 : decode cX11_next 71 = .ok (.iload 7, 2) := by decide +kernel
theorem dX11_next_73 : decode cX11_next 73 = .ok (.iload 5, 2) := by decide +kernel
theorem dX11_next_75 : decode cX11_next 75 = .ok (.if_icmp .ge 11, 3) := by decide +kernel
theorem dX11_next_86 : decode cX11_next 86 = .ok (.iinc 6 1, 3) := by decide +kernel
theorem dX11_next_89 : decode cX11_next 89 = .ok (.goto (-37), 3) := by decide +kernel
theorem dX11_next_78 : decode cX11_next 78 = .ok (.iload 7, 2) := by decide +kernel
theorem dX11_next_80 : decode cX11_next 80 = .ok (.istore 5, 2) := by decide +kernel
theorem dX11_next_82 : decode cX11_next 82 = .ok (.iload 6, 2) := by decide +kernel
theorem dX11_next_84 : decode cX11_next 84 = .ok (.istore 4, 2) := by decide +kernel
theorem dX11_next_92 : decode cX11_next 92 = .ok (.iload_n 1, 1) := by decide +kernel
theorem dX11_next_93 : decode cX11_next 93 = .ok (.ifCond .ne 8, 3) := by decide +kernel
theorem dX11_next_101 : decode cX11_next 101 = .ok (.iload 5, 2) := by decide +kernel
theorem dX11_next_103 : decode cX11_next 103 = .ok (.ireturn, 1) := by decide +kernel
theorem dX11_next_96 : decode cX11_next 96 = .ok (.iload 4, 2) := by decide +kernel
theorem dX11_next_98 : decode cX11_next 98 = .ok (.goto 5, 3) := by decide +kernel
theorem dX11_next_33 : decode cX11_next 33 = .ok (.iconst (-1), 1) := by decide +kernel
theorem dX11_next_34 : decode cX11_next 34 = .ok (.ireturn, 1) := by decide +kernel
