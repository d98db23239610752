theorem mI_X9_priceAll : Cond.instanceMethod yX9_priceAll ∈ gW := gW_t 1090 (by decide +kernel) rfl
theorem mS_X9_priceAll : Cond.selects RX9 yX9_priceAll yX9_priceAll ∈ gW := gW_p (q := (yX9_priceAll, 11)) 33 (by decide +kernel)
theorem mC_X9_priceAll : Cond.code yX9_priceAll cX9_priceAll 7 none ∈ gW := gW_t 1091 (by decide +kernel) rfl
theorem ok_X9_priceAll : okD yX9_priceAll 3 := ⟨by decide +kernel, by decide +kernel, by decide +kernel⟩
theorem dX9_share_57 : decode cX9_share 57 = .ok (.aload_n 1, 1) := by decide +kernel
theorem dX9_share_58 : decode cX9_share 58 = .ok (.getfield 77, 3) := by decide +kernel
theorem dX9_share_61 : decode cX9_share 61 = .ok (.getfield 83, 3) := by decide +kernel
theorem dX9_share_64 : decode cX9_share 64 = .ok (.istore 6, 2) := by decide +kernel
theorem dX9_share_66 : decode cX9_share 66 = .ok (.iconst 1, 1) := by decide +kernel
theorem dX9_share_67 : decode cX9_share 67 = .ok (.iload 5, 2) := by decide +kernel
theorem dX9_share_69 : decode cX9_share 69 = .ok (.ishl, 1) := by decide +kernel
theorem dX9_share_70 : decode cX9_share 70 = .ok (.iconst 1, 1) := by decide +kernel
theorem dX9_share_71 : decode cX9_share 71 = .ok (.isub, 1) := by decide +kernel
theorem dX9_share_72 : decode cX9_share 72 = .ok (.istore 7, 2) := by decide +kernel
theorem dX9_share_74 : decode cX9_share 74 = .ok (.iconst 0, 1) := by decide +kernel
theorem dX9_share_75 : decode cX9_share 75 = .ok (.istore 8, 2) := by decide +kernel
theorem dX9_share_77 : decode cX9_share 77 = .ok (.iload 8, 2) := by decide +kernel
theorem dX9_share_79 : decode cX9_share 79 = .ok (.iload 7, 2) := by decide +kernel
theorem dX9_share_81 : decode cX9_share 81 = .ok (.if_icmp .gt 33, 3) := by decide +kernel
theorem dX9_share_84 : decode cX9_share 84 = .ok (.aload_n 0, 1) := by decide +kernel
theorem dX9_share_85 : decode cX9_share 85 = .ok (.getfield 31, 3) := by decide +kernel
theorem dX9_share_88 : decode cX9_share 88 = .ok (.iload 6, 2) := by decide +kernel
theorem dX9_share_90 : decode cX9_share 90 = .ok (.bipush 64, 2) := by decide +kernel
theorem dX9_share_92 : decode cX9_share 92 = .ok (.imul, 1) := by decide +kernel
theorem dX9_share_93 : decode cX9_share 93 = .ok (.iload 8, 2) := by decide +kernel
theorem dX9_share_95 : decode cX9_share 95 = .ok (.iadd, 1) := by decide +kernel
theorem dX9_share_96 : decode cX9_share 96 = .ok (.iload 8, 2) := by decide +kernel
theorem dX9_share_98 : decode cX9_share 98 = .ok (.ifCond .ne 7, 3) := by decide +kernel
theorem dX9_share_105 : decode cX9_share 105 = .ok (.ldc 68, 2) := by decide +kernel
theorem dX9_share_107 : decode cX9_share 107 = .ok (.iastore, 1) := by decide +kernel
theorem dX9_share_108 : decode cX9_share 108 = .ok (.iinc 8 1, 3) := by decide +kernel
theorem dX9_share_111 : decode cX9_share 111 = .ok (.goto (-34), 3) := by decide +kernel
theorem dX9_share_101 : decode cX9_share 101 = .ok (.iconst 0, 1) := by decide +kernel
theorem dX9_share_102 : decode cX9_share 102 = .ok (.goto 5, 3) := by decide +kernel
theorem dX9_share_114 : decode cX9_share 114 = .ok (.iload 6, 2) := by decide +kernel
theorem dX9_share_116 : decode cX9_share 116 = .ok (.iconst 1, 1) := by decide +kernel
theorem dX9_share_117 : decode cX9_share 117 = .ok (.isub, 1) := by decide +kernel
theorem dX9_share_118 : decode cX9_share 118 = .ok (.istore 8, 2) := by decide +kernel
theorem dX9_share_120 : decode cX9_share 120 = .ok (.iload 8, 2) := by decide +kernel
theorem dX9_share_122 : decode cX9_share 122 = .ok (.ifCond .lt 48, 3) := by decide +kernel
theorem dX9_share_125 : decode cX9_share 125 = .ok (.iconst 0, 1) := by decide +kernel
theorem dX9_share_126 : decode cX9_share 126 = .ok (.istore 9, 2) := by decide +kernel
theorem dX9_share_128 : decode cX9_share 128 = .ok (.iload 9, 2) := by decide +kernel
theorem dX9_share_130 : decode cX9_share 130 = .ok (.iload 7, 2) := by decide +kernel
theorem dX9_share_132 : decode cX9_share 132 = .ok (.if_icmp .gt 32, 3) := by decide +kernel
theorem dX9_share_135 : decode cX9_share 135 = .ok (.aload_n 0, 1) := by decide +kernel
theorem dX9_share_136 : decode cX9_share 136 = .ok (.getfield 31, 3) := by decide +kernel
theorem dX9_share_139 : decode cX9_share 139 = .ok (.iload 8, 2) := by decide +kernel
theorem dX9_share_141 : decode cX9_share 141 = .ok (.bipush 64, 2) := by decide +kernel
theorem dX9_share_143 : decode cX9_share 143 = .ok (.imul, 1) := by decide +kernel
theorem dX9_share_144 : decode cX9_share 144 = .ok (.iload 9, 2) := by decide +kernel
theorem dX9_share_146 : decode cX9_share 146 = .ok (.iadd, 1) := by decide +kernel
theorem dX9_share_147 : decode cX9_share 147 = .ok (.aload_n 0, 1) := by decide +kernel
theorem dX9_share_148 : decode cX9_share 148 = .ok (.iload 8, 2) := by decide +kernel
theorem dX9_share_150 : decode cX9_share 150 = .ok (.iload 9, 2) := by decide +kernel
theorem dX9_share_152 : decode cX9_share 152 = .ok (.iload 5, 2) := by decide +kernel
theorem dX9_share_154 : decode cX9_share 154 = .ok (.invokevirtual 88, 3) := by decide +kernel
theorem lk_RX9_88 : Cond.methodLink RX9 88 yX9_fewestFrom ∈ gW := gW_t 1095 (by decide +kernel) rfl
theorem mI_X9_fewestFrom : Cond.instanceMethod yX9_fewestFrom ∈ gW := gW_t 1097 (by decide +kernel) rfl
theorem mS_X9_fewestFrom : Cond.selects RX9 yX9_fewestFrom yX9_fewestFrom ∈ gW := gW_p (q := (yX9_fewestFrom, 11)) 34 (by decide +kernel)
theorem mC_X9_fewestFrom : Cond.code yX9_fewestFrom cX9_fewestFrom 6 (some .int) ∈ gW := gW_t 1098 (by decide +kernel) rfl
theorem ok_X9_fewestFrom : okD yX9_fewestFrom 3 := ⟨by decide +kernel, by decide +kernel, by decide +kernel⟩
theorem dX9_share_157 : decode cX9_share 157 = .ok (.iastore, 1) := by decide +kernel
theorem dX9_share_158 : decode cX9_share 158 = .ok (.iinc 9 1, 3) := by decide +kernel
theorem dX9_share_161 : decode cX9_share 161 = .ok (.goto (-33), 3) := by decide +kernel
theorem dX9_share_164 : decode cX9_share 164 = .ok (.iinc 8 (-1), 3) := by decide +kernel
theorem dX9_share_167 : decode cX9_share 167 = .ok (.goto (-47), 3) := by decide +kernel
theorem dX9_share_170 : decode cX9_share 170 = .ok (.aload_n 0, 1) := by decide +kernel
theorem dX9_share_171 : decode cX9_share 171 = .ok (.aload_n 0, 1) := by decide +kernel
theorem dX9_share_172 : decode cX9_share 172 = .ok (.getfield 31, 3) := by decide +kernel
theorem dX9_share_175 : decode cX9_share 175 = .ok (.iload 7, 2) := by decide +kernel
theorem dX9_share_177 : decode cX9_share 177 = .ok (.iaload, 1) := by decide +kernel
theorem dX9_share_178 : decode cX9_share 178 = .ok (.putfield 92, 3) := by decide +kernel
theorem dX9_share_181 : decode cX9_share 181 = .ok (.aload_n 0, 1) := by decide +kernel
theorem dX9_share_182 : decode cX9_share 182 = .ok (.getfield 92, 3) := by decide +kernel
theorem dX9_share_185 : decode cX9_share 185 = .ok (.ldc 68, 2) := by decide +kernel
theorem dX9_share_187 : decode cX9_share 187 = .ok (.if_icmp .lt 5, 3) := by decide +kernel
theorem dX9_share_192 : decode cX9_share 192 = .ok (.aload_n 0, 1) := by decide +kernel
theorem dX9_share_193 : decode cX9_share 193 = .ok (.iload 6, 2) := by decide +kernel
theorem dX9_share_195 : decode cX9_share 195 = .ok (.iload 5, 2) := by decide +kernel
theorem dX9_share_197 : decode cX9_share 197 = .ok (.invokevirtual 95, 3) := by decide +kernel
theorem lk_RX9_95 : Cond.methodLink RX9 95 yX9_fillRow ∈ gW := gW_t 1103 (by decide +kernel) rfl
theorem mI_X9_fillRow : Cond.instanceMethod yX9_fillRow ∈ gW := gW_t 1105 (by decide +kernel) rfl
theorem mS_X9_fillRow : Cond.selects RX9 yX9_fillRow yX9_fillRow ∈ gW := gW_p (q := (yX9_fillRow, 11)) 36 (by decide +kernel)
theorem mC_X9_fillRow : Cond.code yX9_fillRow cX9_fillRow 7 none ∈ gW := gW_t 1106 (by decide +kernel) rfl
theorem ok_X9_fillRow : okD yX9_fillRow 2 := ⟨by decide +kernel, by decide +kernel, by decide +kernel⟩
theorem dX9_share_200 : decode cX9_share 200 = .ok (.iconst 1, 1) := by decide +kernel
theorem dX9_share_201 : decode cX9_share 201 = .ok (.ireturn, 1) := by decide +kernel
theorem dX9_share_190 : decode cX9_share 190 = .ok (.iconst 0, 1) := by decide +kernel
theorem dX9_share_191 : decode cX9_share 191 = .ok (.ireturn, 1) := by decide +kernel
theorem mI_X3_measure : Cond.instanceMethod yX3_measure ∈ gW := gW_t 984 (by decide +kernel) rfl
theorem mS_X3_measure : Cond.selects RX3 yX3_measure yX3_measure ∈ gW := gW_t 985 (by decide +kernel) rfl
theorem mC_X3_measure : Cond.code yX3_measure cX3_measure 4 none ∈ gW := gW_t 986 (by decide +kernel) rfl
theorem ok_X3_measure : okD yX3_measure 2 := ⟨by decide +kernel, by decide +kernel, by decide +kernel⟩
theorem dX11_hears_38 : decode cX11_hears 38 = .ok (.aload_n 0, 1) := by decide +kernel
theorem dX11_hears_39 : decode cX11_hears 39 = .ok (.getfield 56, 3) := by decide +kernel
theorem dX11_hears_42 : decode cX11_hears 42 = .ok (.aload_n 2, 1) := by decide +kernel
theorem dX11_hears_43 : decode cX11_hears 43 = .ok (.iload_n 1, 1) := by decide +kernel
theorem dX11_hears_44 : decode cX11_hears 44 = .ok (.invokevirtual 273, 3) := by decide +kernel
theorem lk_RX11_273 : Cond.methodLink RX11 273 yX3_cellsHeardBy ∈ gW := gW_t 994 (by decide +kernel) rfl
theorem mI_X3_cellsHeardBy : Cond.instanceMethod yX3_cellsHeardBy ∈ gW := gW_t 995 (by decide +kernel) rfl
theorem mS_X3_cellsHeardBy : Cond.selects RX3 yX3_cellsHeardBy yX3_cellsHeardBy ∈ gW := gW_t 996 (by decide +kernel) rfl
theorem mC_X3_cellsHeardBy : Cond.code yX3_cellsHeardBy cX3_cellsHeardBy 8 (some .long) ∈ gW := gW_t 997 (by decide +kernel) rfl
theorem ok_X3_cellsHeardBy : okD yX3_cellsHeardBy 2 := ⟨by decide +kernel, by decide +kernel, by decide +kernel⟩
theorem dX11_hears_47 : decode cX11_hears 47 = .ok (.lreturn, 1) := by decide +kernel
theorem dX11_hears_22 : decode cX11_hears 22 = .ok (.ldc2_w 268, 3) := by decide +kernel
theorem dX11_hears_25 : decode cX11_hears 25 = .ok (.lreturn, 1) := by decide +kernel
theorem mI_X11_findWay : Cond.instanceMethod yX11_findWay ∈ gW := gW_t 1048 (by decide +kernel) rfl
theorem mS_X11_findWay : Cond.selects RX11 yX11_findWay yX11_findWay ∈ gW := gW_p (q := (yX11_findWay, 14)) 31 (by decide +kernel)
theorem mC_X11_findWay : Cond.code yX11_findWay cX11_findWay 4 (some .boolean) ∈ gW := gW_t 1049 (by decide +kernel) rfl
theorem ok_X11_findWay : okD yX11_findWay 2 := ⟨by decide +kernel, by decide +kernel, by decide +kernel⟩
theorem dX11_down_10 : decode cX11_down 10 = .ok (.ifCond .ne 5, 3) := by decide +kernel
theorem dX11_down_15 : decode cX11_down 15 = .ok (.iload_n 3, 1) := by decide +kernel
theorem dX11_down_16 : decode cX11_down 16 = .ok (.ifCond .ne 11, 3) := by decide +kernel
theorem dX11_down_27 : decode cX11_down 27 = .ok (.aload_n 0, 1) := by decide +kernel
theorem dX11_down_28 : decode cX11_down 28 = .ok (.getfield 49, 3) := by decide +kernel
theorem dX11_down_31 : decode cX11_down 31 = .ok (.aload_n 0, 1) := by decide +kernel
theorem dX11_down_32 : decode cX11_down 32 = .ok (.getfield 21, 3) := by decide +kernel
theorem dX11_down_35 : decode cX11_down 35 = .ok (.getfield 78, 3) := by decide +kernel
theorem dX11_down_38 : decode cX11_down 38 = .ok (.getfield 134, 3) := by decide +kernel
theorem dX11_down_41 : decode cX11_down 41 = .ok (.getfield 147, 3) := by decide +kernel
theorem dX11_down_44 : decode cX11_down 44 = .ok (.iload_n 1, 1) := by decide +kernel
theorem dX11_down_45 : decode cX11_down 45 = .ok (.iaload, 1) := by decide +kernel
theorem dX11_down_46 : decode cX11_down 46 = .ok (.iload_n 2, 1) := by decide +kernel
theorem dX11_down_47 : decode cX11_down 47 = .ok (.invokevirtual 299, 3) := by decide +kernel
theorem lk_RX11_299 : Cond.methodLink RX11 299 yX9_walk ∈ gW := gW_t 1070 (by decide +kernel) rfl
theorem mI_X9_walk : Cond.instanceMethod yX9_walk ∈ gW := gW_t 1071 (by decide +kernel) rfl
theorem mS_X9_walk : Cond.selects RX9 yX9_walk yX9_walk ∈ gW := gW_t 1072 (by decide +kernel) rfl
theorem mC_X9_walk : Cond.code yX9_walk cX9_walk 6 none ∈ gW := gW_t 1073 (by decide +kernel) rfl
theorem ok_X9_walk : okD yX9_walk 2 := ⟨by decide +kernel, by decide +kernel, by decide +kernel⟩
theorem dX11_down_50 : decode cX11_down 50 = .ok (.iload_n 3, 1) := by decide +kernel
theorem dX11_down_51 : decode cX11_down 51 = .ok (.iconst 1, 1) := by decide +kernel
theorem dX11_down_52 : decode cX11_down 52 = .ok (.if_icmp .ne 11, 3) := by decide +kernel
theorem dX11_down_63 : decode cX11_down 63 = .ok (.iload_n 3, 1) := by decide +kernel
theorem dX11_down_64 : decode cX11_down 64 = .ok (.iconst 2, 1) := by decide +kernel
theorem dX11_down_65 : decode cX11_down 65 = .ok (.isub, 1) := by decide +kernel
theorem dX11_down_66 : decode cX11_down 66 = .ok (.aload_n 0, 1) := by decide +kernel
theorem dX11_down_67 : decode cX11_down 67 = .ok (.getfield 49, 3) := by decide +kernel
theorem dX11_down_70 : decode cX11_down 70 = .ok (.getfield 302, 3) := by decide +kernel
theorem fl_RX11_302 : Cond.fieldLink RX11 302 RX9 "steps" "I" ∈ gW := gW_t 393 (by decide +kernel) rfl
theorem dX11_down_73 : decode cX11_down 73 = .ok (.if_icmp .ge 17, 3) := by decide +kernel
theorem dX11_down_90 : decode cX11_down 90 = .ok (.iconst (-1), 1) := by decide +kernel
theorem dX11_down_91 : decode cX11_down 91 = .ok (.ireturn, 1) := by decide +kernel
theorem dX11_down_76 : decode cX11_down 76 = .ok (.aload_n 0, 1) := by decide +kernel
theorem dX11_down_77 : decode cX11_down 77 = .ok (.getfield 49, 3) := by decide +kernel
theorem dX11_down_80 : decode cX11_down 80 = .ok (.getfield 305, 3) := by decide +kernel
theorem fl_RX11_305 : Cond.fieldLink RX11 305 RX9 "path" "[I" ∈ gW := gW_t 391 (by decide +kernel) rfl
theorem dX11_down_83 : decode cX11_down 83 = .ok (.iload_n 3, 1) := by decide +kernel
theorem dX11_down_84 : decode cX11_down 84 = .ok (.iconst 2, 1) := by decide +kernel
theorem dX11_down_85 : decode cX11_down 85 = .ok (.isub, 1) := by decide +kernel
theorem dX11_down_86 : decode cX11_down 86 = .ok (.iaload, 1) := by decide +kernel
theorem dX11_down_87 : decode cX11_down 87 = .ok (.goto 4, 3) := by decide +kernel
theorem dX11_down_55 : decode cX11_down 55 = .ok (.aload_n 0, 1) := by decide +kernel
theorem dX11_down_56 : decode cX11_down 56 = .ok (.getfield 49, 3) := by decide +kernel
theorem dX11_down_59 : decode cX11_down 59 = .ok (.getfield 302, 3) := by decide +kernel
theorem dX11_down_62 : decode cX11_down 62 = .ok (.ireturn, 1) := by decide +kernel
theorem dX11_down_19 : decode cX11_down 19 = .ok (.aload_n 0, 1) := by decide +kernel
theorem dX11_down_20 : decode cX11_down 20 = .ok (.getfield 49, 3) := by decide +kernel
theorem dX11_down_23 : decode cX11_down 23 = .ok (.getfield 296, 3) := by decide +kernel
theorem dX11_down_26 : decode cX11_down 26 = .ok (.ireturn, 1) := by decide +kernel
theorem mI_X9_share : Cond.instanceMethod yX9_share ∈ gW := gW_t 1085 (by decide +kernel) rfl
theorem mS_X9_share : Cond.selects RX9 yX9_share yX9_share ∈ gW := gW_t 1086 (by decide +kernel) rfl
theorem mC_X9_share : Cond.code yX9_share cX9_share 10 (some .boolean) ∈ gW := gW_t 1087 (by decide +kernel) rfl
theorem ok_X9_share : okD yX9_share 3 := ⟨by decide +kernel, by decide +kernel, by decide +kernel⟩
theorem dX11_gangs_95 : decode cX11_gangs 95 = .ok (.ifCond .ne 5, 3) := by decide +kernel
theorem dX11_gangs_100 : decode cX11_gangs 100 = .ok (.iload_n 3, 1) := by decide +kernel
theorem dX11_gangs_101 : decode cX11_gangs 101 = .ok (.ifCond .ne 13, 3) := by decide +kernel
theorem dX11_gangs_114 : decode cX11_gangs 114 = .ok (.aload_n 0, 1) := by decide +kernel
theorem dX11_gangs_115 : decode cX11_gangs 115 = .ok (.getfield 49, 3) := by decide +kernel
theorem dX11_gangs_118 : decode cX11_gangs 118 = .ok (.getfield 318, 3) := by decide +kernel
theorem fl_RX11_318 : Cond.fieldLink RX11 318 RX9 "cellOfShaft" "[I" ∈ gW := gW_t 400 (by decide +kernel) rfl
theorem dX11_gangs_121 : decode cX11_gangs 121 = .ok (.iload_n 3, 1) := by decide +kernel
theorem dX11_gangs_122 : decode cX11_gangs 122 = .ok (.iconst 1, 1) := by decide +kernel
theorem dX11_gangs_123 : decode cX11_gangs 123 = .ok (.isub, 1) := by decide +kernel
theorem dX11_gangs_124 : decode cX11_gangs 124 = .ok (.iaload, 1) := by decide +kernel
theorem dX11_gangs_125 : decode cX11_gangs 125 = .ok (.ireturn, 1) := by decide +kernel
theorem dX11_gangs_104 : decode cX11_gangs 104 = .ok (.aload_n 0, 1) := by decide +kernel
theorem dX11_gangs_105 : decode cX11_gangs 105 = .ok (.getfield 49, 3) := by decide +kernel
theorem dX11_gangs_108 : decode cX11_gangs 108 = .ok (.getfield 296, 3) := by decide +kernel
theorem dX11_gangs_111 : decode cX11_gangs 111 = .ok (.goto 14, 3) := by decide +kernel
theorem dX11_gangs_98 : decode cX11_gangs 98 = .ok (.iconst (-1), 1) := by decide +kernel
theorem dX11_gangs_99 : decode cX11_gangs 99 = .ok (.ireturn, 1) := by decide +kernel
