def yX9_share : MethodName := ⟨RX9, "share", "(LListenWells$World;LListenWells$Asker;J)Z"⟩
abbrev cX9_share : ByteArray := prog_11_method_6_code
theorem dX9_share_0 : decode cX9_share 0 = .ok (.iconst 0, 1) := by decide +kernel
theorem dX9_share_1 : decode cX9_share 1 = .ok (.istore 5, 2) := by decide +kernel
theorem dX9_share_3 : decode cX9_share 3 = .ok (.iconst 0, 1) := by decide +kernel
theorem dX9_share_4 : decode cX9_share 4 = .ok (.istore 6, 2) := by decide +kernel
theorem dX9_share_6 : decode cX9_share 6 = .ok (.iload 6, 2) := by decide +kernel
theorem dX9_share_8 : decode cX9_share 8 = .ok (.bipush 40, 2) := by decide +kernel
theorem dX9_share_10 : decode cX9_share 10 = .ok (.if_icmp .ge 39, 3) := by decide +kernel
theorem dX9_share_13 : decode cX9_share 13 = .ok (.iload 5, 2) := by decide +kernel
theorem dX9_share_15 : decode cX9_share 15 = .ok (.bipush 6, 2) := by decide +kernel
theorem dX9_share_17 : decode cX9_share 17 = .ok (.if_icmp .ge 32, 3) := by decide +kernel
theorem dX9_share_20 : decode cX9_share 20 = .ok (.lload_n 3, 1) := by decide +kernel
theorem dX9_share_21 : decode cX9_share 21 = .ok (.iload 6, 2) := by decide +kernel
theorem dX9_share_23 : decode cX9_share 23 = .ok (.lshr, 1) := by decide +kernel
theorem dX9_share_24 : decode cX9_share 24 = .ok (.lconst 1, 1) := by decide +kernel
theorem dX9_share_25 : decode cX9_share 25 = .ok (.land, 1) := by decide +kernel
theorem dX9_share_26 : decode cX9_share 26 = .ok (.lconst 0, 1) := by decide +kernel
theorem dX9_share_27 : decode cX9_share 27 = .ok (.lcmp, 1) := by decide +kernel
theorem dX9_share_28 : decode cX9_share 28 = .ok (.ifCond .eq 15, 3) := by decide +kernel
theorem dX9_share_43 : decode cX9_share 43 = .ok (.iinc 6 1, 3) := by decide +kernel
theorem dX9_share_46 : decode cX9_share 46 = .ok (.goto (-40), 3) := by decide +kernel
theorem dX9_share_31 : decode cX9_share 31 = .ok (.aload_n 0, 1) := by decide +kernel
theorem dX9_share_32 : decode cX9_share 32 = .ok (.getfield 25, 3) := by decide +kernel
theorem dX9_share_35 : decode cX9_share 35 = .ok (.iload 5, 2) := by decide +kernel
theorem dX9_share_37 : decode cX9_share 37 = .ok (.iload 6, 2) := by decide +kernel
theorem dX9_share_39 : decode cX9_share 39 = .ok (.iastore, 1) := by decide +kernel
theorem dX9_share_40 : decode cX9_share 40 = .ok (.iinc 5 1, 3) := by decide +kernel
theorem dX9_share_49 : decode cX9_share 49 = .ok (.aload_n 0, 1) := by decide +kernel
theorem dX9_share_50 : decode cX9_share 50 = .ok (.aload_n 1, 1) := by decide +kernel
theorem dX9_share_51 : decode cX9_share 51 = .ok (.aload_n 2, 1) := by decide +kernel
theorem dX9_share_52 : decode cX9_share 52 = .ok (.iload 5, 2) := by decide +kernel
theorem dX9_share_54 : decode cX9_share 54 = .ok (.invokevirtual 73, 3) := by decide +kernel
theorem lk_RX9_73 : Cond.methodLink RX9 73 yX9_priceAll ∈ gW := gW_t 1088 (by decide +kernel) rfl
theorem mI_X9_priceAll : Cond.instanceMethod yX9_priceAll ∈ gW := gW_t 1090 (by decide +kernel) rfl
theorem mS_X9_priceAll : Cond.selects RX9 yX9_priceAll yX9_priceAll ∈ gW := gW_p (q := (yX9_priceAll, 11)) 33 (by decide +kernel)
theorem mC_X9_priceAll : Cond.code yX9_priceAll cX9_priceAll 7 none ∈ gW := gW_t 1091 (by decide +kernel) rfl
theorem ok_X9_priceAll : okD yX9_priceAll 3 := ⟨by decide +kernel, by decide +kernel, by decide +kernel⟩
theorem dX9_share_57 : decode cX9_share 57 = .ok (.aload_n 1, 1) := by decide +kernel
theorem dX9_share_58 : decode cX9_share 58 = .ok (.getfield 77, 3) := by decide +kernel
theorem dX9_share_61 : decode cX9_share 61 = .ok (.getfield 83, 3) := by decide +kernel
theorem dX9_share_64 : decode cX9_share 64 = .ok (.istore 6, 2) := by decide +kernel
theorem dX9_share_66 : decode cX9_share 66 = .ok (.iconst 1, 1) := by decide +kernel
theorem dX9_share_67 : decode cX9_share 67 = .ok (.iload 5, 2) := by decide +kernel
theorem dX9_share_69 : decode cX9_share 69 = .ok (.ishl, 1) := by decide +kernel
theorem dX9_share_70 : decode cX9_share 70 = .ok (.iconst 1, 1) := by decide +kernel
theorem dX9_share_71 : decode cX9_share 71 = .ok (.isub, 1) := by decide +kernel
theorem dX9_share_72 : decode cX9_share 72 = .ok (.istore 7, 2) := by decide +kernel
theorem dX9_share_74 : decode cX9_share 74 = .ok (.iconst 0, 1) := by decide +kernel
theorem dX9_share_75 : decode cX9_share 75 = .ok (.istore 8, 2) := by decide +kernel
theorem dX9_share_77 : decode cX9_share 77 = .ok (.iload 8, 2) := by decide +kernel
theorem dX9_share_79 : decode cX9_share 79 = .ok (.iload 7, 2) := by decide +kernel
theorem dX9_share_81 : decode cX9_share 81 = .ok (.if_icmp .gt 33, 3) := by decide +kernel
theorem dX9_share_84 : decode cX9_share 84 = .ok (.aload_n 0, 1) := by decide +kernel
theorem dX9_share_85 : decode cX9_share 85 = .ok (.getfield 31, 3) := by decide +kernel
theorem dX9_share_88 : decode cX9_share 88 = .ok (.iload 6, 2) := by decide +kernel
theorem dX9_share_90 : decode cX9_share 90 = .ok (.bipush 64, 2) := by decide +kernel
theorem dX9_share_92 : decode cX9_share 92 = .ok (.imul, 1) := by decide +kernel
theorem dX9_share_93 : decode cX9_share 93 = .ok (.iload 8, 2) := by decide +kernel
theorem dX9_share_95 : decode cX9_share 95 = .ok (.iadd, 1) := by decide +kernel
theorem dX9_share_96 : decode cX9_share 96 = .ok (.iload 8, 2) := by decide +kernel
theorem dX9_share_98 : decode cX9_share 98 = .ok (.ifCond .ne 7, 3) := by decide +kernel
theorem dX9_share_105 : decode cX9_share 105 = .ok (.ldc 68, 2) := by decide +kernel
theorem dX9_share_107 : decode cX9_share 107 = .ok (.iastore, 1) := by decide +kernel
theorem dX9_share_108 : decode cX9_share 108 = .ok (.iinc 8 1, 3) := by decide +kernel
theorem dX9_share_111 : decode cX9_share 111 = .ok (.goto (-34), 3) := by decide +kernel
theorem dX9_share_101 : decode cX9_share 101 = .ok (.iconst 0, 1) := by decide +kernel
theorem dX9_share_102 : decode cX9_share 102 = .ok (.goto 5, 3) := by decide +kernel
theorem dX9_share_114 : decode cX9_share 114 = .ok (.iload 6, 2) := by decide +kernel
theorem dX9_share_116 : decode cX9_share 116 = .ok (.iconst 1, 1) := by decide +kernel
theorem dX9_share_117 : decode cX9_share 117 = .ok (.isub, 1) := by decide +kernel
theorem dX9_share_118 : decode cX9_share 118 = .ok (.istore 8, 2) := by decide +kernel
theorem dX9_share_120 : decode cX9_share 120 = .ok (.iload 8, 2) := by decide +kernel
theorem dX9_share_122 : decode cX9_share 122 = .ok (.ifCond .lt 48, 3) := by decide +kernel
theorem dX9_share_125 : decode cX9_share 125 = .ok (.iconst 0, 1) := by decide +kernel
theorem dX9_share_126 : decode cX9_share 126 = .ok (.istore 9, 2) := by decide +kernel
theorem dX9_share_128 : decode cX9_share 128 = .ok (.iload 9, 2) := by decide +kernel
theorem dX9_share_130 : decode cX9_share 130 = .ok (.iload 7, 2) := by decide +kernel
theorem dX9_share_132 : decode cX9_share 132 = .ok (.if_icmp .gt 32, 3) := by decide +kernel
theorem dX9_share_135 : decode cX9_share 135 = .ok (.aload_n 0, 1) := by decide +kernel
theorem dX9_share_136 : decode cX9_share 136 = .ok (.getfield 31, 3) := by decide +kernel
theorem dX9_share_139 : decode cX9_share 139 = .ok (.iload 8, 2) := by decide +kernel
theorem dX9_share_141 : decode cX9_share 141 = .ok (.bipush 64, 2) := by decide +kernel
theorem dX9_share_143 : decode cX9_share 143 = .ok (.imul, 1) := by decide +kernel
theorem dX9_share_144 : decode cX9_share 144 = .ok (.iload 9, 2) := by decide +kernel
theorem dX9_share_146 : decode cX9_share 146 = .ok (.iadd, 1) := by decide +kernel
theorem dX9_share_147 : decode cX9_share 147 = .ok (.aload_n 0, 1) := by decide +kernel
theorem dX9_share_148 : decode cX9_share 148 = .ok (.iload 8, 2) := by decide +kernel
theorem dX9_share_150 : decode cX9_share 150 = .ok (.iload 9, 2) := by decide +kernel
theorem dX9_share_152 : decode cX9_share 152 = .ok (.iload 5, 2) := by decide +kernel
theorem dX9_share_154 : decode cX9_share 154 = .ok (.invokevirtual 88, 3) := by decide +kernel
theorem lk_RX9_88 : Cond.methodLink RX9 88 yX9_fewestFrom ∈ gW := gW_t 1095 (by decide +kernel) rfl
theorem mI_X9_fewestFrom : Cond.instanceMethod yX9_fewestFrom ∈ gW := gW_t 1097 (by decide +kernel) rfl
theorem mS_X9_fewestFrom : Cond.selects RX9 yX9_fewestFrom yX9_fewestFrom ∈ gW := gW_p (q := (yX9_fewestFrom, 11)) 34 (by decide +kernel)
theorem mC_X9_fewestFrom : Cond.code yX9_fewestFrom cX9_fewestFrom 6 (some .int) ∈ gW := gW_t 1098 (by decide +kernel) rfl
theorem ok_X9_fewestFrom : okD yX9_fewestFrom 3 := ⟨by decide +kernel, by decide +kernel, by decide +kernel⟩
theorem dX9_share_157 : decode cX9_share 157 = .ok (.iastore, 1) := by decide +kernel
theorem dX9_share_158 : decode cX9_share 158 = .ok (.iinc 9 1, 3) := by decide +kernel
theorem dX9_share_161 : decode cX9_share 161 = .ok (.goto (-33), 3) := by decide +kernel
theorem dX9_share_164 : decode cX9_share 164 = .ok (.iinc 8 (-1), 3) := by decide +kernel
theorem dX9_share_167 : decode cX9_share 167 = .ok (.goto (-47), 3) := by decide +kernel
theorem dX9_share_170 : decode cX9_share 170 = .ok (.aload_n 0, 1) := by decide +kernel
theorem dX9_share_171 : decode cX9_share 171 = .ok (.aload_n 0, 1) := by decide +kernel
theorem dX9_share_172 : decode cX9_share 172 = .ok (.getfield 31, 3) := by decide +kernel
theorem dX9_share_175 : decode cX9_share 175 = .ok (.iload 7, 2) := by decide +kernel
theorem dX9_share_177 : decode cX9_share 177 = .ok (.iaload, 1) := by decide +kernel
theorem dX9_share_178 : decode cX9_share 178 = .ok (.putfield 92, 3) := by decide +kernel
theorem dX9_share_181 : decode cX9_share 181 = .ok (.aload_n 0, 1) := by decide +kernel
theorem dX9_share_182 : decode cX9_share 182 = .ok (.getfield 92, 3) := by decide +kernel
theorem dX9_share_185 : decode cX9_share 185 = .ok (.ldc 68, 2) := by decide +kernel
theorem dX9_share_187 : decode cX9_share 187 = .ok (.if_icmp .lt 5, 3) := by decide +kernel
theorem dX9_share_192 : decode cX9_share 192 = .ok (.aload_n 0, 1) := by decide +kernel
theorem dX9_share_193 : decode cX9_share 193 = .ok (.iload 6, 2) := by decide +kernel
theorem dX9_share_195 : decode cX9_share 195 = .ok (.iload 5, 2) := by decide +kernel
theorem dX9_share_197 : decode cX9_share 197 = .ok (.invokevirtual 95, 3) := by decide +kernel
theorem lk_RX9_95 : Cond.methodLink RX9 95 yX9_fillRow ∈ gW := gW_t 1103 (by decide +kernel) rfl
theorem mI_X9_fillRow : Cond.instanceMethod yX9_fillRow ∈ gW := gW_t 1105 (by decide +kernel) rfl
theorem mS_X9_fillRow : Cond.selects RX9 yX9_fillRow yX9_fillRow ∈ gW := gW_p (q := (yX9_fillRow, 11)) 36 (by decide +kernel)
theorem mC_X9_fillRow : Cond.code yX9_fillRow cX9_fillRow 7 none ∈ gW := gW_t 1106 (by decide +kernel) rfl
theorem ok_X9_fillRow : okD yX9_fillRow 2 := ⟨by decide +kernel, by decide +kernel, by decide +kernel⟩
theorem dX9_share_200 : decode cX9_share 200 = .ok (.iconst 1, 1) := by decide +kernel
theorem dX9_share_201 : decode cX9_share 201 = .ok (.ireturn, 1) := by decide +kernel
theorem dX9_share_190 : decode cX9_share 190 = .ok (.iconst 0, 1) := by decide +kernel
theorem dX9_share_191 : decode cX9_share 191 = .ok (.ireturn, 1) := by decide +kernel
def yX11_hears : MethodName := ⟨RX11, "hears", "(I)J"⟩
abbrev cX11_hears : ByteArray := prog_1_method_22_code
theorem dX11_hears_0 : decode cX11_hears 0 = .ok (.aload_n 0, 1) := by decide +kernel
theorem dX11_hears_1 : decode cX11_hears 1 = .ok (.getfield 21, 3) := by decide +kernel
theorem dX11_hears_4 : decode cX11_hears 4 = .ok (.getfield 78, 3) := by decide +kernel
theorem dX11_hears_7 : decode cX11_hears 7 = .ok (.astore_n 2, 1) := by decide +kernel
theorem dX11_hears_8 : decode cX11_hears 8 = .ok (.iload_n 1, 1) := by decide +kernel
theorem dX11_hears_9 : decode cX11_hears 9 = .ok (.aload_n 2, 1) := by decide +kernel
theorem dX11_hears_10 : decode cX11_hears 10 = .ok (.getfield 156, 3) := by decide +kernel
theorem dX11_hears_13 : decode cX11_hears 13 = .ok (.getfield 160, 3) := by decide +kernel
theorem dX11_hears_16 : decode cX11_hears 16 = .ok (.invokestatic 82, 3) := by decide +kernel
theorem dX11_hears_19 : decode cX11_hears 19 = .ok (.ifCond .ne 7, 3) := by decide +kernel
theorem dX11_hears_26 : decode cX11_hears 26 = .ok (.aload_n 0, 1) := by decide +kernel
theorem dX11_hears_27 : decode cX11_hears 27 = .ok (.getfield 56, 3) := by decide +kernel
theorem fl_RX11_56 : Cond.fieldLink RX11 56 RX11 "ears" "LListenWells$Ears;" ∈ gW := gW_t 453 (by decide +kernel) rfl
theorem dX11_hears_30 : decode cX11_hears 30 = .ok (.aload_n 2, 1) := by decide +kernel
theorem dX11_hears_31 : decode cX11_hears 31 = .ok (.aload_n 2, 1) := by decide +kernel
theorem dX11_hears_32 : decode cX11_hears 32 = .ok (.invokevirtual 116, 3) := by decide +kernel
theorem dX11_hears_35 : decode cX11_hears 35 = .ok (.invokevirtual 270, 3) := by decide +kernel
theorem lk_RX11_270 : Cond.methodLink RX11 270 yX3_measure ∈ gW := gW_t 983 (by decide +kernel) rfl
theorem mI_X3_measure : Cond.instanceMethod yX3_measure ∈ gW := gW_t 984 (by decide +kernel) rfl
theorem mS_X3_measure : Cond.selects RX3 yX3_measure yX3_measure ∈ gW := gW_t 985 (by decide +kernel) rfl
theorem mC_X3_measure : Cond.code yX3_measure cX3_measure 4 none ∈ gW := gW_t 986 (by decide +kernel) rfl
theorem ok_X3_measure : okD yX3_measure 2 := ⟨by decide +kernel, by decide +kernel, by decide +kernel⟩
theorem dX11_hears_38 : decode cX11_hears 38 = .ok (.aload_n 0, 1) := by decide +kernel
theorem dX11_hears_39 : decode cX11_hears 39 = .ok (.getfield 56, 3) := by decide +kernel
theorem dX11_hears_42 : decode cX11_hears 42 = .ok (.aload_n 2, 1) := by decide +kernel
theorem dX11_hears_43 : decode cX11_hears 43 = .ok (.iload_n 1, 1) := by decide +kernel
theorem dX11_hears_44 : decode cX11_hears 44 = .ok (.invokevirtual 273, 3) := by decide +kernel
theorem lk_RX11_273 : Cond.methodLink RX11 273 yX3_cellsHeardBy ∈ gW := gW_t 994 (by decide +kernel) rfl
theorem mI_X3_cellsHeardBy : Cond.instanceMethod yX3_cellsHeardBy ∈ gW := gW_t 995 (by decide +kernel) rfl
theorem mS_X3_cellsHeardBy : Cond.selects RX3 yX3_cellsHeardBy yX3_cellsHeardBy ∈ gW := gW_t 996 (by decide +kernel) rfl
theorem mC_X3_cellsHeardBy : Cond.code yX3_cellsHeardBy cX3_cellsHeardBy 8 (some .long) ∈ gW := gW_t 997 (by decide +kernel) rfl
theorem ok_X3_cellsHeardBy : okD yX3_cellsHeardBy 2 := ⟨by decide +kernel, by decide +kernel, by decide +kernel⟩
theorem dX11_hears_47 : decode cX11_hears 47 = .ok (.lreturn, 1) := by decide +kernel
theorem dX11_hears_22 : decode cX11_hears 22 = .ok (.ldc2_w 268, 3) := by decide +kernel
theorem dX11_hears_25 : decode cX11_hears 25 = .ok (.lreturn, 1) := by decide +kernel
def yX11_down : MethodName := ⟨RX11, "down", "(III)I"⟩
abbrev cX11_down : ByteArray := prog_1_method_28_code
theorem dX11_down_0 : decode cX11_down 0 = .ok (.iload_n 3, 1) := by decide +kernel
theorem dX11_down_1 : decode cX11_down 1 = .ok (.ifCond .lt 12, 3) := by decide +kernel
theorem dX11_down_13 : decode cX11_down 13 = .ok (.iconst (-1), 1) := by decide +kernel
theorem dX11_down_14 : decode cX11_down 14 = .ok (.ireturn, 1) := by decide +kernel
theorem dX11_down_4 : decode cX11_down 4 = .ok (.aload_n 0, 1) := by decide +kernel
theorem dX11_down_5 : decode cX11_down 5 = .ok (.iload_n 1, 1) := by decide +kernel
theorem dX11_down_6 : decode cX11_down 6 = .ok (.iload_n 2, 1) := by decide +kernel
theorem dX11_down_7 : decode cX11_down 7 = .ok (.invokevirtual 293, 3) := by decide +kernel
theorem lk_RX11_293 : Cond.methodLink RX11 293 yX11_findWay ∈ gW := gW_t 1046 (by decide +kernel) rfl
theorem mI_X11_findWay : Cond.instanceMethod yX11_findWay ∈ gW := gW_t 1048 (by decide +kernel) rfl
theorem mS_X11_findWay : Cond.selects RX11 yX11_findWay yX11_findWay ∈ gW := gW_p (q := (yX11_findWay, 14)) 31 (by decide +kernel)
theorem mC_X11_findWay : Cond.code yX11_findWay cX11_findWay 4 (some .boolean) ∈ gW := gW_t 1049 (by decide +kernel) rfl
theorem ok_X11_findWay : okD yX11_findWay 2 := ⟨by decide +kernel, by decide +kernel, by decide +kernel⟩
theorem dX11_down_10 : decode cX11_down 10 = .ok (.ifCond .ne 5, 3) := by decide +kernel
theorem dX11_down_15 : decode cX11_down 15 = .ok (.iload_n 3, 1) := by decide +kernel
theorem dX11_down_16 : decode cX11_down 16 = .ok (.ifCond .ne 11, 3) := by decide +kernel
theorem dX11_down_27 : decode cX11_down 27 = .ok (.aload_n 0, 1) := by decide +kernel
theorem dX11_down_28 : decode cX11_down 28 = .ok (.getfield 49, 3) := by decide +kernel
theorem dX11_down_31 : decode cX11_down 31 = .ok (.aload_n 0, 1) := by decide +kernel
theorem dX11_down_32 : decode cX11_down 32 = .ok (.getfield 21, 3) := by decide +kernel
theorem dX11_down_35 : decode cX11_down 35 = .ok (.getfield 78, 3) := by decide +kernel
theorem dX11_down_38 : decode cX11_down 38 = .ok (.getfield 134, 3) := by decide +kernel
theorem dX11_down_41 : decode cX11_down 41 = .ok (.getfield 147, 3) := by decide +kernel
theorem dX11_down_44 : decode cX11_down 44 = .ok (.iload_n 1, 1) := by decide +kernel
theorem dX11_down_45 : decode cX11_down 45 = .ok (.iaload, 1) := by decide +kernel
theorem dX11_down_46 : decode cX11_down 46 = .ok (.iload_n 2, 1) := by decide +kernel
theorem dX11_down_47 : decode cX11_down 47 = .ok (.invokevirtual 299, 3) := by decide +kernel
theorem lk_RX11_299 : Cond.methodLink RX11 299 yX9_walk ∈ gW := gW_t 1070 (by decide +kernel) rfl
theorem mI_X9_walk : Cond.instanceMethod yX9_walk ∈ gW := gW_t 1071 (by decide +kernel) rfl
theorem mS_X9_walk : Cond.selects RX9 yX9_walk yX9_walk ∈ gW := gW_t 1072 (by decide +kernel) rfl
theorem mC_X9_walk : Cond.code yX9_walk cX9_walk 6 none ∈ gW := gW_t 1073 (by decide +kernel) rfl
theorem ok_X9_walk : okD yX9_walk 2 := ⟨by decide +kernel, by decide +kernel, by decide +kernel⟩
theorem dX11_down_50 : decode cX11_down 50 = .ok (.iload_n 3, 1) := by decide +kernel
theorem dX11_down_51 : decode cX11_down 51 = .ok (.iconst 1, 1) := by decide +kernel
theorem dX11_down_52 : decode cX11_down 52 = .ok (.if_icmp .ne 11, 3) := by decide +kernel
theorem dX11_down_63 : decode cX11_down 63 = .ok (.iload_n 3, 1) := by decide +kernel
theorem dX11_down_64 : decode cX11_down 64 = .ok (.iconst 2, 1) := by decide +kernel
theorem dX11_down_65 : decode cX11_down 65 = .ok (.isub, 1) := by decide +kernel
theorem dX11_down_66 : decode cX11_down 66 = .ok (.aload_n 0, 1) := by decide +kernel
theorem dX11_down_67 : decode cX11_down 67 = .ok (.getfield 49, 3) := by decide +kernel
theorem dX11_down_70 : decode cX11_down 70 = .ok (.getfield 302, 3) := by decide +kernel
theorem fl_RX11_302 : Cond.fieldLink RX11 302 RX9 "steps" "I" ∈ gW := gW_t 393 (by decide +kernel) rfl
theorem dX11_down_73 : decode cX11_down 73 = .ok (.if_icmp .ge 17, 3) := by decide +kernel
theorem dX11_down_90 : decode cX11_down 90 = .ok (.iconst (-1), 1) := by decide +kernel
theorem dX11_down_91 : decode cX11_down 91 = .ok (.ireturn, 1) := by decide +kernel
theorem dX11_down_76 : decode cX11_down 76 = .ok (.aload_n 0, 1) := by decide +kernel
theorem dX11_down_77 : decode cX11_down 77 = .ok (.getfield 49, 3) := by decide +kernel
theorem dX11_down_80 : decode cX11_down 80 = .ok (.getfield 305, 3) := by decide +kernel
theorem fl_RX11_305 : Cond.fieldLink RX11 305 RX9 "path" "[I" ∈ gW := gW_t 391 (by decide +kernel) rfl
theorem dX11_down_83 : decode cX11_down 83 = .ok (.iload_n 3, 1) := by decide +kernel
theorem dX11_down_84 : decode cX11_down 84 = .ok (.iconst 2, 1) := by decide +kernel
theorem dX11_down_85 : decode cX11_down 85 = .ok (.isub, 1) := by decide +kernel
theorem dX11_down_86 : decode cX11_down 86 = .ok (.iaload, 1) := by decide +kernel
theorem dX11_down_87 : decode cX11_down 87 = .ok (.goto 4, 3) := by decide +kernel
theorem dX11_down_55 : decode cX11_down 55 = .ok (.aload_n 0, 1) := by decide +kernel
theorem dX11_down_56 : decode cX11_down 56 = .ok (.getfield 49, 3) := by decide +kernel
theorem dX11_down_59 : decode cX11_down 59 = .ok (.getfield 302, 3) := by decide +kernel
theorem dX11_down_62 : decode cX11_down 62 = .ok (.ireturn, 1) := by decide +kernel
theorem dX11_down_19 : decode cX11_down 19 = .ok (.aload_n 0, 1) := by decide +kernel
theorem dX11_down_20 : decode cX11_down 20 = .ok (.getfield 49, 3) := by decide +kernel
theorem dX11_down_23 : decode cX11_down 23 = .ok (.getfield 296, 3) := by decide +kernel
theorem dX11_down_26 : decode cX11_down 26 = .ok (.ireturn, 1) := by decide +kernel
def yX11_gangs : MethodName := ⟨RX11, "gangs", "(JI)I"⟩
abbrev cX11_gangs : ByteArray := prog_1_method_29_code
theorem dX11_gangs_0 : decode cX11_gangs 0 = .ok (.aload_n 0, 1) := by decide +kernel
theorem dX11_gangs_1 : decode cX11_gangs 1 = .ok (.getfield 21, 3) := by decide +kernel
theorem dX11_gangs_4 : decode cX11_gangs 4 = .ok (.getfield 78, 3) := by decide +kernel
theorem dX11_gangs_7 : decode cX11_gangs 7 = .ok (.getfield 134, 3) := by decide +kernel
theorem dX11_gangs_10 : decode cX11_gangs 10 = .ok (.getfield 137, 3) := by decide +kernel
theorem dX11_gangs_13 : decode cX11_gangs 13 = .ok (.istore 4, 2) := by decide +kernel
theorem dX11_gangs_15 : decode cX11_gangs 15 = .ok (.lload_n 1, 1) := by decide +kernel
theorem dX11_gangs_16 : decode cX11_gangs 16 = .ok (.lconst 0, 1) := by decide +kernel
theorem dX11_gangs_17 : decode cX11_gangs 17 = .ok (.lcmp, 1) := by decide +kernel
theorem dX11_gangs_18 : decode cX11_gangs 18 = .ok (.ifCond .lt 32, 3) := by decide +kernel
theorem dX11_gangs_50 : decode cX11_gangs 50 = .ok (.iconst (-1), 1) := by decide +kernel
theorem dX11_gangs_51 : decode cX11_gangs 51 = .ok (.ireturn, 1) := by decide +kernel
theorem dX11_gangs_21 : decode cX11_gangs 21 = .ok (.lload_n 1, 1) := by decide +kernel
theorem dX11_gangs_22 : decode cX11_gangs 22 = .ok (.bipush 40, 2) := by decide +kernel
theorem dX11_gangs_24 : decode cX11_gangs 24 = .ok (.lshr, 1) := by decide +kernel
theorem dX11_gangs_25 : decode cX11_gangs 25 = .ok (.lconst 0, 1) := by decide +kernel
theorem dX11_gangs_26 : decode cX11_gangs 26 = .ok (.lcmp, 1) := by decide +kernel
theorem dX11_gangs_27 : decode cX11_gangs 27 = .ok (.ifCond .ne 23, 3) := by decide +kernel
theorem dX11_gangs_30 : decode cX11_gangs 30 = .ok (.lload_n 1, 1) := by decide +kernel
theorem dX11_gangs_31 : decode cX11_gangs 31 = .ok (.invokestatic 308, 3) := by decide +kernel
theorem dX11_gangs_34 : decode cX11_gangs 34 = .ok (.bipush 6, 2) := by decide +kernel
theorem dX11_gangs_36 : decode cX11_gangs 36 = .ok (.if_icmp .gt 14, 3) := by decide +kernel
theorem dX11_gangs_39 : decode cX11_gangs 39 = .ok (.iload_n 3, 1) := by decide +kernel
theorem dX11_gangs_40 : decode cX11_gangs 40 = .ok (.iload 4, 2) := by decide +kernel
theorem dX11_gangs_42 : decode cX11_gangs 42 = .ok (.iconst 1, 1) := by decide +kernel
theorem dX11_gangs_43 : decode cX11_gangs 43 = .ok (.iadd, 1) := by decide +kernel
theorem dX11_gangs_44 : decode cX11_gangs 44 = .ok (.invokestatic 82, 3) := by decide +kernel
theorem dX11_gangs_47 : decode cX11_gangs 47 = .ok (.ifCond .ne 5, 3) := by decide +kernel
theorem dX11_gangs_52 : decode cX11_gangs 52 = .ok (.aload_n 0, 1) := by decide +kernel
theorem dX11_gangs_53 : decode cX11_gangs 53 = .ok (.getfield 10, 3) := by decide +kernel
theorem dX11_gangs_56 : decode cX11_gangs 56 = .ok (.aload_n 0, 1) := by decide +kernel
theorem dX11_gangs_57 : decode cX11_gangs 57 = .ok (.getfield 21, 3) := by decide +kernel
theorem dX11_gangs_60 : decode cX11_gangs 60 = .ok (.getfield 78, 3) := by decide +kernel
theorem dX11_gangs_63 : decode cX11_gangs 63 = .ok (.aload_n 0, 1) := by decide +kernel
theorem dX11_gangs_64 : decode cX11_gangs 64 = .ok (.getfield 21, 3) := by decide +kernel
theorem dX11_gangs_67 : decode cX11_gangs 67 = .ok (.getfield 78, 3) := by decide +kernel
theorem dX11_gangs_70 : decode cX11_gangs 70 = .ok (.invokevirtual 116, 3) := by decide +kernel
theorem dX11_gangs_73 : decode cX11_gangs 73 = .ok (.invokevirtual 120, 3) := by decide +kernel
theorem dX11_gangs_76 : decode cX11_gangs 76 = .ok (.aload_n 0, 1) := by decide +kernel
theorem dX11_gangs_77 : decode cX11_gangs 77 = .ok (.getfield 49, 3) := by decide +kernel
theorem dX11_gangs_80 : decode cX11_gangs 80 = .ok (.aload_n 0, 1) := by decide +kernel
theorem dX11_gangs_81 : decode cX11_gangs 81 = .ok (.getfield 21, 3) := by decide +kernel
theorem dX11_gangs_84 : decode cX11_gangs 84 = .ok (.getfield 78, 3) := by decide +kernel
theorem dX11_gangs_87 : decode cX11_gangs 87 = .ok (.aload_n 0, 1) := by decide +kernel
theorem dX11_gangs_88 : decode cX11_gangs 88 = .ok (.getfield 10, 3) := by decide +kernel
theorem dX11_gangs_91 : decode cX11_gangs 91 = .ok (.lload_n 1, 1) := by decide +kernel
theorem dX11_gangs_92 : decode cX11_gangs 92 = .ok (.invokevirtual 314, 3) := by decide +kernel
theorem lk_RX11_314 : Cond.methodLink RX11 314 yX9_share ∈ gW := gW_t 1084 (by decide +kernel) rfl
theorem mI_X9_share : Cond.instanceMethod yX9_share ∈ gW := gW_t 1085 (by decide +kernel) rfl
theorem mS_X9_share : Cond.selects RX9 yX9_share yX9_share ∈ gW := gW_t 1086 (by decide +kernel) rfl
theorem mC_X9_share : Cond.code yX9_share cX9_share 10 (some .boolean) ∈ gW := gW_t 1087 (by decide +kernel) rfl
theorem ok_X9_share : okD yX9_share 3 := ⟨by decide +kernel, by decide +kernel, by decide +kernel⟩
theorem dX11_gangs_95 : decode cX11_gangs 95 = .ok (.ifCond .ne 5, 3) := by decide +kernel
theorem dX11_gangs_100 : decode cX11_gangs 100 = .ok (.iload_n 3, 1) := by decide +kernel
theorem dX11_gangs_101 : decode cX11_gangs 101 = .ok (.ifCond .ne 13, 3) := by decide +kernel
theorem dX11_gangs_114 : decode cX11_gangs 114 = .ok (.aload_n 0, 1) := by decide +kernel
theorem dX11_gangs_115 : decode cX11_gangs 115 = .ok (.getfield 49, 3) := by decide +kernel
theorem dX11_gangs_118 : decode cX11_gangs 118 = .ok (.getfield 318, 3) := by decide +kernel
theorem fl_RX11_318 : Cond.fieldLink RX11 318 RX9 "cellOfShaft" "[I" ∈ gW := gW_t 400 (by decide +kernel) rfl
theorem dX11_gangs_121 : decode cX11_gangs 121 = .ok (.iload_n 3, 1) := by decide +kernel
theorem dX11_gangs_122 : decode cX11_gangs 122 = .ok (.iconst 1, 1) := by decide +kernel
theorem dX11_gangs_123 : decode cX11_gangs 123 = .ok (.isub, 1) := by decide +kernel
theorem dX11_gangs_124 : decode cX11_gangs 124 = .ok (.iaload, 1) := by decide +kernel
theorem dX11_gangs_125 : decode cX11_gangs 125 = .ok (.ireturn, 1) := by decide +kernel
theorem dX11_gangs_104 : decode cX11_gangs 104 = .ok (.aload_n 0, 1) := by decide +kernel
theorem dX11_gangs_105 : decode cX11_gangs 105 = .ok (.getfield 49, 3) := by decide +kernel
theorem dX11_gangs_108 : decode cX11_gangs 108 = .ok (.getfield 296, 3) := by decide +kernel
theorem dX11_gangs_111 : decode cX11_gangs 111 = .ok (.goto 14, 3) := by decide +kernel
theorem dX11_gangs_98 : decode cX11_gangs 98 = .ok (.iconst (-1), 1) := by decide +kernel
theorem dX11_gangs_99 : decode cX11_gangs 99 = .ok (.ireturn, 1) := by decide +kernel
