def yX9_priceAll : MethodName := ⟨RX9, "priceAll", "(LListenWells$World;LListenWells$Asker;I)V"⟩
abbrev cX9_priceAll : ByteArray := prog_11_method_7_code
theorem dX9_priceAll_0 : decode cX9_priceAll 0 = .ok (.iconst 0, 1) := by decide +kernel
theorem dX9_priceAll_1 : decode cX9_priceAll 1 = .ok (.istore 4, 2) := by decide +kernel
theorem dX9_priceAll_3 : decode cX9_priceAll 3 = .ok (.iload 4, 2) := by decide +kernel
theorem dX9_priceAll_5 : decode cX9_priceAll 5 = .ok (.aload_n 1, 1) := by decide +kernel
theorem dX9_priceAll_6 : decode cX9_priceAll 6 = .ok (.getfield 77, 3) := by decide +kernel
theorem fl_RX9_77 : Cond.fieldLink RX9 77 RX10 "crew" "LListenWells$Crew;" ∈ gW := gW_t 221 (by decide +kernel) rfl
theorem dX9_priceAll_9 : decode cX9_priceAll 9 = .ok (.getfield 83, 3) := by decide +kernel
theorem fl_RX9_83 : Cond.fieldLink RX9 83 RX1 "count" "I" ∈ gW := gW_t 131 (by decide +kernel) rfl
theorem dX9_priceAll_12 : decode cX9_priceAll 12 = .ok (.if_icmp .ge 96, 3) := by decide +kernel
theorem dX9_priceAll_108 : decode cX9_priceAll 108 = .ok (.return_, 1) := by decide +kernel
def yX9_fillRow : MethodName := ⟨RX9, "fillRow", "(II)V"⟩
abbrev cX9_fillRow : ByteArray := prog_11_method_10_code
theorem dX9_fillRow_0 : decode cX9_fillRow 0 = .ok (.iconst 1, 1) := by decide +kernel
theorem dX9_fillRow_1 : decode cX9_fillRow 1 = .ok (.iload_n 2, 1) := by decide +kernel
theorem dX9_fillRow_2 : decode cX9_fillRow 2 = .ok (.ishl, 1) := by decide +kernel
theorem dX9_fillRow_3 : decode cX9_fillRow 3 = .ok (.iconst 1, 1) := by decide +kernel
theorem dX9_fillRow_4 : decode cX9_fillRow 4 = .ok (.isub, 1) := by decide +kernel
theorem dX9_fillRow_5 : decode cX9_fillRow 5 = .ok (.istore_n 3, 1) := by decide +kernel
theorem dX9_fillRow_6 : decode cX9_fillRow 6 = .ok (.iconst 0, 1) := by decide +kernel
theorem dX9_fillRow_7 : decode cX9_fillRow 7 = .ok (.istore 4, 2) := by decide +kernel
theorem dX9_fillRow_9 : decode cX9_fillRow 9 = .ok (.iload 4, 2) := by decide +kernel
theorem dX9_fillRow_11 : decode cX9_fillRow 11 = .ok (.iload_n 1, 1) := by decide +kernel
theorem dX9_fillRow_12 : decode cX9_fillRow 12 = .ok (.if_icmp .ge 112, 3) := by decide +kernel
theorem dX9_fillRow_124 : decode cX9_fillRow 124 = .ok (.return_, 1) := by decide +kernel
def yX9_share : MethodName := ⟨RX9, "share", "(LListenWells$World;LListenWells$Asker;J)Z"⟩
abbrev cX9_share : ByteArray := prog_11_method_6_code
theorem dX9_share_0 : decode cX9_share 0 = .ok (.iconst 0, 1) := by decide +kernel
theorem dX9_share_1 : decode cX9_share 1 = .ok (.istore 5, 2) := by decide +kernel
theorem dX9_share_3 : decode cX9_share 3 = .ok (.iconst 0, 1) := by decide +kernel
theorem dX9_share_4 : decode cX9_share 4 = .ok (.istore 6, 2) := by decide +kernel
theorem dX9_share_6 : decode cX9_share 6 = .ok (.iload 6, 2) := by decide +kernel
theorem dX9_share_8 : decode cX9_share 8 = .ok (.bipush 40, 2) := by decide +kernel
theorem dX9_share_10 : decode cX9_share 10 = .ok (.if_icmp .ge 39, 3) := by decide +kernel
theorem dX9_share_13 : decode cX9_share 13 = .ok (.iload 5, 2) := by decide +kernel
theorem dX9_share_15 : decode cX9_share 15 = .ok (.bipush 6, 2) := by decide +kernel
theorem dX9_share_17 : decode cX9_share 17 = .ok (.if_icmp .ge 32, 3) := by decide +kernel
theorem dX9_share_20 : decode cX9_share 20 = .ok (.lload_n 3, 1) := by decide +kernel
theorem dX9_share_21 : decode cX9_share 21 = .ok (.iload 6, 2) := by decide +kernel
theorem dX9_share_23 : decode cX9_share 23 = .ok (.lshr, 1) := by decide +kernel
theorem dX9_share_24 : decode cX9_share 24 = .ok (.lconst 1, 1) := by decide +kernel
theorem dX9_share_25 : decode cX9_share 25 = .ok (.land, 1) := by decide +kernel
theorem dX9_share_26 : decode cX9_share 26 = .ok (.lconst 0, 1) := by decide +kernel
theorem dX9_share_27 : decode cX9_share 27 = .ok (.lcmp, 1) := by decide +kernel
theorem dX9_share_28 : decode cX9_share 28 = .ok (.ifCond .eq 15, 3) := by decide +kernel
theorem dX9_share_43 : decode cX9_share 43 = .ok (.iinc 6 1, 3) := by decide +kernel
theorem dX9_share_46 : decode cX9_share 46 = .ok (.goto (-40), 3) := by decide +kernel
theorem dX9_share_49 : decode cX9_share 49 = .ok (.aload_n 0, 1) := by decide +kernel
theorem dX9_share_50 : decode cX9_share 50 = .ok (.aload_n 1, 1) := by decide +kernel
theorem dX9_share_51 : decode cX9_share 51 = .ok (.aload_n 2, 1) := by decide +kernel
theorem dX9_share_52 : decode cX9_share 52 = .ok (.iload 5, 2) := by decide +kernel
theorem dX9_share_54 : decode cX9_share 54 = .ok (.invokevirtual 73, 3) := by decide +kernel
theorem lk_RX9_73 : Cond.methodLink RX9 73 yX9_priceAll ∈ gW := gW_t 1088 (by decide +kernel) rfl
theorem mI_X9_priceAll : Cond.instanceMethod yX9_priceAll ∈ gW := gW_t 1090 (by decide +kernel) rfl
theorem mS_X9_priceAll : Cond.selects RX9 yX9_priceAll yX9_priceAll ∈ gW := gW_p (q := (yX9_priceAll, 11)) 33 (by decide +kernel)
theorem mC_X9_priceAll : Cond.code yX9_priceAll cX9_priceAll 7 none ∈ gW := gW_t 1091 (by decide +kernel) rfl
theorem ok_X9_priceAll : okD yX9_priceAll 3 := ⟨by decide +kernel, by decide +kernel, by decide +kernel⟩
theorem dX9_share_57 : decode cX9_share 57 = .ok (.aload_n 1, 1) := by decide +kernel
theorem dX9_share_58 : decode cX9_share 58 = .ok (.getfield 77, 3) := by decide +kernel
theorem dX9_share_61 : decode cX9_share 61 = .ok (.getfield 83, 3) := by decide +kernel
theorem dX9_share_64 : decode cX9_share 64 = .ok (.istore 6, 2) := by decide +kernel
theorem dX9_share_66 : decode cX9_share 66 = .ok (.iconst 1, 1) := by decide +kernel
theorem dX9_share_67 : decode cX9_share 67 = .ok (.iload 5, 2) := by decide +kernel
theorem dX9_share_69 : decode cX9_share 69 = .ok (.ishl, 1) := by decide +kernel
theorem dX9_share_70 : decode cX9_share 70 = .ok (.iconst 1, 1) := by decide +kernel
theorem dX9_share_71 : decode cX9_share 71 = .ok (.isub, 1) := by decide +kernel
theorem dX9_share_72 : decode cX9_share 72 = .ok (.istore 7, 2) := by decide +kernel
theorem dX9_share_74 : decode cX9_share 74 = .ok (.iconst 0, 1) := by decide +kernel
theorem dX9_share_75 : decode cX9_share 75 = .ok (.istore 8, 2) := by decide +kernel
theorem dX9_share_77 : decode cX9_share 77 = .ok (.iload 8, 2) := by decide +kernel
theorem dX9_share_79 : decode cX9_share 79 = .ok (.iload 7, 2) := by decide +kernel
theorem dX9_share_81 : decode cX9_share 81 = .ok (.if_icmp .gt 33, 3) := by decide +kernel
theorem dX9_share_84 : decode cX9_share 84 = .ok (.aload_n 0, 1) := by decide +kernel
theorem dX9_share_85 : decode cX9_share 85 = .ok (.getfield 31, 3) := by decide +kernel
theorem dX9_share_88 : decode cX9_share 88 = .ok (.iload 6, 2) := by decide +kernel
theorem dX9_share_90 : decode cX9_share 90 = .ok (.bipush 64, 2) := by decide +kernel
theorem dX9_share_92 : decode cX9_share 92 = .ok (.imul, 1) := by decide +kernel
theorem dX9_share_93 : decode cX9_share 93 = .ok (.iload 8, 2) := by decide +kernel
theorem dX9_share_95 : decode cX9_share 95 = .ok (.iadd, 1) := by decide +kernel
theorem dX9_share_96 : decode cX9_share 96 = .ok (.iload 8, 2) := by decide +kernel
theorem dX9_share_98 : decode cX9_share 98 = .ok (.ifCond .ne 7, 3) := by decide +kernel
theorem dX9_share_101 : decode cX9_share 101 = .ok (.iconst 0, 1) := by decide +kernel
theorem dX9_share_102 : decode cX9_share 102 = .ok (.goto 5, 3) := by decide +kernel
theorem dX9_share_107 : decode cX9_share 107 = .ok (.iastore, 1) := by decide +kernel
theorem dX9_share_108 : decode cX9_share 108 = .ok (.iinc 8 1, 3) := by decide +kernel
theorem dX9_share_111 : decode cX9_share 111 = .ok (.goto (-34), 3) := by decide +kernel
theorem dX9_share_114 : decode cX9_share 114 = .ok (.iload 6, 2) := by decide +kernel
theorem dX9_share_116 : decode cX9_share 116 = .ok (.iconst 1, 1) := by decide +kernel
theorem dX9_share_117 : decode cX9_share 117 = .ok (.isub, 1) := by decide +kernel
theorem dX9_share_118 : decode cX9_share 118 = .ok (.istore 8, 2) := by decide +kernel
theorem dX9_share_120 : decode cX9_share 120 = .ok (.iload 8, 2) := by decide +kernel
theorem dX9_share_122 : decode cX9_share 122 = .ok (.ifCond .lt 48, 3) := by decide +kernel
theorem dX9_share_170 : decode cX9_share 170 = .ok (.aload_n 0, 1) := by decide +kernel
theorem dX9_share_171 : decode cX9_share 171 = .ok (.aload_n 0, 1) := by decide +kernel
theorem dX9_share_172 : decode cX9_share 172 = .ok (.getfield 31, 3) := by decide +kernel
theorem dX9_share_175 : decode cX9_share 175 = .ok (.iload 7, 2) := by decide +kernel
theorem dX9_share_177 : decode cX9_share 177 = .ok (.iaload, 1) := by decide +kernel
theorem dX9_share_178 : decode cX9_share 178 = .ok (.putfield 92, 3) := by decide +kernel
theorem fl_RX9_92 : Cond.fieldLink RX9 92 RX9 "days" "I" ∈ gW := gW_t 394 (by decide +kernel) rfl
theorem dX9_share_181 : decode cX9_share 181 = .ok (.aload_n 0, 1) := by decide +kernel
theorem dX9_share_182 : decode cX9_share 182 = .ok (.getfield 92, 3) := by decide +kernel
theorem dX9_share_185 : decode cX9_share 185 = .ok (.ldc 68, 2) := by decide +kernel
theorem ct_RX9_68 : Cond.constant RX9 68 1000000 ∈ gW := gW_t 1067 (by decide +kernel) rfl
theorem dX9_share_187 : decode cX9_share 187 = .ok (.if_icmp .lt 5, 3) := by decide +kernel
theorem dX9_share_192 : decode cX9_share 192 = .ok (.aload_n 0, 1) := by decide +kernel
theorem dX9_share_193 : decode cX9_share 193 = .ok (.iload 6, 2) := by decide +kernel
theorem dX9_share_195 : decode cX9_share 195 = .ok (.iload 5, 2) := by decide +kernel
theorem dX9_share_197 : decode cX9_share 197 = .ok (.invokevirtual 95, 3) := by decide +kernel
theorem lk_RX9_95 : Cond.methodLink RX9 95 yX9_fillRow ∈ gW := gW_t 1103 (by decide +kernel) rfl
theorem mI_X9_fillRow : Cond.instanceMethod yX9_fillRow ∈ gW := gW_t 1105 (by decide +kernel) rfl
theorem mS_X9_fillRow : Cond.selects RX9 yX9_fillRow yX9_fillRow ∈ gW := gW_p (q := (yX9_fillRow, 11)) 36 (by decide +kernel)
theorem mC_X9_fillRow : Cond.code yX9_fillRow cX9_fillRow 7 none ∈ gW := gW_t 1106 (by decide +kernel) rfl
theorem ok_X9_fillRow : okD yX9_fillRow 2 := ⟨by decide +kernel, by decide +kernel, by decide +kernel⟩
theorem dX9_share_200 : decode cX9_share 200 = .ok (.iconst 1, 1) := by decide +kernel
theorem dX9_share_201 : decode cX9_share 201 = .ok (.ireturn, 1) := by decide +kernel
def yX11_gangs : MethodName := ⟨RX11, "gangs", "(JI)I"⟩
abbrev cX11_gangs : ByteArray := prog_1_method_29_code
theorem dX11_gangs_0 : decode cX11_gangs 0 = .ok (.aload_n 0, 1) := by decide +kernel
theorem dX11_gangs_1 : decode cX11_gangs 1 = .ok (.getfield 21, 3) := by decide +kernel
theorem dX11_gangs_4 : decode cX11_gangs 4 = .ok (.getfield 78, 3) := by decide +kernel
theorem dX11_gangs_7 : decode cX11_gangs 7 = .ok (.getfield 134, 3) := by decide +kernel
theorem dX11_gangs_10 : decode cX11_gangs 10 = .ok (.getfield 137, 3) := by decide +kernel
theorem dX11_gangs_13 : decode cX11_gangs 13 = .ok (.istore 4, 2) := by decide +kernel
theorem dX11_gangs_15 : decode cX11_gangs 15 = .ok (.lload_n 1, 1) := by decide +kernel
theorem dX11_gangs_16 : decode cX11_gangs 16 = .ok (.lconst 0, 1) := by decide +kernel
theorem dX11_gangs_17 : decode cX11_gangs 17 = .ok (.lcmp, 1) := by decide +kernel
theorem dX11_gangs_18 : decode cX11_gangs 18 = .ok (.ifCond .lt 32, 3) := by decide +kernel
theorem dX11_gangs_21 : decode cX11_gangs 21 = .ok (.lload_n 1, 1) := by decide +kernel
theorem dX11_gangs_22 : decode cX11_gangs 22 = .ok (.bipush 40, 2) := by decide +kernel
theorem dX11_gangs_24 : decode cX11_gangs 24 = .ok (.lshr, 1) := by decide +kernel
theorem dX11_gangs_25 : decode cX11_gangs 25 = .ok (.lconst 0, 1) := by decide +kernel
theorem dX11_gangs_26 : decode cX11_gangs 26 = .ok (.lcmp, 1) := by decide +kernel
theorem dX11_gangs_27 : decode cX11_gangs 27 = .ok (.ifCond .ne 23, 3) := by decide +kernel
theorem dX11_gangs_30 : decode cX11_gangs 30 = .ok (.lload_n 1, 1) := by decide +kernel
theorem dX11_gangs_31 : decode cX11_gangs 31 = .ok (.invokestatic 308, 3) := by decide +kernel
theorem dX11_gangs_34 : decode cX11_gangs 34 = .ok (.bipush 6, 2) := by decide +kernel
theorem dX11_gangs_36 : decode cX11_gangs 36 = .ok (.if_icmp .gt 14, 3) := by decide +kernel
theorem dX11_gangs_39 : decode cX11_gangs 39 = .ok (.iload_n 3, 1) := by decide +kernel
theorem dX11_gangs_40 : decode cX11_gangs 40 = .ok (.iload 4, 2) := by decide +kernel
theorem dX11_gangs_42 : decode cX11_gangs 42 = .ok (.iconst 1, 1) := by decide +kernel
theorem dX11_gangs_43 : decode cX11_gangs 43 = .ok (.iadd, 1) := by decide +kernel
theorem dX11_gangs_44 : decode cX11_gangs 44 = .ok (.invokestatic 82, 3) := by decide +kernel
theorem dX11_gangs_47 : decode cX11_gangs 47 = .ok (.ifCond .ne 5, 3) := by decide +kernel
theorem dX11_gangs_52 : decode cX11_gangs 52 = .ok (.aload_n 0, 1) := by decide +kernel
theorem dX11_gangs_53 : decode cX11_gangs 53 = .ok (.getfield 10, 3) := by decide +kernel
theorem dX11_gangs_56 : decode cX11_gangs 56 = .ok (.aload_n 0, 1) := by decide +kernel
theorem dX11_gangs_57 : decode cX11_gangs 57 = .ok (.getfield 21, 3) := by decide +kernel
theorem dX11_gangs_60 : decode cX11_gangs 60 = .ok (.getfield 78, 3) := by decide +kernel
theorem dX11_gangs_63 : decode cX11_gangs 63 = .ok (.aload_n 0, 1) := by decide +kernel
theorem dX11_gangs_64 : decode cX11_gangs 64 = .ok (.getfield 21, 3) := by decide +kernel
theorem dX11_gangs_67 : decode cX11_gangs 67 = .ok (.getfield 78, 3) := by decide +kernel
theorem dX11_gangs_70 : decode cX11_gangs 70 = .ok (.invokevirtual 116, 3) := by decide +kernel
theorem dX11_gangs_73 : decode cX11_gangs 73 = .ok (.invokevirtual 120, 3) := by decide +kernel
theorem dX11_gangs_76 : decode cX11_gangs 76 = .ok (.aload_n 0, 1) := by decide +kernel
theorem dX11_gangs_77 : decode cX11_gangs 77 = .ok (.getfield 49, 3) := by decide +kernel
theorem dX11_gangs_80 : decode cX11_gangs 80 = .ok (.aload_n 0, 1) := by decide +kernel
theorem dX11_gangs_81 : decode cX11_gangs 81 = .ok (.getfield 21, 3) := by decide +kernel
theorem dX11_gangs_84 : decode cX11_gangs 84 = .ok (.getfield 78, 3) := by decide +kernel
theorem dX11_gangs_87 : decode cX11_gangs 87 = .ok (.aload_n 0, 1) := by decide +kernel
theorem dX11_gangs_88 : decode cX11_gangs 88 = .ok (.getfield 10, 3) := by decide +kernel
theorem dX11_gangs_91 : decode cX11_gangs 91 = .ok (.lload_n 1, 1) := by decide +kernel
theorem dX11_gangs_92 : decode cX11_gangs 92 = .ok (.invokevirtual 314, 3) := by decide +kernel
theorem lk_RX11_314 : Cond.methodLink RX11 314 yX9_share ∈ gW := gW_t 1084 (by decide +kernel) rfl
theorem mI_X9_share : Cond.instanceMethod yX9_share ∈ gW := gW_t 1085 (by decide +kernel) rfl
theorem mS_X9_share : Cond.selects RX9 yX9_share yX9_share ∈ gW := gW_t 1086 (by decide +kernel) rfl
theorem mC_X9_share : Cond.code yX9_share cX9_share 10 (some .boolean) ∈ gW := gW_t 1087 (by decide +kernel) rfl
theorem ok_X9_share : okD yX9_share 3 := ⟨by decide +kernel, by decide +kernel, by decide +kernel⟩
theorem dX11_gangs_95 : decode cX11_gangs 95 = .ok (.ifCond .ne 5, 3) := by decide +kernel
theorem dX11_gangs_100 : decode cX11_gangs 100 = .ok (.iload_n 3, 1) := by decide +kernel
theorem dX11_gangs_101 : decode cX11_gangs 101 = .ok (.ifCond .ne 13, 3) := by decide +kernel
theorem dX11_gangs_104 : decode cX11_gangs 104 = .ok (.aload_n 0, 1) := by decide +kernel
theorem dX11_gangs_105 : decode cX11_gangs 105 = .ok (.getfield 49, 3) := by decide +kernel
theorem dX11_gangs_108 : decode cX11_gangs 108 = .ok (.getfield 296, 3) := by decide +kernel
theorem fl_RX11_296 : Cond.fieldLink RX11 296 RX9 "days" "I" ∈ gW := gW_t 395 (by decide +kernel) rfl
theorem dX11_gangs_111 : decode cX11_gangs 111 = .ok (.goto 14, 3) := by decide +kernel
theorem dX11_gangs_125 : decode cX11_gangs 125 = .ok (.ireturn, 1) := by decide +kernel
theorem dX11_gangs_50 : decode cX11_gangs 50 = .ok (.iconst (-1), 1) := by decide +kernel
theorem dX11_gangs_51 : decode cX11_gangs 51 = .ok (.ireturn, 1) := by decide +kernel
def yX12_weighGangs : MethodName := ⟨RX12, "weighGangs", "(II)V"⟩
abbrev cX12_weighGangs : ByteArray := prog_14_method_105_code
theorem dX12_weighGangs_0 : decode cX12_weighGangs 0 = .ok (.iconst 0, 1) := by decide +kernel
theorem dX12_weighGangs_1 : decode cX12_weighGangs 1 = .ok (.istore_n 3, 1) := by decide +kernel
theorem dX12_weighGangs_2 : decode cX12_weighGangs 2 = .ok (.iconst 0, 1) := by decide +kernel
theorem dX12_weighGangs_3 : decode cX12_weighGangs 3 = .ok (.istore 4, 2) := by decide +kernel
theorem dX12_weighGangs_5 : decode cX12_weighGangs 5 = .ok (.iconst 0, 1) := by decide +kernel
theorem dX12_weighGangs_6 : decode cX12_weighGangs 6 = .ok (.istore 5, 2) := by decide +kernel
theorem dX12_weighGangs_8 : decode cX12_weighGangs 8 = .ok (.iload 5, 2) := by decide +kernel
theorem dX12_weighGangs_10 : decode cX12_weighGangs 10 = .ok (.iload_n 1, 1) := by decide +kernel
theorem dX12_weighGangs_11 : decode cX12_weighGangs 11 = .ok (.if_icmp .ge 66, 3) := by decide +kernel
theorem dX12_weighGangs_77 : decode cX12_weighGangs 77 = .ok (.iload 4, 2) := by decide +kernel
theorem dX12_weighGangs_79 : decode cX12_weighGangs 79 = .ok (.iload_n 2, 1) := by decide +kernel
theorem dX12_weighGangs_80 : decode cX12_weighGangs 80 = .ok (.if_icmp .ne 66, 3) := by decide +kernel
theorem dX12_weighGangs_83 : decode cX12_weighGangs 83 = .ok (.iload_n 3, 1) := by decide +kernel
theorem dX12_weighGangs_84 : decode cX12_weighGangs 84 = .ok (.aload_n 0, 1) := by decide +kernel
theorem dX12_weighGangs_85 : decode cX12_weighGangs 85 = .ok (.getfield 516, 3) := by decide +kernel
theorem fl_RX12_516 : Cond.fieldLink RX12 516 RX12 "fewestDays" "I" ∈ gW := gW_t 1319 (by decide +kernel) rfl
theorem dX12_weighGangs_88 : decode cX12_weighGangs 88 = .ok (.if_icmp .ge 58, 3) := by decide +kernel
theorem dX12_weighGangs_91 : decode cX12_weighGangs 91 = .ok (.aload_n 0, 1) := by decide +kernel
theorem dX12_weighGangs_92 : decode cX12_weighGangs 92 = .ok (.iload_n 3, 1) := by decide +kernel
theorem dX12_weighGangs_93 : decode cX12_weighGangs 93 = .ok (.putfield 516, 3) := by decide +kernel
theorem dX12_weighGangs_96 : decode cX12_weighGangs 96 = .ok (.iconst 0, 1) := by decide +kernel
theorem dX12_weighGangs_97 : decode cX12_weighGangs 97 = .ok (.istore 5, 2) := by decide +kernel
theorem dX12_weighGangs_99 : decode cX12_weighGangs 99 = .ok (.iload 5, 2) := by decide +kernel
theorem dX12_weighGangs_101 : decode cX12_weighGangs 101 = .ok (.iload_n 1, 1) := by decide +kernel
theorem dX12_weighGangs_102 : decode cX12_weighGangs 102 = .ok (.if_icmp .ge 44, 3) := by decide +kernel
theorem dX12_weighGangs_146 : decode cX12_weighGangs 146 = .ok (.return_, 1) := by decide +kernel
def yX12_findGangs : MethodName := ⟨RX12, "findGangs", "(I)V"⟩
abbrev cX12_findGangs : ByteArray := prog_14_method_106_code
theorem dX12_findGangs_0 : decode cX12_findGangs 0 = .ok (.aload_n 0, 1) := by decide +kernel
theorem dX12_findGangs_1 : decode cX12_findGangs 1 = .ok (.getfield 13, 3) := by decide +kernel
theorem dX12_findGangs_4 : decode cX12_findGangs 4 = .ok (.iconst 0, 1) := by decide +kernel
theorem dX12_findGangs_5 : decode cX12_findGangs 5 = .ok (.iaload, 1) := by decide +kernel
theorem dX12_findGangs_6 : decode cX12_findGangs 6 = .ok (.istore_n 2, 1) := by decide +kernel
theorem dX12_findGangs_7 : decode cX12_findGangs 7 = .ok (.aload_n 0, 1) := by decide +kernel
theorem dX12_findGangs_8 : decode cX12_findGangs 8 = .ok (.ldc_w 505, 3) := by decide +kernel
theorem dX12_findGangs_11 : decode cX12_findGangs 11 = .ok (.putfield 516, 3) := by decide +kernel
theorem dX12_findGangs_14 : decode cX12_findGangs 14 = .ok (.iconst 0, 1) := by decide +kernel
theorem dX12_findGangs_15 : decode cX12_findGangs 15 = .ok (.istore_n 3, 1) := by decide +kernel
theorem dX12_findGangs_16 : decode cX12_findGangs 16 = .ok (.aload_n 0, 1) := by decide +kernel
theorem dX12_findGangs_17 : decode cX12_findGangs 17 = .ok (.getfield 121, 3) := by decide +kernel
theorem dX12_findGangs_20 : decode cX12_findGangs 20 = .ok (.iconst 0, 1) := by decide +kernel
theorem dX12_findGangs_21 : decode cX12_findGangs 21 = .ok (.iconst (-1), 1) := by decide +kernel
theorem dX12_findGangs_22 : decode cX12_findGangs 22 = .ok (.iastore, 1) := by decide +kernel
theorem dX12_findGangs_23 : decode cX12_findGangs 23 = .ok (.iload_n 3, 1) := by decide +kernel
theorem dX12_findGangs_24 : decode cX12_findGangs 24 = .ok (.ifCond .lt 99, 3) := by decide +kernel
theorem dX12_findGangs_27 : decode cX12_findGangs 27 = .ok (.iload_n 3, 1) := by decide +kernel
theorem dX12_findGangs_28 : decode cX12_findGangs 28 = .ok (.iload_n 2, 1) := by decide +kernel
theorem dX12_findGangs_29 : decode cX12_findGangs 29 = .ok (.if_icmp .ne 15, 3) := by decide +kernel
theorem dX12_findGangs_32 : decode cX12_findGangs 32 = .ok (.aload_n 0, 1) := by decide +kernel
theorem dX12_findGangs_33 : decode cX12_findGangs 33 = .ok (.iload_n 2, 1) := by decide +kernel
theorem dX12_findGangs_34 : decode cX12_findGangs 34 = .ok (.iload_n 1, 1) := by decide +kernel
theorem dX12_findGangs_35 : decode cX12_findGangs 35 = .ok (.invokevirtual 519, 3) := by decide +kernel
theorem lk_RX12_519 : Cond.methodLink RX12 519 yX12_weighGangs ∈ gW := gW_t 1898 (by decide +kernel) rfl
theorem mI_X12_weighGangs : Cond.instanceMethod yX12_weighGangs ∈ gW := gW_t 1900 (by decide +kernel) rfl
theorem mS_X12_weighGangs : Cond.selects RX12 yX12_weighGangs yX12_weighGangs ∈ gW := gW_p (q := (yX12_weighGangs, 59)) 106 (by decide +kernel)
theorem mC_X12_weighGangs : Cond.code yX12_weighGangs cX12_weighGangs 6 none ∈ gW := gW_t 1901 (by decide +kernel) rfl
theorem ok_X12_weighGangs : okD yX12_weighGangs 2 := ⟨by decide +kernel, by decide +kernel, by decide +kernel⟩
theorem dX12_findGangs_38 : decode cX12_findGangs 38 = .ok (.iinc 3 (-1), 3) := by decide +kernel
theorem dX12_findGangs_41 : decode cX12_findGangs 41 = .ok (.goto (-18), 3) := by decide +kernel
theorem dX12_findGangs_123 : decode cX12_findGangs 123 = .ok (.return_, 1) := by decide +kernel
def yX12_gangs : MethodName := ⟨RX12, "gangs", "(JI)I"⟩
abbrev cX12_gangs : ByteArray := prog_14_method_107_code
theorem dX12_gangs_0 : decode cX12_gangs 0 = .ok (.aload_n 0, 1) := by decide +kernel
theorem dX12_gangs_1 : decode cX12_gangs 1 = .ok (.iconst 0, 1) := by decide +kernel
theorem dX12_gangs_2 : decode cX12_gangs 2 = .ok (.putfield 156, 3) := by decide +kernel
theorem dX12_gangs_5 : decode cX12_gangs 5 = .ok (.lload_n 1, 1) := by decide +kernel
theorem dX12_gangs_6 : decode cX12_gangs 6 = .ok (.lconst 0, 1) := by decide +kernel
theorem dX12_gangs_7 : decode cX12_gangs 7 = .ok (.ldc2_w 525, 3) := by decide +kernel
theorem ct_RX12_525 : Cond.constantLong RX12 525 1099511627775 ∈ gW := gW_t 1890 (by decide +kernel) rfl
theorem dX12_gangs_10 : decode cX12_gangs 10 = .ok (.invokestatic 180, 3) := by decide +kernel
theorem dX12_gangs_13 : decode cX12_gangs 13 = .ok (.ifCond .eq 28, 3) := by decide +kernel
theorem dX12_gangs_16 : decode cX12_gangs 16 = .ok (.lload_n 1, 1) := by decide +kernel
theorem dX12_gangs_17 : decode cX12_gangs 17 = .ok (.invokestatic 527, 3) := by decide +kernel
theorem dX12_gangs_20 : decode cX12_gangs 20 = .ok (.bipush 6, 2) := by decide +kernel
theorem dX12_gangs_22 : decode cX12_gangs 22 = .ok (.if_icmp .gt 19, 3) := by decide +kernel
theorem dX12_gangs_25 : decode cX12_gangs 25 = .ok (.iload_n 3, 1) := by decide +kernel
theorem dX12_gangs_26 : decode cX12_gangs 26 = .ok (.i2l, 1) := by decide +kernel
theorem dX12_gangs_27 : decode cX12_gangs 27 = .ok (.lconst 0, 1) := by decide +kernel
theorem dX12_gangs_28 : decode cX12_gangs 28 = .ok (.aload_n 0, 1) := by decide +kernel
theorem dX12_gangs_29 : decode cX12_gangs 29 = .ok (.getfield 13, 3) := by decide +kernel
theorem dX12_gangs_32 : decode cX12_gangs 32 = .ok (.iconst 0, 1) := by decide +kernel
theorem dX12_gangs_33 : decode cX12_gangs 33 = .ok (.iaload, 1) := by decide +kernel
theorem dX12_gangs_34 : decode cX12_gangs 34 = .ok (.i2l, 1) := by decide +kernel
theorem dX12_gangs_35 : decode cX12_gangs 35 = .ok (.invokestatic 180, 3) := by decide +kernel
theorem dX12_gangs_38 : decode cX12_gangs 38 = .ok (.ifCond .ne 5, 3) := by decide +kernel
theorem dX12_gangs_43 : decode cX12_gangs 43 = .ok (.iconst 0, 1) := by decide +kernel
theorem dX12_gangs_44 : decode cX12_gangs 44 = .ok (.istore 4, 2) := by decide +kernel
theorem dX12_gangs_46 : decode cX12_gangs 46 = .ok (.iconst 0, 1) := by decide +kernel
theorem dX12_gangs_47 : decode cX12_gangs 47 = .ok (.istore 5, 2) := by decide +kernel
theorem dX12_gangs_49 : decode cX12_gangs 49 = .ok (.iload 5, 2) := by decide +kernel
theorem dX12_gangs_51 : decode cX12_gangs 51 = .ok (.bipush 40, 2) := by decide +kernel
theorem dX12_gangs_53 : decode cX12_gangs 53 = .ok (.if_icmp .ge 30, 3) := by decide +kernel
theorem dX12_gangs_56 : decode cX12_gangs 56 = .ok (.lload_n 1, 1) := by decide +kernel
theorem dX12_gangs_57 : decode cX12_gangs 57 = .ok (.iload 5, 2) := by decide +kernel
theorem dX12_gangs_59 : decode cX12_gangs 59 = .ok (.invokestatic 159, 3) := by decide +kernel
theorem dX12_gangs_62 : decode cX12_gangs 62 = .ok (.ifCond .eq 15, 3) := by decide +kernel
theorem dX12_gangs_77 : decode cX12_gangs 77 = .ok (.iinc 5 1, 3) := by decide +kernel
theorem dX12_gangs_80 : decode cX12_gangs 80 = .ok (.goto (-31), 3) := by decide +kernel
theorem dX12_gangs_83 : decode cX12_gangs 83 = .ok (.iconst 0, 1) := by decide +kernel
theorem dX12_gangs_84 : decode cX12_gangs 84 = .ok (.istore 5, 2) := by decide +kernel
theorem dX12_gangs_86 : decode cX12_gangs 86 = .ok (.iload 5, 2) := by decide +kernel
theorem dX12_gangs_88 : decode cX12_gangs 88 = .ok (.aload_n 0, 1) := by decide +kernel
theorem dX12_gangs_89 : decode cX12_gangs 89 = .ok (.getfield 13, 3) := by decide +kernel
theorem dX12_gangs_92 : decode cX12_gangs 92 = .ok (.iconst 0, 1) := by decide +kernel
theorem dX12_gangs_93 : decode cX12_gangs 93 = .ok (.iaload, 1) := by decide +kernel
theorem dX12_gangs_94 : decode cX12_gangs 94 = .ok (.if_icmp .ge 51, 3) := by decide +kernel
theorem dX12_gangs_145 : decode cX12_gangs 145 = .ok (.aload_n 0, 1) := by decide +kernel
theorem dX12_gangs_146 : decode cX12_gangs 146 = .ok (.iload 4, 2) := by decide +kernel
theorem dX12_gangs_148 : decode cX12_gangs 148 = .ok (.invokevirtual 531, 3) := by decide +kernel
theorem lk_RX12_531 : Cond.methodLink RX12 531 yX12_findGangs ∈ gW := gW_t 1894 (by decide +kernel) rfl
theorem mI_X12_findGangs : Cond.instanceMethod yX12_findGangs ∈ gW := gW_t 1896 (by decide +kernel) rfl
theorem mS_X12_findGangs : Cond.selects RX12 yX12_findGangs yX12_findGangs ∈ gW := gW_p (q := (yX12_findGangs, 59)) 105 (by decide +kernel)
theorem mC_X12_findGangs : Cond.code yX12_findGangs cX12_findGangs 4 none ∈ gW := gW_t 1897 (by decide +kernel) rfl
theorem ok_X12_findGangs : okD yX12_findGangs 1 := ⟨by decide +kernel, by decide +kernel, by decide +kernel⟩
theorem dX12_gangs_151 : decode cX12_gangs 151 = .ok (.aload_n 0, 1) := by decide +kernel
theorem dX12_gangs_152 : decode cX12_gangs 152 = .ok (.getfield 516, 3) := by decide +kernel
theorem dX12_gangs_155 : decode cX12_gangs 155 = .ok (.ldc_w 505, 3) := by decide +kernel
theorem dX12_gangs_158 : decode cX12_gangs 158 = .ok (.if_icmp .ne 7, 3) := by decide +kernel
theorem dX12_gangs_165 : decode cX12_gangs 165 = .ok (.iload_n 3, 1) := by decide +kernel
theorem dX12_gangs_166 : decode cX12_gangs 166 = .ok (.ifCond .ne 10, 3) := by decide +kernel
theorem dX12_gangs_169 : decode cX12_gangs 169 = .ok (.aload_n 0, 1) := by decide +kernel
theorem dX12_gangs_170 : decode cX12_gangs 170 = .ok (.getfield 516, 3) := by decide +kernel
theorem dX12_gangs_173 : decode cX12_gangs 173 = .ok (.goto 11, 3) := by decide +kernel
theorem dX12_gangs_184 : decode cX12_gangs 184 = .ok (.ireturn, 1) := by decide +kernel
theorem dX12_gangs_41 : decode cX12_gangs 41 = .ok (.iconst (-1), 1) := by decide +kernel
theorem dX12_gangs_42 : decode cX12_gangs 42 = .ok (.ireturn, 1) := by decide +kernel
