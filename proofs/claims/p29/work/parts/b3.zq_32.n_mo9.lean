def yX12_isFree : MethodName := ⟨RX12, "isFree", "(I)Z"⟩
abbrev cX12_isFree : ByteArray := prog_14_method_104_code
theorem dX12_isFree_0 : decode cX12_isFree 0 = .ok (.iconst 1, 1) := by decide +kernel
theorem dX12_isFree_1 : decode cX12_isFree 1 = .ok (.istore_n 2, 1) := by decide +kernel
theorem dX12_isFree_2 : decode cX12_isFree 2 = .ok (.iconst 0, 1) := by decide +kernel
theorem dX12_isFree_3 : decode cX12_isFree 3 = .ok (.istore_n 3, 1) := by decide +kernel
theorem dX12_isFree_4 : decode cX12_isFree 4 = .ok (.iload_n 3, 1) := by decide +kernel
theorem dX12_isFree_5 : decode cX12_isFree 5 = .ok (.iload_n 1, 1) := by decide +kernel
theorem dX12_isFree_6 : decode cX12_isFree 6 = .ok (.if_icmp .ge 34, 3) := by decide +kernel
theorem dX12_isFree_9 : decode cX12_isFree 9 = .ok (.iload_n 2, 1) := by decide +kernel
theorem dX12_isFree_10 : decode cX12_isFree 10 = .ok (.ifCond .eq 22, 3) := by decide +kernel
theorem dX12_isFree_32 : decode cX12_isFree 32 = .ok (.iconst 0, 1) := by decide +kernel
theorem dX12_isFree_33 : decode cX12_isFree 33 = .ok (.istore_n 2, 1) := by decide +kernel
theorem dX12_isFree_34 : decode cX12_isFree 34 = .ok (.iinc 3 1, 3) := by decide +kernel
theorem dX12_isFree_37 : decode cX12_isFree 37 = .ok (.goto (-33), 3) := by decide +kernel
theorem dX12_isFree_13 : decode cX12_isFree 13 = .ok (.aload_n 0, 1) := by decide +kernel
theorem dX12_isFree_14 : decode cX12_isFree 14 = .ok (.getfield 121, 3) := by decide +kernel
theorem fl_RX12_121 : Cond.fieldLink RX12 121 RX12 "goalOf" "[I" ∈ gW := gW_u tb_6 117 (by rfl) (by decide +kernel)
theorem dX12_isFree_17 : decode cX12_isFree 17 = .ok (.iload_n 3, 1) := by decide +kernel
theorem dX12_isFree_18 : decode cX12_isFree 18 = .ok (.iaload, 1) := by decide +kernel
theorem dX12_isFree_19 : decode cX12_isFree 19 = .ok (.aload_n 0, 1) := by decide +kernel
theorem dX12_isFree_20 : decode cX12_isFree 20 = .ok (.getfield 121, 3) := by decide +kernel
theorem dX12_isFree_23 : decode cX12_isFree 23 = .ok (.iload_n 1, 1) := by decide +kernel
theorem dX12_isFree_24 : decode cX12_isFree 24 = .ok (.iaload, 1) := by decide +kernel
theorem dX12_isFree_25 : decode cX12_isFree 25 = .ok (.if_icmp .eq 7, 3) := by decide +kernel
theorem dX12_isFree_28 : decode cX12_isFree 28 = .ok (.iconst 1, 1) := by decide +kernel
theorem dX12_isFree_29 : decode cX12_isFree 29 = .ok (.goto 4, 3) := by decide +kernel
theorem dX12_isFree_40 : decode cX12_isFree 40 = .ok (.iload_n 2, 1) := by decide +kernel
theorem dX12_isFree_41 : decode cX12_isFree 41 = .ok (.ireturn, 1) := by decide +kernel
def yX12_weighGangs : MethodName := ⟨RX12, "weighGangs", "(II)V"⟩
abbrev cX12_weighGangs : ByteArray := prog_14_method_105_code
theorem dX12_weighGangs_0 : decode cX12_weighGangs 0 = .ok (.iconst 0, 1) := by decide +kernel
theorem dX12_weighGangs_1 : decode cX12_weighGangs 1 = .ok (.istore_n 3, 1) := by decide +kernel
theorem dX12_weighGangs_2 : decode cX12_weighGangs 2 = .ok (.iconst 0, 1) := by decide +kernel
theorem dX12_weighGangs_3 : decode cX12_weighGangs 3 = .ok (.istore 4, 2) := by decide +kernel
theorem dX12_weighGangs_5 : decode cX12_weighGangs 5 = .ok (.iconst 0, 1) := by decide +kernel
theorem dX12_weighGangs_6 : decode cX12_weighGangs 6 = .ok (.istore 5, 2) := by decide +kernel
theorem dX12_weighGangs_8 : decode cX12_weighGangs 8 = .ok (.iload 5, 2) := by decide +kernel
theorem dX12_weighGangs_10 : decode cX12_weighGangs 10 = .ok (.iload_n 1, 1) := by decide +kernel
theorem dX12_weighGangs_11 : decode cX12_weighGangs 11 = .ok (.if_icmp .ge 66, 3) := by decide +kernel
theorem dX12_weighGangs_14 : decode cX12_weighGangs 14 = .ok (.iload_n 3, 1) := by decide +kernel
theorem dX12_weighGangs_15 : decode cX12_weighGangs 15 = .ok (.aload_n 0, 1) := by decide +kernel
theorem dX12_weighGangs_16 : decode cX12_weighGangs 16 = .ok (.getfield 121, 3) := by decide +kernel
theorem dX12_weighGangs_19 : decode cX12_weighGangs 19 = .ok (.iload 5, 2) := by decide +kernel
theorem dX12_weighGangs_21 : decode cX12_weighGangs 21 = .ok (.iaload, 1) := by decide +kernel
theorem dX12_weighGangs_22 : decode cX12_weighGangs 22 = .ok (.iload_n 2, 1) := by decide +kernel
theorem dX12_weighGangs_23 : decode cX12_weighGangs 23 = .ok (.if_icmp .ne 7, 3) := by decide +kernel
theorem dX12_weighGangs_30 : decode cX12_weighGangs 30 = .ok (.aload_n 0, 1) := by decide +kernel
theorem dX12_weighGangs_31 : decode cX12_weighGangs 31 = .ok (.getfield 118, 3) := by decide +kernel
theorem fl_RX12_118 : Cond.fieldLink RX12 118 RX12 "goalDays" "[I" ∈ gW := gW_u tb_6 116 (by rfl) (by decide +kernel)
theorem dX12_weighGangs_34 : decode cX12_weighGangs 34 = .ok (.bipush 6, 2) := by decide +kernel
theorem dX12_weighGangs_36 : decode cX12_weighGangs 36 = .ok (.iload 5, 2) := by decide +kernel
theorem dX12_weighGangs_38 : decode cX12_weighGangs 38 = .ok (.imul, 1) := by decide +kernel
theorem dX12_weighGangs_39 : decode cX12_weighGangs 39 = .ok (.aload_n 0, 1) := by decide +kernel
theorem dX12_weighGangs_40 : decode cX12_weighGangs 40 = .ok (.getfield 121, 3) := by decide +kernel
theorem dX12_weighGangs_43 : decode cX12_weighGangs 43 = .ok (.iload 5, 2) := by decide +kernel
theorem dX12_weighGangs_45 : decode cX12_weighGangs 45 = .ok (.iaload, 1) := by decide +kernel
theorem dX12_weighGangs_46 : decode cX12_weighGangs 46 = .ok (.iadd, 1) := by decide +kernel
theorem dX12_weighGangs_47 : decode cX12_weighGangs 47 = .ok (.iaload, 1) := by decide +kernel
theorem dX12_weighGangs_26 : decode cX12_weighGangs 26 = .ok (.iconst 0, 1) := by decide +kernel
theorem dX12_weighGangs_27 : decode cX12_weighGangs 27 = .ok (.goto 21, 3) := by decide +kernel
theorem dX12_weighGangs_48 : decode cX12_weighGangs 48 = .ok (.iadd, 1) := by decide +kernel
theorem dX12_weighGangs_49 : decode cX12_weighGangs 49 = .ok (.istore_n 3, 1) := by decide +kernel
theorem dX12_weighGangs_50 : decode cX12_weighGangs 50 = .ok (.iload 4, 2) := by decide +kernel
theorem dX12_weighGangs_52 : decode cX12_weighGangs 52 = .ok (.aload_n 0, 1) := by decide +kernel
theorem dX12_weighGangs_53 : decode cX12_weighGangs 53 = .ok (.getfield 121, 3) := by decide +kernel
theorem dX12_weighGangs_56 : decode cX12_weighGangs 56 = .ok (.iload 5, 2) := by decide +kernel
theorem dX12_weighGangs_58 : decode cX12_weighGangs 58 = .ok (.iaload, 1) := by decide +kernel
theorem dX12_weighGangs_59 : decode cX12_weighGangs 59 = .ok (.iload_n 2, 1) := by decide +kernel
theorem dX12_weighGangs_60 : decode cX12_weighGangs 60 = .ok (.if_icmp .ne 7, 3) := by decide +kernel
theorem dX12_weighGangs_67 : decode cX12_weighGangs 67 = .ok (.iconst 1, 1) := by decide +kernel
theorem dX12_weighGangs_68 : decode cX12_weighGangs 68 = .ok (.iadd, 1) := by decide +kernel
theorem dX12_weighGangs_69 : decode cX12_weighGangs 69 = .ok (.istore 4, 2) := by decide +kernel
theorem dX12_weighGangs_71 : decode cX12_weighGangs 71 = .ok (.iinc 5 1, 3) := by decide +kernel
theorem dX12_weighGangs_74 : decode cX12_weighGangs 74 = .ok (.goto (-66), 3) := by decide +kernel
theorem dX12_weighGangs_63 : decode cX12_weighGangs 63 = .ok (.iconst 0, 1) := by decide +kernel
theorem dX12_weighGangs_64 : decode cX12_weighGangs 64 = .ok (.goto 4, 3) := by decide +kernel
theorem dX12_weighGangs_77 : decode cX12_weighGangs 77 = .ok (.iload 4, 2) := by decide +kernel
theorem dX12_weighGangs_79 : decode cX12_weighGangs 79 = .ok (.iload_n 2, 1) := by decide +kernel
theorem dX12_weighGangs_80 : decode cX12_weighGangs 80 = .ok (.if_icmp .ne 66, 3) := by decide +kernel
theorem dX12_weighGangs_146 : decode cX12_weighGangs 146 = .ok (.return_, 1) := by decide +kernel
theorem dX12_weighGangs_83 : decode cX12_weighGangs 83 = .ok (.iload_n 3, 1) := by decide +kernel
theorem dX12_weighGangs_84 : decode cX12_weighGangs 84 = .ok (.aload_n 0, 1) := by decide +kernel
theorem dX12_weighGangs_85 : decode cX12_weighGangs 85 = .ok (.getfield 516, 3) := by decide +kernel
theorem fl_RX12_516 : Cond.fieldLink RX12 516 RX12 "fewestDays" "I" ∈ gW := gW_u tb_6 119 (by rfl) (by decide +kernel)
theorem dX12_weighGangs_88 : decode cX12_weighGangs 88 = .ok (.if_icmp .ge 58, 3) := by decide +kernel
theorem dX12_weighGangs_91 : decode cX12_weighGangs 91 = .ok (.aload_n 0, 1) := by decide +kernel
theorem dX12_weighGangs_92 : decode cX12_weighGangs 92 = .ok (.iload_n 3, 1) := by decide +kernel
theorem dX12_weighGangs_93 : decode cX12_weighGangs 93 = .ok (.putfield 516, 3) := by decide +kernel
theorem dX12_weighGangs_96 : decode cX12_weighGangs 96 = .ok (.iconst 0, 1) := by decide +kernel
theorem dX12_weighGangs_97 : decode cX12_weighGangs 97 = .ok (.istore 5, 2) := by decide +kernel
theorem dX12_weighGangs_99 : decode cX12_weighGangs 99 = .ok (.iload 5, 2) := by decide +kernel
theorem dX12_weighGangs_101 : decode cX12_weighGangs 101 = .ok (.iload_n 1, 1) := by decide +kernel
theorem dX12_weighGangs_102 : decode cX12_weighGangs 102 = .ok (.if_icmp .ge 44, 3) := by decide +kernel
theorem dX12_weighGangs_105 : decode cX12_weighGangs 105 = .ok (.aload_n 0, 1) := by decide +kernel
theorem dX12_weighGangs_106 : decode cX12_weighGangs 106 = .ok (.getfield 124, 3) := by decide +kernel
theorem fl_RX12_124 : Cond.fieldLink RX12 124 RX12 "bestGoals" "[I" ∈ gW := gW_u tb_6 118 (by rfl) (by decide +kernel)
theorem dX12_weighGangs_109 : decode cX12_weighGangs 109 = .ok (.iload 5, 2) := by decide +kernel
theorem dX12_weighGangs_111 : decode cX12_weighGangs 111 = .ok (.aload_n 0, 1) := by decide +kernel
theorem dX12_weighGangs_112 : decode cX12_weighGangs 112 = .ok (.getfield 121, 3) := by decide +kernel
theorem dX12_weighGangs_115 : decode cX12_weighGangs 115 = .ok (.iload 5, 2) := by decide +kernel
theorem dX12_weighGangs_117 : decode cX12_weighGangs 117 = .ok (.iaload, 1) := by decide +kernel
theorem dX12_weighGangs_118 : decode cX12_weighGangs 118 = .ok (.iload_n 2, 1) := by decide +kernel
theorem dX12_weighGangs_119 : decode cX12_weighGangs 119 = .ok (.if_icmp .ne 8, 3) := by decide +kernel
theorem dX12_weighGangs_127 : decode cX12_weighGangs 127 = .ok (.aload_n 0, 1) := by decide +kernel
theorem dX12_weighGangs_128 : decode cX12_weighGangs 128 = .ok (.getfield 115, 3) := by decide +kernel
theorem fl_RX12_115 : Cond.fieldLink RX12 115 RX12 "goals" "[I" ∈ gW := gW_u tb_6 115 (by rfl) (by decide +kernel)
theorem dX12_weighGangs_131 : decode cX12_weighGangs 131 = .ok (.aload_n 0, 1) := by decide +kernel
theorem dX12_weighGangs_132 : decode cX12_weighGangs 132 = .ok (.getfield 121, 3) := by decide +kernel
theorem dX12_weighGangs_135 : decode cX12_weighGangs 135 = .ok (.iload 5, 2) := by decide +kernel
theorem dX12_weighGangs_137 : decode cX12_weighGangs 137 = .ok (.iaload, 1) := by decide +kernel
theorem dX12_weighGangs_138 : decode cX12_weighGangs 138 = .ok (.iaload, 1) := by decide +kernel
theorem dX12_weighGangs_139 : decode cX12_weighGangs 139 = .ok (.iastore, 1) := by decide +kernel
theorem dX12_weighGangs_140 : decode cX12_weighGangs 140 = .ok (.iinc 5 1, 3) := by decide +kernel
theorem dX12_weighGangs_143 : decode cX12_weighGangs 143 = .ok (.goto (-44), 3) := by decide +kernel
theorem dX12_weighGangs_122 : decode cX12_weighGangs 122 = .ok (.bipush 100, 2) := by decide +kernel
theorem dX12_weighGangs_124 : decode cX12_weighGangs 124 = .ok (.goto 15, 3) := by decide +kernel
def yX12_findGangs : MethodName := ⟨RX12, "findGangs", "(I)V"⟩
abbrev cX12_findGangs : ByteArray := prog_14_method_106_code
theorem dX12_findGangs_0 : decode cX12_findGangs 0 = .ok (.aload_n 0, 1) := by decide +kernel
theorem dX12_findGangs_1 : decode cX12_findGangs 1 = .ok (.getfield 13, 3) := by decide +kernel
theorem dX12_findGangs_4 : decode cX12_findGangs 4 = .ok (.iconst 0, 1) := by decide +kernel
theorem dX12_findGangs_5 : decode cX12_findGangs 5 = .ok (.iaload, 1) := by decide +kernel
theorem dX12_findGangs_6 : decode cX12_findGangs 6 = .ok (.istore_n 2, 1) := by decide +kernel
theorem dX12_findGangs_7 : decode cX12_findGangs 7 = .ok (.aload_n 0, 1) := by decide +kernel
theorem dX12_findGangs_8 : decode cX12_findGangs 8 = .ok (.ldc_w 505, 3) := by decide +kernel
theorem dX12_findGangs_11 : decode cX12_findGangs 11 = .ok (.putfield 516, 3) := by decide +kernel
theorem dX12_findGangs_14 : decode cX12_findGangs 14 = .ok (.iconst 0, 1) := by decide +kernel
theorem dX12_findGangs_15 : decode cX12_findGangs 15 = .ok (.istore_n 3, 1) := by decide +kernel
theorem dX12_findGangs_16 : decode cX12_findGangs 16 = .ok (.aload_n 0, 1) := by decide +kernel
theorem dX12_findGangs_17 : decode cX12_findGangs 17 = .ok (.getfield 121, 3) := by decide +kernel
theorem dX12_findGangs_20 : decode cX12_findGangs 20 = .ok (.iconst 0, 1) := by decide +kernel
theorem dX12_findGangs_21 : decode cX12_findGangs 21 = .ok (.iconst (-1), 1) := by decide +kernel
theorem dX12_findGangs_22 : decode cX12_findGangs 22 = .ok (.iastore, 1) := by decide +kernel
theorem dX12_findGangs_23 : decode cX12_findGangs 23 = .ok (.iload_n 3, 1) := by decide +kernel
theorem dX12_findGangs_24 : decode cX12_findGangs 24 = .ok (.ifCond .lt 99, 3) := by decide +kernel
theorem dX12_findGangs_27 : decode cX12_findGangs 27 = .ok (.iload_n 3, 1) := by decide +kernel
theorem dX12_findGangs_28 : decode cX12_findGangs 28 = .ok (.iload_n 2, 1) := by decide +kernel
theorem dX12_findGangs_29 : decode cX12_findGangs 29 = .ok (.if_icmp .ne 15, 3) := by decide +kernel
theorem dX12_findGangs_44 : decode cX12_findGangs 44 = .ok (.aload_n 0, 1) := by decide +kernel
theorem dX12_findGangs_45 : decode cX12_findGangs 45 = .ok (.getfield 121, 3) := by decide +kernel
theorem dX12_findGangs_48 : decode cX12_findGangs 48 = .ok (.iload_n 3, 1) := by decide +kernel
theorem dX12_findGangs_49 : decode cX12_findGangs 49 = .ok (.dup2, 1) := by decide +kernel
theorem dX12_findGangs_50 : decode cX12_findGangs 50 = .ok (.iaload, 1) := by decide +kernel
theorem dX12_findGangs_51 : decode cX12_findGangs 51 = .ok (.iconst 1, 1) := by decide +kernel
theorem dX12_findGangs_52 : decode cX12_findGangs 52 = .ok (.iadd, 1) := by decide +kernel
theorem dX12_findGangs_53 : decode cX12_findGangs 53 = .ok (.iastore, 1) := by decide +kernel
theorem dX12_findGangs_54 : decode cX12_findGangs 54 = .ok (.aload_n 0, 1) := by decide +kernel
theorem dX12_findGangs_55 : decode cX12_findGangs 55 = .ok (.getfield 121, 3) := by decide +kernel
theorem dX12_findGangs_58 : decode cX12_findGangs 58 = .ok (.iload_n 3, 1) := by decide +kernel
theorem dX12_findGangs_59 : decode cX12_findGangs 59 = .ok (.iaload, 1) := by decide +kernel
theorem dX12_findGangs_60 : decode cX12_findGangs 60 = .ok (.iload_n 1, 1) := by decide +kernel
theorem dX12_findGangs_61 : decode cX12_findGangs 61 = .ok (.if_icmp .le 9, 3) := by decide +kernel
theorem dX12_findGangs_70 : decode cX12_findGangs 70 = .ok (.aload_n 0, 1) := by decide +kernel
theorem dX12_findGangs_71 : decode cX12_findGangs 71 = .ok (.getfield 121, 3) := by decide +kernel
theorem dX12_findGangs_74 : decode cX12_findGangs 74 = .ok (.iload_n 3, 1) := by decide +kernel
theorem dX12_findGangs_75 : decode cX12_findGangs 75 = .ok (.iaload, 1) := by decide +kernel
theorem dX12_findGangs_76 : decode cX12_findGangs 76 = .ok (.iload_n 1, 1) := by decide +kernel
theorem dX12_findGangs_77 : decode cX12_findGangs 77 = .ok (.if_icmp .eq 33, 3) := by decide +kernel
theorem dX12_findGangs_110 : decode cX12_findGangs 110 = .ok (.iinc 3 1, 3) := by decide +kernel
theorem dX12_findGangs_113 : decode cX12_findGangs 113 = .ok (.aload_n 0, 1) := by decide +kernel
theorem dX12_findGangs_114 : decode cX12_findGangs 114 = .ok (.getfield 121, 3) := by decide +kernel
theorem dX12_findGangs_117 : decode cX12_findGangs 117 = .ok (.iload_n 3, 1) := by decide +kernel
theorem dX12_findGangs_118 : decode cX12_findGangs 118 = .ok (.iconst (-1), 1) := by decide +kernel
theorem dX12_findGangs_119 : decode cX12_findGangs 119 = .ok (.iastore, 1) := by decide +kernel
theorem dX12_findGangs_120 : decode cX12_findGangs 120 = .ok (.goto (-97), 3) := by decide +kernel
theorem dX12_findGangs_80 : decode cX12_findGangs 80 = .ok (.aload_n 0, 1) := by decide +kernel
theorem dX12_findGangs_81 : decode cX12_findGangs 81 = .ok (.getfield 118, 3) := by decide +kernel
theorem dX12_findGangs_84 : decode cX12_findGangs 84 = .ok (.bipush 6, 2) := by decide +kernel
theorem dX12_findGangs_86 : decode cX12_findGangs 86 = .ok (.iload_n 3, 1) := by decide +kernel
theorem dX12_findGangs_87 : decode cX12_findGangs 87 = .ok (.imul, 1) := by decide +kernel
theorem dX12_findGangs_88 : decode cX12_findGangs 88 = .ok (.aload_n 0, 1) := by decide +kernel
theorem dX12_findGangs_89 : decode cX12_findGangs 89 = .ok (.getfield 121, 3) := by decide +kernel
theorem dX12_findGangs_92 : decode cX12_findGangs 92 = .ok (.iload_n 3, 1) := by decide +kernel
theorem dX12_findGangs_93 : decode cX12_findGangs 93 = .ok (.iaload, 1) := by decide +kernel
theorem dX12_findGangs_94 : decode cX12_findGangs 94 = .ok (.iadd, 1) := by decide +kernel
theorem dX12_findGangs_95 : decode cX12_findGangs 95 = .ok (.iaload, 1) := by decide +kernel
theorem dX12_findGangs_96 : decode cX12_findGangs 96 = .ok (.ldc_w 505, 3) := by decide +kernel
theorem dX12_findGangs_99 : decode cX12_findGangs 99 = .ok (.if_icmp .ge (-76), 3) := by decide +kernel
theorem dX12_findGangs_102 : decode cX12_findGangs 102 = .ok (.aload_n 0, 1) := by decide +kernel
theorem dX12_findGangs_103 : decode cX12_findGangs 103 = .ok (.iload_n 3, 1) := by decide +kernel
theorem dX12_findGangs_104 : decode cX12_findGangs 104 = .ok (.invokevirtual 522, 3) := by decide +kernel
theorem lk_RX12_522 : Cond.methodLink RX12 522 yX12_isFree ∈ gW := gW_u tb_8 222 (by rfl) (by decide +kernel)
theorem mI_X12_isFree : Cond.instanceMethod yX12_isFree ∈ gW := gW_u tb_8 224 (by rfl) (by decide +kernel)
theorem mS_X12_isFree : Cond.selects RX12 yX12_isFree yX12_isFree ∈ gW := gW_p (q := (yX12_isFree, 59)) 107 (by decide +kernel)
theorem mC_X12_isFree : Cond.code yX12_isFree cX12_isFree 4 (some .boolean) ∈ gW := gW_u tb_8 225 (by rfl) (by decide +kernel)
theorem ok_X12_isFree : okD yX12_isFree 1 := ⟨by decide +kernel, by decide +kernel, by decide +kernel⟩
theorem dX12_findGangs_107 : decode cX12_findGangs 107 = .ok (.ifCond .eq (-84), 3) := by decide +kernel
theorem dX12_findGangs_64 : decode cX12_findGangs 64 = .ok (.iinc 3 (-1), 3) := by decide +kernel
theorem dX12_findGangs_67 : decode cX12_findGangs 67 = .ok (.goto (-44), 3) := by decide +kernel
theorem dX12_findGangs_32 : decode cX12_findGangs 32 = .ok (.aload_n 0, 1) := by decide +kernel
theorem dX12_findGangs_33 : decode cX12_findGangs 33 = .ok (.iload_n 2, 1) := by decide +kernel
theorem dX12_findGangs_34 : decode cX12_findGangs 34 = .ok (.iload_n 1, 1) := by decide +kernel
theorem dX12_findGangs_35 : decode cX12_findGangs 35 = .ok (.invokevirtual 519, 3) := by decide +kernel
theorem lk_RX12_519 : Cond.methodLink RX12 519 yX12_weighGangs ∈ gW := gW_u tb_8 218 (by rfl) (by decide +kernel)
theorem mI_X12_weighGangs : Cond.instanceMethod yX12_weighGangs ∈ gW := gW_u tb_8 220 (by rfl) (by decide +kernel)
theorem mS_X12_weighGangs : Cond.selects RX12 yX12_weighGangs yX12_weighGangs ∈ gW := gW_p (q := (yX12_weighGangs, 59)) 106 (by decide +kernel)
theorem mC_X12_weighGangs : Cond.code yX12_weighGangs cX12_weighGangs 6 none ∈ gW := gW_u tb_8 221 (by rfl) (by decide +kernel)
theorem ok_X12_weighGangs : okD yX12_weighGangs 2 := ⟨by decide +kernel, by decide +kernel, by decide +kernel⟩
theorem dX12_findGangs_38 : decode cX12_findGangs 38 = .ok (.iinc 3 (-1), 3) := by decide +kernel
theorem dX12_findGangs_41 : decode cX12_findGangs 41 = .ok (.goto (-18), 3) := by decide +kernel
theorem dX12_findGangs_123 : decode cX12_findGangs 123 = .ok (.return_, 1) := by decide +kernel
def yX12_gangs : MethodName := ⟨RX12, "gangs", "(JI)I"⟩
abbrev cX12_gangs : ByteArray := prog_14_method_107_code
theorem dX12_gangs_0 : decode cX12_gangs 0 = .ok (.aload_n 0, 1) := by decide +kernel
theorem dX12_gangs_1 : decode cX12_gangs 1 = .ok (.iconst 0, 1) := by decide +kernel
theorem dX12_gangs_2 : decode cX12_gangs 2 = .ok (.putfield 156, 3) := by decide +kernel
theorem dX12_gangs_5 : decode cX12_gangs 5 = .ok (.lload_n 1, 1) := by decide +kernel
theorem dX12_gangs_6 : decode cX12_gangs 6 = .ok (.lconst 0, 1) := by decide +kernel
theorem dX12_gangs_7 : decode cX12_gangs 7 = .ok (.ldc2_w 525, 3) := by decide +kernel
theorem ct_RX12_525 : Cond.constantLong RX12 525 1099511627775 ∈ gW := gW_u tb_8 210 (by rfl) (by decide +kernel)
theorem dX12_gangs_10 : decode cX12_gangs 10 = .ok (.invokestatic 180, 3) := by decide +kernel
theorem dX12_gangs_13 : decode cX12_gangs 13 = .ok (.ifCond .eq 28, 3) := by decide +kernel
theorem dX12_gangs_41 : decode cX12_gangs 41 = .ok (.iconst (-1), 1) := by decide +kernel
theorem dX12_gangs_42 : decode cX12_gangs 42 = .ok (.ireturn, 1) := by decide +kernel
theorem dX12_gangs_16 : decode cX12_gangs 16 = .ok (.lload_n 1, 1) := by decide +kernel
theorem dX12_gangs_17 : decode cX12_gangs 17 = .ok (.invokestatic 527, 3) := by decide +kernel
theorem lk_RX12_527 : Cond.methodLink RX12 527 yX12_ones ∈ gW := gW_u tb_8 211 (by rfl) (by decide +kernel)
theorem mT_X12_ones : Cond.static yX12_ones ∈ gW := gW_u tb_8 212 (by rfl) (by decide +kernel)
theorem mC_X12_ones : Cond.code yX12_ones cX12_ones 4 (some .int) ∈ gW := gW_u tb_8 213 (by rfl) (by decide +kernel)
theorem ok_X12_ones : okD yX12_ones 1 := ⟨by decide +kernel, by decide +kernel, by decide +kernel⟩
theorem dX12_gangs_20 : decode cX12_gangs 20 = .ok (.bipush 6, 2) := by decide +kernel
theorem dX12_gangs_22 : decode cX12_gangs 22 = .ok (.if_icmp .gt 19, 3) := by decide +kernel
theorem dX12_gangs_25 : decode cX12_gangs 25 = .ok (.iload_n 3, 1) := by decide +kernel
theorem dX12_gangs_26 : decode cX12_gangs 26 = .ok (.i2l, 1) := by decide +kernel
theorem dX12_gangs_27 : decode cX12_gangs 27 = .ok (.lconst 0, 1) := by decide +kernel
theorem dX12_gangs_28 : decode cX12_gangs 28 = .ok (.aload_n 0, 1) := by decide +kernel
theorem dX12_gangs_29 : decode cX12_gangs 29 = .ok (.getfield 13, 3) := by decide +kernel
theorem dX12_gangs_32 : decode cX12_gangs 32 = .ok (.iconst 0, 1) := by decide +kernel
theorem dX12_gangs_33 : decode cX12_gangs 33 = .ok (.iaload, 1) := by decide +kernel
theorem dX12_gangs_34 : decode cX12_gangs 34 = .ok (.i2l, 1) := by decide +kernel
theorem dX12_gangs_35 : decode cX12_gangs 35 = .ok (.invokestatic 180, 3) := by decide +kernel
theorem dX12_gangs_38 : decode cX12_gangs 38 = .ok (.ifCond .ne 5, 3) := by decide +kernel
theorem dX12_gangs_43 : decode cX12_gangs 43 = .ok (.iconst 0, 1) := by decide +kernel
theorem dX12_gangs_44 : decode cX12_gangs 44 = .ok (.istore 4, 2) := by decide +kernel
theorem dX12_gangs_46 : decode cX12_gangs 46 = .ok (.iconst 0, 1) := by decide +kernel
theorem dX12_gangs_47 : decode cX12_gangs 47 = .ok (.istore 5, 2) := by decide +kernel
theorem dX12_gangs_49 : decode cX12_gangs 49 = .ok (.iload 5, 2) := by decide +kernel
theorem dX12_gangs_51 : decode cX12_gangs 51 = .ok (.bipush 40, 2) := by decide +kernel
theorem dX12_gangs_53 : decode cX12_gangs 53 = .ok (.if_icmp .ge 30, 3) := by decide +kernel
theorem dX12_gangs_56 : decode cX12_gangs 56 = .ok (.lload_n 1, 1) := by decide +kernel
theorem dX12_gangs_57 : decode cX12_gangs 57 = .ok (.iload 5, 2) := by decide +kernel
theorem dX12_gangs_59 : decode cX12_gangs 59 = .ok (.invokestatic 159, 3) := by decide +kernel
theorem dX12_gangs_62 : decode cX12_gangs 62 = .ok (.ifCond .eq 15, 3) := by decide +kernel
theorem dX12_gangs_77 : decode cX12_gangs 77 = .ok (.iinc 5 1, 3) := by decide +kernel
theorem dX12_gangs_80 : decode cX12_gangs 80 = .ok (.goto (-31), 3) := by decide +kernel
theorem dX12_gangs_65 : decode cX12_gangs 65 = .ok (.aload_n 0, 1) := by decide +kernel
theorem dX12_gangs_66 : decode cX12_gangs 66 = .ok (.getfield 115, 3) := by decide +kernel
theorem dX12_gangs_69 : decode cX12_gangs 69 = .ok (.iload 4, 2) := by decide +kernel
theorem dX12_gangs_71 : decode cX12_gangs 71 = .ok (.iload 5, 2) := by decide +kernel
theorem dX12_gangs_73 : decode cX12_gangs 73 = .ok (.iastore, 1) := by decide +kernel
theorem dX12_gangs_74 : decode cX12_gangs 74 = .ok (.iinc 4 1, 3) := by decide +kernel
theorem dX12_gangs_83 : decode cX12_gangs 83 = .ok (.iconst 0, 1) := by decide +kernel
theorem dX12_gangs_84 : decode cX12_gangs 84 = .ok (.istore 5, 2) := by decide +kernel
theorem dX12_gangs_86 : decode cX12_gangs 86 = .ok (.iload 5, 2) := by decide +kernel
theorem dX12_gangs_88 : decode cX12_gangs 88 = .ok (.aload_n 0, 1) := by decide +kernel
theorem dX12_gangs_89 : decode cX12_gangs 89 = .ok (.getfield 13, 3) := by decide +kernel
theorem dX12_gangs_92 : decode cX12_gangs 92 = .ok (.iconst 0, 1) := by decide +kernel
theorem dX12_gangs_93 : decode cX12_gangs 93 = .ok (.iaload, 1) := by decide +kernel
theorem dX12_gangs_94 : decode cX12_gangs 94 = .ok (.if_icmp .ge 51, 3) := by decide +kernel
theorem dX12_gangs_97 : decode cX12_gangs 97 = .ok (.iconst 0, 1) := by decide +kernel
theorem dX12_gangs_98 : decode cX12_gangs 98 = .ok (.istore 6, 2) := by decide +kernel
theorem dX12_gangs_100 : decode cX12_gangs 100 = .ok (.iload 6, 2) := by decide +kernel
theorem dX12_gangs_102 : decode cX12_gangs 102 = .ok (.iload 4, 2) := by decide +kernel
theorem dX12_gangs_104 : decode cX12_gangs 104 = .ok (.if_icmp .ge 35, 3) := by decide +kernel
theorem dX12_gangs_107 : decode cX12_gangs 107 = .ok (.aload_n 0, 1) := by decide +kernel
theorem dX12_gangs_108 : decode cX12_gangs 108 = .ok (.getfield 118, 3) := by decide +kernel
theorem dX12_gangs_111 : decode cX12_gangs 111 = .ok (.bipush 6, 2) := by decide +kernel
theorem dX12_gangs_113 : decode cX12_gangs 113 = .ok (.iload 5, 2) := by decide +kernel
theorem dX12_gangs_115 : decode cX12_gangs 115 = .ok (.imul, 1) := by decide +kernel
theorem dX12_gangs_116 : decode cX12_gangs 116 = .ok (.iload 6, 2) := by decide +kernel
theorem dX12_gangs_118 : decode cX12_gangs 118 = .ok (.iadd, 1) := by decide +kernel
theorem dX12_gangs_119 : decode cX12_gangs 119 = .ok (.aload_n 0, 1) := by decide +kernel
theorem dX12_gangs_120 : decode cX12_gangs 120 = .ok (.iload 5, 2) := by decide +kernel
theorem dX12_gangs_122 : decode cX12_gangs 122 = .ok (.aload_n 0, 1) := by decide +kernel
theorem dX12_gangs_123 : decode cX12_gangs 123 = .ok (.getfield 115, 3) := by decide +kernel
theorem dX12_gangs_126 : decode cX12_gangs 126 = .ok (.iload 6, 2) := by decide +kernel
theorem dX12_gangs_128 : decode cX12_gangs 128 = .ok (.iaload, 1) := by decide +kernel
theorem dX12_gangs_129 : decode cX12_gangs 129 = .ok (.invokevirtual 510, 3) := by decide +kernel
theorem lk_RX12_510 : Cond.methodLink RX12 510 yX12_findDown ∈ gW := gW_u tb_8 193 (by rfl) (by decide +kernel)
theorem mI_X12_findDown : Cond.instanceMethod yX12_findDown ∈ gW := gW_u tb_8 195 (by rfl) (by decide +kernel)
theorem mS_X12_findDown : Cond.selects RX12 yX12_findDown yX12_findDown ∈ gW := gW_p (q := (yX12_findDown, 59)) 102 (by decide +kernel)
theorem mC_X12_findDown : Cond.code yX12_findDown cX12_findDown 7 (some .int) ∈ gW := gW_u tb_8 196 (by rfl) (by decide +kernel)
theorem ok_X12_findDown : okD yX12_findDown 2 := ⟨by decide +kernel, by decide +kernel, by decide +kernel⟩
theorem dX12_gangs_132 : decode cX12_gangs 132 = .ok (.iastore, 1) := by decide +kernel
theorem dX12_gangs_133 : decode cX12_gangs 133 = .ok (.iinc 6 1, 3) := by decide +kernel
theorem dX12_gangs_136 : decode cX12_gangs 136 = .ok (.goto (-36), 3) := by decide +kernel
theorem dX12_gangs_139 : decode cX12_gangs 139 = .ok (.iinc 5 1, 3) := by decide +kernel
theorem dX12_gangs_142 : decode cX12_gangs 142 = .ok (.goto (-56), 3) := by decide +kernel
theorem dX12_gangs_145 : decode cX12_gangs 145 = .ok (.aload_n 0, 1) := by decide +kernel
theorem dX12_gangs_146 : decode cX12_gangs 146 = .ok (.iload 4, 2) := by decide +kernel
theorem dX12_gangs_148 : decode cX12_gangs 148 = .ok (.invokevirtual 531, 3) := by decide +kernel
theorem lk_RX12_531 : Cond.methodLink RX12 531 yX12_findGangs ∈ gW := gW_u tb_8 214 (by rfl) (by decide +kernel)
theorem mI_X12_findGangs : Cond.instanceMethod yX12_findGangs ∈ gW := gW_u tb_8 216 (by rfl) (by decide +kernel)
theorem mS_X12_findGangs : Cond.selects RX12 yX12_findGangs yX12_findGangs ∈ gW := gW_p (q := (yX12_findGangs, 59)) 105 (by decide +kernel)
theorem mC_X12_findGangs : Cond.code yX12_findGangs cX12_findGangs 4 none ∈ gW := gW_u tb_8 217 (by rfl) (by decide +kernel)
theorem ok_X12_findGangs : okD yX12_findGangs 1 := ⟨by decide +kernel, by decide +kernel, by decide +kernel⟩
theorem dX12_gangs_151 : decode cX12_gangs 151 = .ok (.aload_n 0, 1) := by decide +kernel
theorem dX12_gangs_152 : decode cX12_gangs 152 = .ok (.getfield 516, 3) := by decide +kernel
theorem dX12_gangs_155 : decode cX12_gangs 155 = .ok (.ldc_w 505, 3) := by decide +kernel
theorem dX12_gangs_158 : decode cX12_gangs 158 = .ok (.if_icmp .ne 7, 3) := by decide +kernel
theorem dX12_gangs_165 : decode cX12_gangs 165 = .ok (.iload_n 3, 1) := by decide +kernel
theorem dX12_gangs_166 : decode cX12_gangs 166 = .ok (.ifCond .ne 10, 3) := by decide +kernel
theorem dX12_gangs_176 : decode cX12_gangs 176 = .ok (.aload_n 0, 1) := by decide +kernel
theorem dX12_gangs_177 : decode cX12_gangs 177 = .ok (.getfield 124, 3) := by decide +kernel
theorem dX12_gangs_180 : decode cX12_gangs 180 = .ok (.iload_n 3, 1) := by decide +kernel
theorem dX12_gangs_181 : decode cX12_gangs 181 = .ok (.iconst 1, 1) := by decide +kernel
theorem dX12_gangs_182 : decode cX12_gangs 182 = .ok (.isub, 1) := by decide +kernel
theorem dX12_gangs_183 : decode cX12_gangs 183 = .ok (.iaload, 1) := by decide +kernel
theorem dX12_gangs_184 : decode cX12_gangs 184 = .ok (.ireturn, 1) := by decide +kernel
theorem dX12_gangs_169 : decode cX12_gangs 169 = .ok (.aload_n 0, 1) := by decide +kernel
theorem dX12_gangs_170 : decode cX12_gangs 170 = .ok (.getfield 516, 3) := by decide +kernel
theorem dX12_gangs_173 : decode cX12_gangs 173 = .ok (.goto 11, 3) := by decide +kernel
theorem dX12_gangs_161 : decode cX12_gangs 161 = .ok (.iconst (-1), 1) := by decide +kernel
theorem dX12_gangs_162 : decode cX12_gangs 162 = .ok (.goto 22, 3) := by decide +kernel
def yX12_quiet : MethodName := ⟨RX12, "quiet", "(III)I"⟩
abbrev cX12_quiet : ByteArray := prog_14_method_108_code
theorem dX12_quiet_0 : decode cX12_quiet 0 = .ok (.aload_n 0, 1) := by decide +kernel
theorem dX12_quiet_1 : decode cX12_quiet 1 = .ok (.iconst 0, 1) := by decide +kernel
theorem dX12_quiet_2 : decode cX12_quiet 2 = .ok (.putfield 156, 3) := by decide +kernel
theorem dX12_quiet_5 : decode cX12_quiet 5 = .ok (.iload_n 1, 1) := by decide +kernel
theorem dX12_quiet_6 : decode cX12_quiet 6 = .ok (.i2l, 1) := by decide +kernel
theorem dX12_quiet_7 : decode cX12_quiet 7 = .ok (.lconst 0, 1) := by decide +kernel
theorem dX12_quiet_8 : decode cX12_quiet 8 = .ok (.lconst 1, 1) := by decide +kernel
theorem dX12_quiet_9 : decode cX12_quiet 9 = .ok (.aload_n 0, 1) := by decide +kernel
theorem dX12_quiet_10 : decode cX12_quiet 10 = .ok (.getfield 13, 3) := by decide +kernel
theorem dX12_quiet_13 : decode cX12_quiet 13 = .ok (.iconst 1, 1) := by decide +kernel
theorem dX12_quiet_14 : decode cX12_quiet 14 = .ok (.iaload, 1) := by decide +kernel
theorem dX12_quiet_15 : decode cX12_quiet 15 = .ok (.lshl, 1) := by decide +kernel
theorem dX12_quiet_16 : decode cX12_quiet 16 = .ok (.lconst 1, 1) := by decide +kernel
theorem dX12_quiet_17 : decode cX12_quiet 17 = .ok (.lsub, 1) := by decide +kernel
theorem dX12_quiet_18 : decode cX12_quiet 18 = .ok (.invokestatic 180, 3) := by decide +kernel
theorem dX12_quiet_21 : decode cX12_quiet 21 = .ok (.ifCond .eq 33, 3) := by decide +kernel
theorem dX12_quiet_54 : decode cX12_quiet 54 = .ok (.iconst (-1), 1) := by decide +kernel
theorem dX12_quiet_55 : decode cX12_quiet 55 = .ok (.ireturn, 1) := by decide +kernel
theorem dX12_quiet_24 : decode cX12_quiet 24 = .ok (.iload_n 2, 1) := by decide +kernel
theorem dX12_quiet_25 : decode cX12_quiet 25 = .ok (.invokestatic 197, 3) := by decide +kernel
theorem dX12_quiet_28 : decode cX12_quiet 28 = .ok (.ifCond .eq 26, 3) := by decide +kernel
theorem dX12_quiet_31 : decode cX12_quiet 31 = .ok (.aload_n 0, 1) := by decide +kernel
theorem dX12_quiet_32 : decode cX12_quiet 32 = .ok (.getfield 13, 3) := by decide +kernel
theorem dX12_quiet_35 : decode cX12_quiet 35 = .ok (.bipush 113, 2) := by decide +kernel
theorem dX12_quiet_37 : decode cX12_quiet 37 = .ok (.iload_n 2, 1) := by decide +kernel
theorem dX12_quiet_38 : decode cX12_quiet 38 = .ok (.iadd, 1) := by decide +kernel
theorem dX12_quiet_39 : decode cX12_quiet 39 = .ok (.iaload, 1) := by decide +kernel
theorem dX12_quiet_40 : decode cX12_quiet 40 = .ok (.iconst 3, 1) := by decide +kernel
theorem dX12_quiet_41 : decode cX12_quiet 41 = .ok (.if_icmp .ne 13, 3) := by decide +kernel
theorem dX12_quiet_44 : decode cX12_quiet 44 = .ok (.iload_n 3, 1) := by decide +kernel
theorem dX12_quiet_45 : decode cX12_quiet 45 = .ok (.i2l, 1) := by decide +kernel
theorem dX12_quiet_46 : decode cX12_quiet 46 = .ok (.lconst 0, 1) := by decide +kernel
theorem dX12_quiet_47 : decode cX12_quiet 47 = .ok (.lconst 1, 1) := by decide +kernel
theorem dX12_quiet_48 : decode cX12_quiet 48 = .ok (.invokestatic 180, 3) := by decide +kernel
theorem dX12_quiet_51 : decode cX12_quiet 51 = .ok (.ifCond .ne 5, 3) := by decide +kernel
theorem dX12_quiet_56 : decode cX12_quiet 56 = .ok (.ldc_w 505, 3) := by decide +kernel
theorem dX12_quiet_59 : decode cX12_quiet 59 = .ok (.istore 4, 2) := by decide +kernel
theorem dX12_quiet_61 : decode cX12_quiet 61 = .ok (.iconst (-1), 1) := by decide +kernel
theorem dX12_quiet_62 : decode cX12_quiet 62 = .ok (.istore 5, 2) := by decide +kernel
theorem dX12_quiet_64 : decode cX12_quiet 64 = .ok (.iconst 0, 1) := by decide +kernel
theorem dX12_quiet_65 : decode cX12_quiet 65 = .ok (.istore 6, 2) := by decide +kernel
theorem dX12_quiet_67 : decode cX12_quiet 67 = .ok (.iload 6, 2) := by decide +kernel
theorem dX12_quiet_69 : decode cX12_quiet 69 = .ok (.iconst 1, 1) := by decide +kernel
theorem dX12_quiet_70 : decode cX12_quiet 70 = .ok (.aload_n 0, 1) := by decide +kernel
theorem dX12_quiet_71 : decode cX12_quiet 71 = .ok (.getfield 13, 3) := by decide +kernel
theorem dX12_quiet_74 : decode cX12_quiet 74 = .ok (.iconst 2, 1) := by decide +kernel
theorem dX12_quiet_75 : decode cX12_quiet 75 = .ok (.iaload, 1) := by decide +kernel
theorem dX12_quiet_76 : decode cX12_quiet 76 = .ok (.ishl, 1) := by decide +kernel
theorem dX12_quiet_77 : decode cX12_quiet 77 = .ok (.if_icmp .ge 169, 3) := by decide +kernel
theorem dX12_quiet_80 : decode cX12_quiet 80 = .ok (.iload 6, 2) := by decide +kernel
theorem dX12_quiet_82 : decode cX12_quiet 82 = .ok (.i2l, 1) := by decide +kernel
theorem dX12_quiet_83 : decode cX12_quiet 83 = .ok (.invokestatic 527, 3) := by decide +kernel
theorem dX12_quiet_86 : decode cX12_quiet 86 = .ok (.iload 4, 2) := by decide +kernel
theorem dX12_quiet_88 : decode cX12_quiet 88 = .ok (.if_icmp .ge 7, 3) := by decide +kernel
theorem dX12_quiet_95 : decode cX12_quiet 95 = .ok (.iconst 0, 1) := by decide +kernel
theorem dX12_quiet_91 : decode cX12_quiet 91 = .ok (.iconst 1, 1) := by decide +kernel
theorem dX12_quiet_92 : decode cX12_quiet 92 = .ok (.goto 4, 3) := by decide +kernel
theorem dX12_quiet_96 : decode cX12_quiet 96 = .ok (.istore 7, 2) := by decide +kernel
theorem dX12_quiet_98 : decode cX12_quiet 98 = .ok (.iconst 0, 1) := by decide +kernel
theorem dX12_quiet_99 : decode cX12_quiet 99 = .ok (.istore 8, 2) := by decide +kernel
theorem dX12_quiet_101 : decode cX12_quiet 101 = .ok (.iload 8, 2) := by decide +kernel
theorem dX12_quiet_103 : decode cX12_quiet 103 = .ok (.aload_n 0, 1) := by decide +kernel
theorem dX12_quiet_104 : decode cX12_quiet 104 = .ok (.getfield 13, 3) := by decide +kernel
theorem dX12_quiet_107 : decode cX12_quiet 107 = .ok (.iconst 2, 1) := by decide +kernel
theorem dX12_quiet_108 : decode cX12_quiet 108 = .ok (.iaload, 1) := by decide +kernel
theorem dX12_quiet_109 : decode cX12_quiet 109 = .ok (.if_icmp .ge 45, 3) := by decide +kernel
theorem dX12_quiet_112 : decode cX12_quiet 112 = .ok (.iload 7, 2) := by decide +kernel
theorem dX12_quiet_114 : decode cX12_quiet 114 = .ok (.ifCond .eq 40, 3) := by decide +kernel
theorem dX12_quiet_117 : decode cX12_quiet 117 = .ok (.iload 6, 2) := by decide +kernel
theorem dX12_quiet_119 : decode cX12_quiet 119 = .ok (.i2l, 1) := by decide +kernel
theorem dX12_quiet_120 : decode cX12_quiet 120 = .ok (.iload 8, 2) := by decide +kernel
theorem dX12_quiet_122 : decode cX12_quiet 122 = .ok (.invokestatic 159, 3) := by decide +kernel
theorem dX12_quiet_125 : decode cX12_quiet 125 = .ok (.ifCond .eq 16, 3) := by decide +kernel
theorem dX12_quiet_141 : decode cX12_quiet 141 = .ok (.iconst 1, 1) := by decide +kernel
theorem dX12_quiet_142 : decode cX12_quiet 142 = .ok (.goto 4, 3) := by decide +kernel
theorem dX12_quiet_146 : decode cX12_quiet 146 = .ok (.istore 7, 2) := by decide +kernel
theorem dX12_quiet_148 : decode cX12_quiet 148 = .ok (.iinc 8 1, 3) := by decide +kernel
theorem dX12_quiet_151 : decode cX12_quiet 151 = .ok (.goto (-50), 3) := by decide +kernel
theorem dX12_quiet_128 : decode cX12_quiet 128 = .ok (.aload_n 0, 1) := by decide +kernel
theorem dX12_quiet_129 : decode cX12_quiet 129 = .ok (.getfield 13, 3) := by decide +kernel
theorem dX12_quiet_132 : decode cX12_quiet 132 = .ok (.bipush 22, 2) := by decide +kernel
theorem dX12_quiet_134 : decode cX12_quiet 134 = .ok (.iload 8, 2) := by decide +kernel
theorem dX12_quiet_136 : decode cX12_quiet 136 = .ok (.iadd, 1) := by decide +kernel
theorem dX12_quiet_137 : decode cX12_quiet 137 = .ok (.iaload, 1) := by decide +kernel
theorem dX12_quiet_138 : decode cX12_quiet 138 = .ok (.ifCond .ne 7, 3) := by decide +kernel
theorem dX12_quiet_145 : decode cX12_quiet 145 = .ok (.iconst 0, 1) := by decide +kernel
theorem dX12_quiet_154 : decode cX12_quiet 154 = .ok (.iconst 0, 1) := by decide +kernel
theorem dX12_quiet_155 : decode cX12_quiet 155 = .ok (.istore 8, 2) := by decide +kernel
theorem dX12_quiet_157 : decode cX12_quiet 157 = .ok (.iload 8, 2) := by decide +kernel
theorem dX12_quiet_159 : decode cX12_quiet 159 = .ok (.aload_n 0, 1) := by decide +kernel
theorem dX12_quiet_160 : decode cX12_quiet 160 = .ok (.getfield 13, 3) := by decide +kernel
theorem dX12_quiet_163 : decode cX12_quiet 163 = .ok (.iconst 1, 1) := by decide +kernel
theorem dX12_quiet_164 : decode cX12_quiet 164 = .ok (.iaload, 1) := by decide +kernel
theorem dX12_quiet_165 : decode cX12_quiet 165 = .ok (.if_icmp .ge 43, 3) := by decide +kernel
theorem dX12_quiet_168 : decode cX12_quiet 168 = .ok (.iload 7, 2) := by decide +kernel
theorem dX12_quiet_170 : decode cX12_quiet 170 = .ok (.ifCond .eq 38, 3) := by decide +kernel
theorem dX12_quiet_173 : decode cX12_quiet 173 = .ok (.iload_n 1, 1) := by decide +kernel
theorem dX12_quiet_174 : decode cX12_quiet 174 = .ok (.i2l, 1) := by decide +kernel
theorem dX12_quiet_175 : decode cX12_quiet 175 = .ok (.iload 8, 2) := by decide +kernel
theorem dX12_quiet_177 : decode cX12_quiet 177 = .ok (.invokestatic 159, 3) := by decide +kernel
theorem dX12_quiet_180 : decode cX12_quiet 180 = .ok (.ifCond .eq 15, 3) := by decide +kernel
theorem dX12_quiet_195 : decode cX12_quiet 195 = .ok (.iconst 1, 1) := by decide +kernel
theorem dX12_quiet_196 : decode cX12_quiet 196 = .ok (.goto 4, 3) := by decide +kernel
theorem dX12_quiet_200 : decode cX12_quiet 200 = .ok (.istore 7, 2) := by decide +kernel
theorem dX12_quiet_202 : decode cX12_quiet 202 = .ok (.iinc 8 1, 3) := by decide +kernel
theorem dX12_quiet_205 : decode cX12_quiet 205 = .ok (.goto (-48), 3) := by decide +kernel
theorem dX12_quiet_183 : decode cX12_quiet 183 = .ok (.aload_n 0, 1) := by decide +kernel
theorem dX12_quiet_184 : decode cX12_quiet 184 = .ok (.iload 8, 2) := by decide +kernel
theorem dX12_quiet_186 : decode cX12_quiet 186 = .ok (.iload_n 2, 1) := by decide +kernel
theorem dX12_quiet_187 : decode cX12_quiet 187 = .ok (.iload 6, 2) := by decide +kernel
theorem dX12_quiet_189 : decode cX12_quiet 189 = .ok (.invokevirtual 464, 3) := by decide +kernel
theorem dX12_quiet_192 : decode cX12_quiet 192 = .ok (.ifCond .eq 7, 3) := by decide +kernel
theorem dX12_quiet_199 : decode cX12_quiet 199 = .ok (.iconst 0, 1) := by decide +kernel
theorem dX12_quiet_208 : decode cX12_quiet 208 = .ok (.iload 7, 2) := by decide +kernel
theorem dX12_quiet_210 : decode cX12_quiet 210 = .ok (.ifCond .eq 8, 3) := by decide +kernel
theorem dX12_quiet_218 : decode cX12_quiet 218 = .ok (.iload 5, 2) := by decide +kernel
theorem dX12_quiet_213 : decode cX12_quiet 213 = .ok (.iload 6, 2) := by decide +kernel
theorem dX12_quiet_215 : decode cX12_quiet 215 = .ok (.goto 5, 3) := by decide +kernel
theorem dX12_quiet_220 : decode cX12_quiet 220 = .ok (.istore 5, 2) := by decide +kernel
theorem dX12_quiet_222 : decode cX12_quiet 222 = .ok (.iload 7, 2) := by decide +kernel
theorem dX12_quiet_224 : decode cX12_quiet 224 = .ok (.ifCond .eq 12, 3) := by decide +kernel
theorem dX12_quiet_236 : decode cX12_quiet 236 = .ok (.iload 4, 2) := by decide +kernel
theorem dX12_quiet_238 : decode cX12_quiet 238 = .ok (.istore 4, 2) := by decide +kernel
theorem dX12_quiet_240 : decode cX12_quiet 240 = .ok (.iinc 6 1, 3) := by decide +kernel
theorem dX12_quiet_243 : decode cX12_quiet 243 = .ok (.goto (-176), 3) := by decide +kernel
theorem dX12_quiet_227 : decode cX12_quiet 227 = .ok (.iload 6, 2) := by decide +kernel
theorem dX12_quiet_229 : decode cX12_quiet 229 = .ok (.i2l, 1) := by decide +kernel
theorem dX12_quiet_230 : decode cX12_quiet 230 = .ok (.invokestatic 527, 3) := by decide +kernel
theorem dX12_quiet_233 : decode cX12_quiet 233 = .ok (.goto 5, 3) := by decide +kernel
theorem dX12_quiet_246 : decode cX12_quiet 246 = .ok (.iload 5, 2) := by decide +kernel
theorem dX12_quiet_248 : decode cX12_quiet 248 = .ok (.iconst (-1), 1) := by decide +kernel
theorem dX12_quiet_249 : decode cX12_quiet 249 = .ok (.if_icmp .eq 8, 3) := by decide +kernel
theorem dX12_quiet_257 : decode cX12_quiet 257 = .ok (.iload 5, 2) := by decide +kernel
theorem dX12_quiet_259 : decode cX12_quiet 259 = .ok (.goto 5, 3) := by decide +kernel
theorem dX12_quiet_264 : decode cX12_quiet 264 = .ok (.ireturn, 1) := by decide +kernel
theorem dX12_quiet_252 : decode cX12_quiet 252 = .ok (.iload_n 3, 1) := by decide +kernel
theorem dX12_quiet_253 : decode cX12_quiet 253 = .ok (.iconst 1, 1) := by decide +kernel
theorem dX12_quiet_254 : decode cX12_quiet 254 = .ok (.if_icmp .ne 8, 3) := by decide +kernel
theorem dX12_quiet_262 : decode cX12_quiet 262 = .ok (.iload 4, 2) := by decide +kernel
