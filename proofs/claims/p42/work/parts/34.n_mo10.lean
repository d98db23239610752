def yX12_forget : MethodName := ⟨RX12, "forget", "()I"⟩
abbrev cX12_forget : ByteArray := prog_14_method_110_code
theorem dX12_forget_0 : decode cX12_forget 0 = .ok (.aload_n 0, 1) := by decide +kernel
theorem dX12_forget_1 : decode cX12_forget 1 = .ok (.iconst 0, 1) := by decide +kernel
theorem dX12_forget_2 : decode cX12_forget 2 = .ok (.putfield 156, 3) := by decide +kernel
theorem dX12_forget_5 : decode cX12_forget 5 = .ok (.aload_n 0, 1) := by decide +kernel
theorem dX12_forget_6 : decode cX12_forget 6 = .ok (.getfield 13, 3) := by decide +kernel
theorem dX12_forget_9 : decode cX12_forget 9 = .ok (.iconst 3, 1) := by decide +kernel
theorem dX12_forget_10 : decode cX12_forget 10 = .ok (.iaload, 1) := by decide +kernel
theorem dX12_forget_11 : decode cX12_forget 11 = .ok (.aload_n 0, 1) := by decide +kernel
theorem dX12_forget_12 : decode cX12_forget 12 = .ok (.getfield 13, 3) := by decide +kernel
theorem dX12_forget_15 : decode cX12_forget 15 = .ok (.iconst 4, 1) := by decide +kernel
theorem dX12_forget_16 : decode cX12_forget 16 = .ok (.iaload, 1) := by decide +kernel
theorem dX12_forget_17 : decode cX12_forget 17 = .ok (.iadd, 1) := by decide +kernel
theorem dX12_forget_18 : decode cX12_forget 18 = .ok (.istore_n 1, 1) := by decide +kernel
theorem dX12_forget_19 : decode cX12_forget 19 = .ok (.aload_n 0, 1) := by decide +kernel
theorem dX12_forget_20 : decode cX12_forget 20 = .ok (.getfield 13, 3) := by decide +kernel
theorem dX12_forget_23 : decode cX12_forget 23 = .ok (.iconst 3, 1) := by decide +kernel
theorem dX12_forget_24 : decode cX12_forget 24 = .ok (.iconst 0, 1) := by decide +kernel
theorem dX12_forget_25 : decode cX12_forget 25 = .ok (.iastore, 1) := by decide +kernel
theorem dX12_forget_26 : decode cX12_forget 26 = .ok (.aload_n 0, 1) := by decide +kernel
theorem dX12_forget_27 : decode cX12_forget 27 = .ok (.getfield 13, 3) := by decide +kernel
theorem dX12_forget_30 : decode cX12_forget 30 = .ok (.iconst 4, 1) := by decide +kernel
theorem dX12_forget_31 : decode cX12_forget 31 = .ok (.iconst 0, 1) := by decide +kernel
theorem dX12_forget_32 : decode cX12_forget 32 = .ok (.iastore, 1) := by decide +kernel
theorem dX12_forget_33 : decode cX12_forget 33 = .ok (.iload_n 1, 1) := by decide +kernel
theorem dX12_forget_34 : decode cX12_forget 34 = .ok (.ireturn, 1) := by decide +kernel
def yX12_soundOf : MethodName := ⟨RX12, "soundOf", "(II)I"⟩
abbrev cX12_soundOf : ByteArray := prog_14_method_111_code
theorem dX12_soundOf_0 : decode cX12_soundOf 0 = .ok (.aload_n 0, 1) := by decide +kernel
theorem dX12_soundOf_1 : decode cX12_soundOf 1 = .ok (.iload_n 1, 1) := by decide +kernel
theorem dX12_soundOf_2 : decode cX12_soundOf 2 = .ok (.iconst 3, 1) := by decide +kernel
theorem dX12_soundOf_3 : decode cX12_soundOf 3 = .ok (.iload_n 2, 1) := by decide +kernel
theorem dX12_soundOf_4 : decode cX12_soundOf 4 = .ok (.invokevirtual 456, 3) := by decide +kernel
theorem dX12_soundOf_7 : decode cX12_soundOf 7 = .ok (.i2l, 1) := by decide +kernel
theorem dX12_soundOf_8 : decode cX12_soundOf 8 = .ok (.iconst 0, 1) := by decide +kernel
theorem dX12_soundOf_9 : decode cX12_soundOf 9 = .ok (.bipush 99, 2) := by decide +kernel
theorem dX12_soundOf_11 : decode cX12_soundOf 11 = .ok (.invokestatic 438, 3) := by decide +kernel
theorem dX12_soundOf_14 : decode cX12_soundOf 14 = .ok (.ireturn, 1) := by decide +kernel
def yX12_isHidden : MethodName := ⟨RX12, "isHidden", "(I)Z"⟩
abbrev cX12_isHidden : ByteArray := prog_14_method_112_code
theorem dX12_isHidden_0 : decode cX12_isHidden 0 = .ok (.aload_n 0, 1) := by decide +kernel
theorem dX12_isHidden_1 : decode cX12_isHidden 1 = .ok (.getfield 13, 3) := by decide +kernel
theorem dX12_isHidden_4 : decode cX12_isHidden 4 = .ok (.bipush 113, 2) := by decide +kernel
theorem dX12_isHidden_6 : decode cX12_isHidden 6 = .ok (.iload_n 1, 1) := by decide +kernel
theorem dX12_isHidden_7 : decode cX12_isHidden 7 = .ok (.iadd, 1) := by decide +kernel
theorem dX12_isHidden_8 : decode cX12_isHidden 8 = .ok (.iaload, 1) := by decide +kernel
theorem dX12_isHidden_9 : decode cX12_isHidden 9 = .ok (.iconst 3, 1) := by decide +kernel
theorem dX12_isHidden_10 : decode cX12_isHidden 10 = .ok (.if_icmp .eq 19, 3) := by decide +kernel
theorem dX12_isHidden_29 : decode cX12_isHidden 29 = .ok (.iconst 0, 1) := by decide +kernel
theorem dX12_isHidden_30 : decode cX12_isHidden 30 = .ok (.istore_n 2, 1) := by decide +kernel
theorem dX12_isHidden_31 : decode cX12_isHidden 31 = .ok (.iconst 0, 1) := by decide +kernel
theorem dX12_isHidden_32 : decode cX12_isHidden 32 = .ok (.istore_n 3, 1) := by decide +kernel
theorem dX12_isHidden_33 : decode cX12_isHidden 33 = .ok (.iload_n 3, 1) := by decide +kernel
theorem dX12_isHidden_34 : decode cX12_isHidden 34 = .ok (.aload_n 0, 1) := by decide +kernel
theorem dX12_isHidden_35 : decode cX12_isHidden 35 = .ok (.getfield 13, 3) := by decide +kernel
theorem dX12_isHidden_38 : decode cX12_isHidden 38 = .ok (.iconst 3, 1) := by decide +kernel
theorem dX12_isHidden_39 : decode cX12_isHidden 39 = .ok (.iaload, 1) := by decide +kernel
theorem dX12_isHidden_40 : decode cX12_isHidden 40 = .ok (.if_icmp .ge 53, 3) := by decide +kernel
theorem dX12_isHidden_43 : decode cX12_isHidden 43 = .ok (.iload_n 2, 1) := by decide +kernel
theorem dX12_isHidden_44 : decode cX12_isHidden 44 = .ok (.ifCond .eq 49, 3) := by decide +kernel
theorem dX12_isHidden_47 : decode cX12_isHidden 47 = .ok (.aload_n 0, 1) := by decide +kernel
theorem dX12_isHidden_48 : decode cX12_isHidden 48 = .ok (.iload_n 1, 1) := by decide +kernel
theorem dX12_isHidden_49 : decode cX12_isHidden 49 = .ok (.aload_n 0, 1) := by decide +kernel
theorem dX12_isHidden_50 : decode cX12_isHidden 50 = .ok (.getfield 13, 3) := by decide +kernel
theorem dX12_isHidden_53 : decode cX12_isHidden 53 = .ok (.sipush 210, 3) := by decide +kernel
theorem dX12_isHidden_56 : decode cX12_isHidden 56 = .ok (.iconst 2, 1) := by decide +kernel
theorem dX12_isHidden_57 : decode cX12_isHidden 57 = .ok (.iload_n 3, 1) := by decide +kernel
theorem dX12_isHidden_58 : decode cX12_isHidden 58 = .ok (.imul, 1) := by decide +kernel
theorem dX12_isHidden_59 : decode cX12_isHidden 59 = .ok (.iadd, 1) := by decide +kernel
theorem dX12_isHidden_60 : decode cX12_isHidden 60 = .ok (.iaload, 1) := by decide +kernel
theorem dX12_isHidden_61 : decode cX12_isHidden 61 = .ok (.invokevirtual 534, 3) := by decide +kernel
theorem lk_RX12_534 : Cond.methodLink RX12 534 yX12_soundOf ∈ gW := gW_t 1926 (by decide +kernel) rfl
theorem mI_X12_soundOf : Cond.instanceMethod yX12_soundOf ∈ gW := gW_t 1928 (by decide +kernel) rfl
theorem mS_X12_soundOf : Cond.selects RX12 yX12_soundOf yX12_soundOf ∈ gW := gW_p (q := (yX12_soundOf, 59)) 109 (by decide +kernel)
theorem mC_X12_soundOf : Cond.code yX12_soundOf cX12_soundOf 3 (some .int) ∈ gW := gW_t 1929 (by decide +kernel) rfl
theorem ok_X12_soundOf : okD yX12_soundOf 2 := ⟨by decide +kernel, by decide +kernel, by decide +kernel⟩
theorem dX12_isHidden_64 : decode cX12_isHidden 64 = .ok (.aload_n 0, 1) := by decide +kernel
theorem dX12_isHidden_65 : decode cX12_isHidden 65 = .ok (.getfield 13, 3) := by decide +kernel
theorem dX12_isHidden_68 : decode cX12_isHidden 68 = .ok (.sipush 210, 3) := by decide +kernel
theorem dX12_isHidden_71 : decode cX12_isHidden 71 = .ok (.iconst 2, 1) := by decide +kernel
theorem dX12_isHidden_72 : decode cX12_isHidden 72 = .ok (.iload_n 3, 1) := by decide +kernel
theorem dX12_isHidden_73 : decode cX12_isHidden 73 = .ok (.imul, 1) := by decide +kernel
theorem dX12_isHidden_74 : decode cX12_isHidden 74 = .ok (.iadd, 1) := by decide +kernel
theorem dX12_isHidden_75 : decode cX12_isHidden 75 = .ok (.iconst 1, 1) := by decide +kernel
theorem dX12_isHidden_76 : decode cX12_isHidden 76 = .ok (.iadd, 1) := by decide +kernel
theorem dX12_isHidden_77 : decode cX12_isHidden 77 = .ok (.iaload, 1) := by decide +kernel
theorem dX12_isHidden_78 : decode cX12_isHidden 78 = .ok (.if_icmp .ne 7, 3) := by decide +kernel
theorem dX12_isHidden_85 : decode cX12_isHidden 85 = .ok (.iconst 0, 1) := by decide +kernel
theorem dX12_isHidden_86 : decode cX12_isHidden 86 = .ok (.istore_n 2, 1) := by decide +kernel
theorem dX12_isHidden_87 : decode cX12_isHidden 87 = .ok (.iinc 3 1, 3) := by decide +kernel
theorem dX12_isHidden_90 : decode cX12_isHidden 90 = .ok (.goto (-57), 3) := by decide +kernel
theorem dX12_isHidden_81 : decode cX12_isHidden 81 = .ok (.iconst 1, 1) := by decide +kernel
theorem dX12_isHidden_82 : decode cX12_isHidden 82 = .ok (.goto 4, 3) := by decide +kernel
theorem dX12_isHidden_93 : decode cX12_isHidden 93 = .ok (.iload_n 2, 1) := by decide +kernel
theorem dX12_isHidden_94 : decode cX12_isHidden 94 = .ok (.ireturn, 1) := by decide +kernel
theorem dX12_isHidden_13 : decode cX12_isHidden 13 = .ok (.aload_n 0, 1) := by decide +kernel
theorem dX12_isHidden_14 : decode cX12_isHidden 14 = .ok (.getfield 13, 3) := by decide +kernel
theorem dX12_isHidden_17 : decode cX12_isHidden 17 = .ok (.bipush 33, 2) := by decide +kernel
theorem dX12_isHidden_19 : decode cX12_isHidden 19 = .ok (.iload_n 1, 1) := by decide +kernel
theorem dX12_isHidden_20 : decode cX12_isHidden 20 = .ok (.iadd, 1) := by decide +kernel
theorem dX12_isHidden_21 : decode cX12_isHidden 21 = .ok (.iaload, 1) := by decide +kernel
theorem dX12_isHidden_22 : decode cX12_isHidden 22 = .ok (.ifCond .ne 7, 3) := by decide +kernel
theorem dX12_isHidden_25 : decode cX12_isHidden 25 = .ok (.iconst 1, 1) := by decide +kernel
theorem dX12_isHidden_26 : decode cX12_isHidden 26 = .ok (.goto 4, 3) := by decide +kernel
def yX12_hidden : MethodName := ⟨RX12, "hidden", "()J"⟩
abbrev cX12_hidden : ByteArray := prog_14_method_113_code
theorem dX12_hidden_0 : decode cX12_hidden 0 = .ok (.aload_n 0, 1) := by decide +kernel
theorem dX12_hidden_1 : decode cX12_hidden 1 = .ok (.iconst 0, 1) := by decide +kernel
theorem dX12_hidden_2 : decode cX12_hidden 2 = .ok (.putfield 156, 3) := by decide +kernel
theorem dX12_hidden_5 : decode cX12_hidden 5 = .ok (.lconst 0, 1) := by decide +kernel
theorem dX12_hidden_6 : decode cX12_hidden 6 = .ok (.lstore_n 1, 1) := by decide +kernel
theorem dX12_hidden_7 : decode cX12_hidden 7 = .ok (.iconst 0, 1) := by decide +kernel
theorem dX12_hidden_8 : decode cX12_hidden 8 = .ok (.istore_n 3, 1) := by decide +kernel
theorem dX12_hidden_9 : decode cX12_hidden 9 = .ok (.iload_n 3, 1) := by decide +kernel
theorem dX12_hidden_10 : decode cX12_hidden 10 = .ok (.bipush 40, 2) := by decide +kernel
theorem dX12_hidden_12 : decode cX12_hidden 12 = .ok (.if_icmp .ge 27, 3) := by decide +kernel
theorem dX12_hidden_15 : decode cX12_hidden 15 = .ok (.lload_n 1, 1) := by decide +kernel
theorem dX12_hidden_16 : decode cX12_hidden 16 = .ok (.aload_n 0, 1) := by decide +kernel
theorem dX12_hidden_17 : decode cX12_hidden 17 = .ok (.iload_n 3, 1) := by decide +kernel
theorem dX12_hidden_18 : decode cX12_hidden 18 = .ok (.invokevirtual 537, 3) := by decide +kernel
theorem lk_RX12_537 : Cond.methodLink RX12 537 yX12_isHidden ∈ gW := gW_t 1922 (by decide +kernel) rfl
theorem mI_X12_isHidden : Cond.instanceMethod yX12_isHidden ∈ gW := gW_t 1924 (by decide +kernel) rfl
theorem mS_X12_isHidden : Cond.selects RX12 yX12_isHidden yX12_isHidden ∈ gW := gW_p (q := (yX12_isHidden, 59)) 108 (by decide +kernel)
theorem mC_X12_isHidden : Cond.code yX12_isHidden cX12_isHidden 4 (some .boolean) ∈ gW := gW_t 1925 (by decide +kernel) rfl
theorem ok_X12_isHidden : okD yX12_isHidden 1 := ⟨by decide +kernel, by decide +kernel, by decide +kernel⟩
theorem dX12_hidden_21 : decode cX12_hidden 21 = .ok (.ifCond .eq 9, 3) := by decide +kernel
theorem dX12_hidden_30 : decode cX12_hidden 30 = .ok (.lconst 0, 1) := by decide +kernel
theorem dX12_hidden_31 : decode cX12_hidden 31 = .ok (.lor, 1) := by decide +kernel
theorem dX12_hidden_32 : decode cX12_hidden 32 = .ok (.lstore_n 1, 1) := by decide +kernel
theorem dX12_hidden_33 : decode cX12_hidden 33 = .ok (.iinc 3 1, 3) := by decide +kernel
theorem dX12_hidden_36 : decode cX12_hidden 36 = .ok (.goto (-27), 3) := by decide +kernel
theorem dX12_hidden_24 : decode cX12_hidden 24 = .ok (.lconst 1, 1) := by decide +kernel
theorem dX12_hidden_25 : decode cX12_hidden 25 = .ok (.iload_n 3, 1) := by decide +kernel
theorem dX12_hidden_26 : decode cX12_hidden 26 = .ok (.lshl, 1) := by decide +kernel
theorem dX12_hidden_27 : decode cX12_hidden 27 = .ok (.goto 4, 3) := by decide +kernel
theorem dX12_hidden_39 : decode cX12_hidden 39 = .ok (.lload_n 1, 1) := by decide +kernel
theorem dX12_hidden_40 : decode cX12_hidden 40 = .ok (.lreturn, 1) := by decide +kernel
def yX12_next : MethodName := ⟨RX12, "next", "(I)I"⟩
abbrev cX12_next : ByteArray := prog_14_method_114_code
theorem dX12_next_0 : decode cX12_next 0 = .ok (.aload_n 0, 1) := by decide +kernel
theorem dX12_next_1 : decode cX12_next 1 = .ok (.iconst 0, 1) := by decide +kernel
theorem dX12_next_2 : decode cX12_next 2 = .ok (.putfield 156, 3) := by decide +kernel
theorem dX12_next_5 : decode cX12_next 5 = .ok (.iload_n 1, 1) := by decide +kernel
theorem dX12_next_6 : decode cX12_next 6 = .ok (.i2l, 1) := by decide +kernel
theorem dX12_next_7 : decode cX12_next 7 = .ok (.lconst 0, 1) := by decide +kernel
theorem dX12_next_8 : decode cX12_next 8 = .ok (.lconst 1, 1) := by decide +kernel
theorem dX12_next_9 : decode cX12_next 9 = .ok (.invokestatic 180, 3) := by decide +kernel
theorem dX12_next_12 : decode cX12_next 12 = .ok (.ifCond .ne 5, 3) := by decide +kernel
theorem dX12_next_17 : decode cX12_next 17 = .ok (.ldc_w 505, 3) := by decide +kernel
theorem dX12_next_20 : decode cX12_next 20 = .ok (.istore_n 2, 1) := by decide +kernel
theorem dX12_next_21 : decode cX12_next 21 = .ok (.iconst (-1), 1) := by decide +kernel
theorem dX12_next_22 : decode cX12_next 22 = .ok (.istore_n 3, 1) := by decide +kernel
theorem dX12_next_23 : decode cX12_next 23 = .ok (.iconst 0, 1) := by decide +kernel
theorem dX12_next_24 : decode cX12_next 24 = .ok (.istore 4, 2) := by decide +kernel
theorem dX12_next_26 : decode cX12_next 26 = .ok (.iload 4, 2) := by decide +kernel
theorem dX12_next_28 : decode cX12_next 28 = .ok (.bipush 8, 2) := by decide +kernel
theorem dX12_next_30 : decode cX12_next 30 = .ok (.if_icmp .ge 144, 3) := by decide +kernel
theorem dX12_next_33 : decode cX12_next 33 = .ok (.iconst 0, 1) := by decide +kernel
theorem dX12_next_34 : decode cX12_next 34 = .ok (.istore 5, 2) := by decide +kernel
theorem dX12_next_36 : decode cX12_next 36 = .ok (.iload 5, 2) := by decide +kernel
theorem dX12_next_38 : decode cX12_next 38 = .ok (.bipush 100, 2) := by decide +kernel
theorem dX12_next_40 : decode cX12_next 40 = .ok (.if_icmp .ge 17, 3) := by decide +kernel
theorem dX12_next_43 : decode cX12_next 43 = .ok (.aload_n 0, 1) := by decide +kernel
theorem dX12_next_44 : decode cX12_next 44 = .ok (.getfield 127, 3) := by decide +kernel
theorem fl_RX12_127 : Cond.fieldLink RX12 127 RX12 "alike" "[I" ∈ gW := gW_t 1320 (by decide +kernel) rfl
theorem dX12_next_47 : decode cX12_next 47 = .ok (.iload 5, 2) := by decide +kernel
theorem dX12_next_49 : decode cX12_next 49 = .ok (.iconst 0, 1) := by decide +kernel
theorem dX12_next_50 : decode cX12_next 50 = .ok (.iastore, 1) := by decide +kernel
theorem dX12_next_51 : decode cX12_next 51 = .ok (.iinc 5 1, 3) := by decide +kernel
theorem dX12_next_54 : decode cX12_next 54 = .ok (.goto (-18), 3) := by decide +kernel
theorem dX12_next_57 : decode cX12_next 57 = .ok (.iconst 0, 1) := by decide +kernel
theorem dX12_next_58 : decode cX12_next 58 = .ok (.istore 5, 2) := by decide +kernel
theorem dX12_next_60 : decode cX12_next 60 = .ok (.iconst 0, 1) := by decide +kernel
theorem dX12_next_61 : decode cX12_next 61 = .ok (.istore 6, 2) := by decide +kernel
theorem dX12_next_63 : decode cX12_next 63 = .ok (.iload 6, 2) := by decide +kernel
theorem dX12_next_65 : decode cX12_next 65 = .ok (.bipush 40, 2) := by decide +kernel
theorem dX12_next_67 : decode cX12_next 67 = .ok (.if_icmp .ge 65, 3) := by decide +kernel
theorem dX12_next_70 : decode cX12_next 70 = .ok (.aload_n 0, 1) := by decide +kernel
theorem dX12_next_71 : decode cX12_next 71 = .ok (.iload 6, 2) := by decide +kernel
theorem dX12_next_73 : decode cX12_next 73 = .ok (.invokevirtual 537, 3) := by decide +kernel
theorem dX12_next_76 : decode cX12_next 76 = .ok (.ifCond .eq 50, 3) := by decide +kernel
theorem dX12_next_126 : decode cX12_next 126 = .ok (.iinc 6 1, 3) := by decide +kernel
theorem dX12_next_129 : decode cX12_next 129 = .ok (.goto (-66), 3) := by decide +kernel
theorem dX12_next_79 : decode cX12_next 79 = .ok (.aload_n 0, 1) := by decide +kernel
theorem dX12_next_80 : decode cX12_next 80 = .ok (.iload 6, 2) := by decide +kernel
theorem dX12_next_82 : decode cX12_next 82 = .ok (.iload 4, 2) := by decide +kernel
theorem dX12_next_84 : decode cX12_next 84 = .ok (.invokevirtual 534, 3) := by decide +kernel
theorem dX12_next_87 : decode cX12_next 87 = .ok (.istore 7, 2) := by decide +kernel
theorem dX12_next_89 : decode cX12_next 89 = .ok (.aload_n 0, 1) := by decide +kernel
theorem dX12_next_90 : decode cX12_next 90 = .ok (.getfield 127, 3) := by decide +kernel
theorem dX12_next_93 : decode cX12_next 93 = .ok (.iload 7, 2) := by decide +kernel
theorem dX12_next_95 : decode cX12_next 95 = .ok (.dup2, 1) := by decide +kernel
theorem dX12_next_96 : decode cX12_next 96 = .ok (.iaload, 1) := by decide +kernel
theorem dX12_next_97 : decode cX12_next 97 = .ok (.iconst 1, 1) := by decide +kernel
theorem dX12_next_98 : decode cX12_next 98 = .ok (.iadd, 1) := by decide +kernel
theorem dX12_next_99 : decode cX12_next 99 = .ok (.iastore, 1) := by decide +kernel
theorem dX12_next_100 : decode cX12_next 100 = .ok (.aload_n 0, 1) := by decide +kernel
theorem dX12_next_101 : decode cX12_next 101 = .ok (.getfield 127, 3) := by decide +kernel
theorem dX12_next_104 : decode cX12_next 104 = .ok (.iload 7, 2) := by decide +kernel
theorem dX12_next_106 : decode cX12_next 106 = .ok (.iaload, 1) := by decide +kernel
theorem dX12_next_107 : decode cX12_next 107 = .ok (.iload 5, 2) := by decide +kernel
theorem dX12_next_109 : decode cX12_next 109 = .ok (.if_icmp .le 13, 3) := by decide +kernel
theorem dX12_next_122 : decode cX12_next 122 = .ok (.iload 5, 2) := by decide +kernel
theorem dX12_next_124 : decode cX12_next 124 = .ok (.istore 5, 2) := by decide +kernel
theorem dX12_next_112 : decode cX12_next 112 = .ok (.aload_n 0, 1) := by decide +kernel
theorem dX12_next_113 : decode cX12_next 113 = .ok (.getfield 127, 3) := by decide +kernel
theorem dX12_next_116 : decode cX12_next 116 = .ok (.iload 7, 2) := by decide +kernel
theorem dX12_next_118 : decode cX12_next 118 = .ok (.iaload, 1) := by decide +kernel
theorem dX12_next_119 : decode cX12_next 119 = .ok (.goto 5, 3) := by decide +kernel
theorem dX12_next_132 : decode cX12_next 132 = .ok (.iload 5, 2) := by decide +kernel
theorem dX12_next_134 : decode cX12_next 134 = .ok (.ifCond .le 14, 3) := by decide +kernel
theorem dX12_next_148 : decode cX12_next 148 = .ok (.iload_n 3, 1) := by decide +kernel
theorem dX12_next_149 : decode cX12_next 149 = .ok (.istore_n 3, 1) := by decide +kernel
theorem dX12_next_150 : decode cX12_next 150 = .ok (.iload 5, 2) := by decide +kernel
theorem dX12_next_152 : decode cX12_next 152 = .ok (.ifCond .le 14, 3) := by decide +kernel
theorem dX12_next_166 : decode cX12_next 166 = .ok (.iload_n 2, 1) := by decide +kernel
theorem dX12_next_167 : decode cX12_next 167 = .ok (.istore_n 2, 1) := by decide +kernel
theorem dX12_next_168 : decode cX12_next 168 = .ok (.iinc 4 1, 3) := by decide +kernel
theorem dX12_next_171 : decode cX12_next 171 = .ok (.goto (-145), 3) := by decide +kernel
theorem dX12_next_137 : decode cX12_next 137 = .ok (.iload 5, 2) := by decide +kernel
theorem dX12_next_139 : decode cX12_next 139 = .ok (.iload_n 2, 1) := by decide +kernel
theorem dX12_next_140 : decode cX12_next 140 = .ok (.if_icmp .ge 8, 3) := by decide +kernel
theorem dX12_next_155 : decode cX12_next 155 = .ok (.iload 5, 2) := by decide +kernel
theorem dX12_next_157 : decode cX12_next 157 = .ok (.iload_n 2, 1) := by decide +kernel
theorem dX12_next_158 : decode cX12_next 158 = .ok (.if_icmp .ge 8, 3) := by decide +kernel
theorem dX12_next_143 : decode cX12_next 143 = .ok (.iload 4, 2) := by decide +kernel
theorem dX12_next_145 : decode cX12_next 145 = .ok (.goto 4, 3) := by decide +kernel
theorem dX12_next_161 : decode cX12_next 161 = .ok (.iload 5, 2) := by decide +kernel
theorem dX12_next_163 : decode cX12_next 163 = .ok (.goto 4, 3) := by decide +kernel
theorem dX12_next_174 : decode cX12_next 174 = .ok (.iload_n 3, 1) := by decide +kernel
theorem dX12_next_175 : decode cX12_next 175 = .ok (.iconst (-1), 1) := by decide +kernel
theorem dX12_next_176 : decode cX12_next 176 = .ok (.if_icmp .eq 7, 3) := by decide +kernel
theorem dX12_next_183 : decode cX12_next 183 = .ok (.iload_n 3, 1) := by decide +kernel
theorem dX12_next_184 : decode cX12_next 184 = .ok (.goto 4, 3) := by decide +kernel
theorem dX12_next_188 : decode cX12_next 188 = .ok (.ireturn, 1) := by decide +kernel
theorem dX12_next_179 : decode cX12_next 179 = .ok (.iload_n 1, 1) := by decide +kernel
theorem dX12_next_180 : decode cX12_next 180 = .ok (.ifCond .ne 7, 3) := by decide +kernel
theorem dX12_next_187 : decode cX12_next 187 = .ok (.iload_n 2, 1) := by decide +kernel
theorem dX12_next_15 : decode cX12_next 15 = .ok (.iconst (-1), 1) := by decide +kernel
theorem dX12_next_16 : decode cX12_next 16 = .ok (.ireturn, 1) := by decide +kernel
def yX12_well : MethodName := ⟨RX12, "well", "(II)I"⟩
abbrev cX12_well : ByteArray := prog_14_method_115_code
theorem dX12_well_0 : decode cX12_well 0 = .ok (.aload_n 0, 1) := by decide +kernel
theorem dX12_well_1 : decode cX12_well 1 = .ok (.iconst 0, 1) := by decide +kernel
theorem dX12_well_2 : decode cX12_well 2 = .ok (.putfield 156, 3) := by decide +kernel
theorem dX12_well_5 : decode cX12_well 5 = .ok (.iload_n 1, 1) := by decide +kernel
theorem dX12_well_6 : decode cX12_well 6 = .ok (.i2l, 1) := by decide +kernel
theorem dX12_well_7 : decode cX12_well 7 = .ok (.lconst 0, 1) := by decide +kernel
theorem dX12_well_8 : decode cX12_well 8 = .ok (.ldc2_w 540, 3) := by decide +kernel
theorem ct_RX12_540 : Cond.constantLong RX12 540 63 ∈ gW := gW_t 1938 (by decide +kernel) rfl
theorem dX12_well_11 : decode cX12_well 11 = .ok (.invokestatic 180, 3) := by decide +kernel
theorem dX12_well_14 : decode cX12_well 14 = .ok (.ifCond .eq 13, 3) := by decide +kernel
theorem dX12_well_27 : decode cX12_well 27 = .ok (.aload_n 0, 1) := by decide +kernel
theorem dX12_well_28 : decode cX12_well 28 = .ok (.iconst (-1), 1) := by decide +kernel
theorem dX12_well_29 : decode cX12_well 29 = .ok (.invokevirtual 169, 3) := by decide +kernel
theorem dX12_well_32 : decode cX12_well 32 = .ok (.ireturn, 1) := by decide +kernel
theorem dX12_well_17 : decode cX12_well 17 = .ok (.iload_n 2, 1) := by decide +kernel
theorem dX12_well_18 : decode cX12_well 18 = .ok (.i2l, 1) := by decide +kernel
theorem dX12_well_19 : decode cX12_well 19 = .ok (.lconst 0, 1) := by decide +kernel
theorem dX12_well_20 : decode cX12_well 20 = .ok (.lconst 1, 1) := by decide +kernel
theorem dX12_well_21 : decode cX12_well 21 = .ok (.invokestatic 180, 3) := by decide +kernel
theorem dX12_well_24 : decode cX12_well 24 = .ok (.ifCond .ne 9, 3) := by decide +kernel
theorem dX12_well_33 : decode cX12_well 33 = .ok (.aload_n 0, 1) := by decide +kernel
theorem dX12_well_34 : decode cX12_well 34 = .ok (.getfield 13, 3) := by decide +kernel
theorem dX12_well_37 : decode cX12_well 37 = .ok (.iconst 4, 1) := by decide +kernel
theorem dX12_well_38 : decode cX12_well 38 = .ok (.iaload, 1) := by decide +kernel
theorem dX12_well_39 : decode cX12_well 39 = .ok (.istore_n 3, 1) := by decide +kernel
theorem dX12_well_40 : decode cX12_well 40 = .ok (.iload_n 3, 1) := by decide +kernel
theorem dX12_well_41 : decode cX12_well 41 = .ok (.bipush 10, 2) := by decide +kernel
theorem dX12_well_43 : decode cX12_well 43 = .ok (.if_icmp .ne 10, 3) := by decide +kernel
theorem dX12_well_53 : decode cX12_well 53 = .ok (.aload_n 0, 1) := by decide +kernel
theorem dX12_well_54 : decode cX12_well 54 = .ok (.getfield 13, 3) := by decide +kernel
theorem dX12_well_57 : decode cX12_well 57 = .ok (.sipush 226, 3) := by decide +kernel
theorem dX12_well_60 : decode cX12_well 60 = .ok (.iconst 2, 1) := by decide +kernel
theorem dX12_well_61 : decode cX12_well 61 = .ok (.iload_n 3, 1) := by decide +kernel
theorem dX12_well_62 : decode cX12_well 62 = .ok (.imul, 1) := by decide +kernel
theorem dX12_well_63 : decode cX12_well 63 = .ok (.iadd, 1) := by decide +kernel
theorem dX12_well_64 : decode cX12_well 64 = .ok (.iload_n 1, 1) := by decide +kernel
theorem dX12_well_65 : decode cX12_well 65 = .ok (.iastore, 1) := by decide +kernel
theorem dX12_well_66 : decode cX12_well 66 = .ok (.aload_n 0, 1) := by decide +kernel
theorem dX12_well_67 : decode cX12_well 67 = .ok (.getfield 13, 3) := by decide +kernel
theorem dX12_well_70 : decode cX12_well 70 = .ok (.sipush 226, 3) := by decide +kernel
theorem dX12_well_73 : decode cX12_well 73 = .ok (.iconst 2, 1) := by decide +kernel
theorem dX12_well_74 : decode cX12_well 74 = .ok (.iload_n 3, 1) := by decide +kernel
theorem dX12_well_75 : decode cX12_well 75 = .ok (.imul, 1) := by decide +kernel
theorem dX12_well_76 : decode cX12_well 76 = .ok (.iadd, 1) := by decide +kernel
theorem dX12_well_77 : decode cX12_well 77 = .ok (.iconst 1, 1) := by decide +kernel
theorem dX12_well_78 : decode cX12_well 78 = .ok (.iadd, 1) := by decide +kernel
theorem dX12_well_79 : decode cX12_well 79 = .ok (.iload_n 2, 1) := by decide +kernel
theorem dX12_well_80 : decode cX12_well 80 = .ok (.iastore, 1) := by decide +kernel
theorem dX12_well_81 : decode cX12_well 81 = .ok (.aload_n 0, 1) := by decide +kernel
theorem dX12_well_82 : decode cX12_well 82 = .ok (.getfield 13, 3) := by decide +kernel
theorem dX12_well_85 : decode cX12_well 85 = .ok (.iconst 4, 1) := by decide +kernel
theorem dX12_well_86 : decode cX12_well 86 = .ok (.dup2, 1) := by decide +kernel
theorem dX12_well_87 : decode cX12_well 87 = .ok (.iaload, 1) := by decide +kernel
theorem dX12_well_88 : decode cX12_well 88 = .ok (.iconst 1, 1) := by decide +kernel
theorem dX12_well_89 : decode cX12_well 89 = .ok (.iadd, 1) := by decide +kernel
theorem dX12_well_90 : decode cX12_well 90 = .ok (.iastore, 1) := by decide +kernel
theorem dX12_well_91 : decode cX12_well 91 = .ok (.aload_n 0, 1) := by decide +kernel
theorem dX12_well_92 : decode cX12_well 92 = .ok (.iload_n 3, 1) := by decide +kernel
theorem dX12_well_93 : decode cX12_well 93 = .ok (.iconst 1, 1) := by decide +kernel
theorem dX12_well_94 : decode cX12_well 94 = .ok (.iadd, 1) := by decide +kernel
theorem dX12_well_95 : decode cX12_well 95 = .ok (.invokevirtual 169, 3) := by decide +kernel
theorem dX12_well_98 : decode cX12_well 98 = .ok (.ireturn, 1) := by decide +kernel
theorem dX12_well_46 : decode cX12_well 46 = .ok (.aload_n 0, 1) := by decide +kernel
theorem dX12_well_47 : decode cX12_well 47 = .ok (.bipush (-5), 2) := by decide +kernel
theorem dX12_well_49 : decode cX12_well 49 = .ok (.invokevirtual 169, 3) := by decide +kernel
theorem dX12_well_52 : decode cX12_well 52 = .ok (.ireturn, 1) := by decide +kernel
def yX12_tongue : MethodName := ⟨RX12, "tongue", "(I)I"⟩
abbrev cX12_tongue : ByteArray := prog_14_method_116_code
theorem dX12_tongue_0 : decode cX12_tongue 0 = .ok (.aload_n 0, 1) := by decide +kernel
theorem dX12_tongue_1 : decode cX12_tongue 1 = .ok (.iconst 0, 1) := by decide +kernel
theorem dX12_tongue_2 : decode cX12_tongue 2 = .ok (.putfield 156, 3) := by decide +kernel
theorem dX12_tongue_5 : decode cX12_tongue 5 = .ok (.iload_n 1, 1) := by decide +kernel
theorem dX12_tongue_6 : decode cX12_tongue 6 = .ok (.i2l, 1) := by decide +kernel
theorem dX12_tongue_7 : decode cX12_tongue 7 = .ok (.lconst 0, 1) := by decide +kernel
theorem dX12_tongue_8 : decode cX12_tongue 8 = .ok (.lconst 1, 1) := by decide +kernel
theorem dX12_tongue_9 : decode cX12_tongue 9 = .ok (.invokestatic 180, 3) := by decide +kernel
theorem dX12_tongue_12 : decode cX12_tongue 12 = .ok (.ifCond .ne 5, 3) := by decide +kernel
theorem dX12_tongue_17 : decode cX12_tongue 17 = .ok (.ldc_w 505, 3) := by decide +kernel
theorem dX12_tongue_20 : decode cX12_tongue 20 = .ok (.istore_n 2, 1) := by decide +kernel
theorem dX12_tongue_21 : decode cX12_tongue 21 = .ok (.iconst (-1), 1) := by decide +kernel
theorem dX12_tongue_22 : decode cX12_tongue 22 = .ok (.istore_n 3, 1) := by decide +kernel
theorem dX12_tongue_23 : decode cX12_tongue 23 = .ok (.iconst 0, 1) := by decide +kernel
theorem dX12_tongue_24 : decode cX12_tongue 24 = .ok (.istore 4, 2) := by decide +kernel
theorem dX12_tongue_26 : decode cX12_tongue 26 = .ok (.iload 4, 2) := by decide +kernel
theorem dX12_tongue_28 : decode cX12_tongue 28 = .ok (.bipush 64, 2) := by decide +kernel
theorem dX12_tongue_30 : decode cX12_tongue 30 = .ok (.if_icmp .ge 139, 3) := by decide +kernel
theorem dX12_tongue_33 : decode cX12_tongue 33 = .ok (.iload 4, 2) := by decide +kernel
theorem dX12_tongue_35 : decode cX12_tongue 35 = .ok (.i2l, 1) := by decide +kernel
theorem dX12_tongue_36 : decode cX12_tongue 36 = .ok (.invokestatic 527, 3) := by decide +kernel
theorem dX12_tongue_39 : decode cX12_tongue 39 = .ok (.iload_n 2, 1) := by decide +kernel
theorem dX12_tongue_40 : decode cX12_tongue 40 = .ok (.if_icmp .ge 7, 3) := by decide +kernel
theorem dX12_tongue_47 : decode cX12_tongue 47 = .ok (.iconst 0, 1) := by decide +kernel
theorem dX12_tongue_48 : decode cX12_tongue 48 = .ok (.istore 5, 2) := by decide +kernel
theorem dX12_tongue_50 : decode cX12_tongue 50 = .ok (.iconst 0, 1) := by decide +kernel
theorem dX12_tongue_51 : decode cX12_tongue 51 = .ok (.istore 6, 2) := by decide +kernel
theorem dX12_tongue_53 : decode cX12_tongue 53 = .ok (.iload 6, 2) := by decide +kernel
theorem dX12_tongue_55 : decode cX12_tongue 55 = .ok (.aload_n 0, 1) := by decide +kernel
theorem dX12_tongue_56 : decode cX12_tongue 56 = .ok (.getfield 13, 3) := by decide +kernel
theorem dX12_tongue_59 : decode cX12_tongue 59 = .ok (.iconst 4, 1) := by decide +kernel
theorem dX12_tongue_60 : decode cX12_tongue 60 = .ok (.iaload, 1) := by decide +kernel
theorem dX12_tongue_61 : decode cX12_tongue 61 = .ok (.if_icmp .ge 74, 3) := by decide +kernel
theorem dX12_tongue_64 : decode cX12_tongue 64 = .ok (.iload 5, 2) := by decide +kernel
theorem dX12_tongue_66 : decode cX12_tongue 66 = .ok (.ifCond .eq 69, 3) := by decide +kernel
theorem dX12_tongue_69 : decode cX12_tongue 69 = .ok (.iload 4, 2) := by decide +kernel
theorem dX12_tongue_71 : decode cX12_tongue 71 = .ok (.aload_n 0, 1) := by decide +kernel
theorem dX12_tongue_72 : decode cX12_tongue 72 = .ok (.getfield 13, 3) := by decide +kernel
theorem dX12_tongue_75 : decode cX12_tongue 75 = .ok (.sipush 226, 3) := by decide +kernel
theorem dX12_tongue_78 : decode cX12_tongue 78 = .ok (.iconst 2, 1) := by decide +kernel
theorem dX12_tongue_79 : decode cX12_tongue 79 = .ok (.iload 6, 2) := by decide +kernel
theorem dX12_tongue_81 : decode cX12_tongue 81 = .ok (.imul, 1) := by decide +kernel
theorem dX12_tongue_82 : decode cX12_tongue 82 = .ok (.iadd, 1) := by decide +kernel
theorem dX12_tongue_83 : decode cX12_tongue 83 = .ok (.iaload, 1) := by decide +kernel
theorem dX12_tongue_84 : decode cX12_tongue 84 = .ok (.iconst (-1), 1) := by decide +kernel
theorem dX12_tongue_85 : decode cX12_tongue 85 = .ok (.ixor, 1) := by decide +kernel
theorem dX12_tongue_86 : decode cX12_tongue 86 = .ok (.iand, 1) := by decide +kernel
theorem dX12_tongue_87 : decode cX12_tongue 87 = .ok (.ifCond .ne 7, 3) := by decide +kernel
theorem dX12_tongue_94 : decode cX12_tongue 94 = .ok (.iconst 0, 1) := by decide +kernel
theorem dX12_tongue_95 : decode cX12_tongue 95 = .ok (.aload_n 0, 1) := by decide +kernel
theorem dX12_tongue_96 : decode cX12_tongue 96 = .ok (.getfield 13, 3) := by decide +kernel
theorem dX12_tongue_99 : decode cX12_tongue 99 = .ok (.sipush 226, 3) := by decide +kernel
theorem dX12_tongue_102 : decode cX12_tongue 102 = .ok (.iconst 2, 1) := by decide +kernel
theorem dX12_tongue_103 : decode cX12_tongue 103 = .ok (.iload 6, 2) := by decide +kernel
theorem dX12_tongue_105 : decode cX12_tongue 105 = .ok (.imul, 1) := by decide +kernel
theorem dX12_tongue_106 : decode cX12_tongue 106 = .ok (.iadd, 1) := by decide +kernel
theorem dX12_tongue_107 : decode cX12_tongue 107 = .ok (.iconst 1, 1) := by decide +kernel
theorem dX12_tongue_108 : decode cX12_tongue 108 = .ok (.iadd, 1) := by decide +kernel
theorem dX12_tongue_109 : decode cX12_tongue 109 = .ok (.iaload, 1) := by decide +kernel
theorem dX12_tongue_110 : decode cX12_tongue 110 = .ok (.iconst 1, 1) := by decide +kernel
theorem dX12_tongue_111 : decode cX12_tongue 111 = .ok (.if_icmp .ne 7, 3) := by decide +kernel
theorem dX12_tongue_118 : decode cX12_tongue 118 = .ok (.iconst 0, 1) := by decide +kernel
theorem dX12_tongue_119 : decode cX12_tongue 119 = .ok (.if_icmp .ne 7, 3) := by decide +kernel
theorem dX12_tongue_122 : decode cX12_tongue 122 = .ok (.iconst 1, 1) := by decide +kernel
theorem dX12_tongue_123 : decode cX12_tongue 123 = .ok (.goto 4, 3) := by decide +kernel
theorem dX12_tongue_127 : decode cX12_tongue 127 = .ok (.istore 5, 2) := by decide +kernel
theorem dX12_tongue_129 : decode cX12_tongue 129 = .ok (.iinc 6 1, 3) := by decide +kernel
theorem dX12_tongue_132 : decode cX12_tongue 132 = .ok (.goto (-79), 3) := by decide +kernel
theorem dX12_tongue_114 : decode cX12_tongue 114 = .ok (.iconst 1, 1) := by decide +kernel
theorem dX12_tongue_115 : decode cX12_tongue 115 = .ok (.goto 4, 3) := by decide +kernel
theorem dX12_tongue_126 : decode cX12_tongue 126 = .ok (.iconst 0, 1) := by decide +kernel
theorem dX12_tongue_90 : decode cX12_tongue 90 = .ok (.iconst 1, 1) := by decide +kernel
theorem dX12_tongue_91 : decode cX12_tongue 91 = .ok (.goto 4, 3) := by decide +kernel
theorem dX12_tongue_135 : decode cX12_tongue 135 = .ok (.iload 5, 2) := by decide +kernel
theorem dX12_tongue_137 : decode cX12_tongue 137 = .ok (.ifCond .eq 8, 3) := by decide +kernel
theorem dX12_tongue_145 : decode cX12_tongue 145 = .ok (.iload_n 3, 1) := by decide +kernel
theorem dX12_tongue_146 : decode cX12_tongue 146 = .ok (.istore_n 3, 1) := by decide +kernel
theorem dX12_tongue_147 : decode cX12_tongue 147 = .ok (.iload 5, 2) := by decide +kernel
theorem dX12_tongue_149 : decode cX12_tongue 149 = .ok (.ifCond .eq 12, 3) := by decide +kernel
theorem dX12_tongue_161 : decode cX12_tongue 161 = .ok (.iload_n 2, 1) := by decide +kernel
theorem dX12_tongue_162 : decode cX12_tongue 162 = .ok (.istore_n 2, 1) := by decide +kernel
theorem dX12_tongue_163 : decode cX12_tongue 163 = .ok (.iinc 4 1, 3) := by decide +kernel
theorem dX12_tongue_166 : decode cX12_tongue 166 = .ok (.goto (-140), 3) := by decide +kernel
theorem dX12_tongue_140 : decode cX12_tongue 140 = .ok (.iload 4, 2) := by decide +kernel
theorem dX12_tongue_142 : decode cX12_tongue 142 = .ok (.goto 4, 3) := by decide +kernel
theorem dX12_tongue_152 : decode cX12_tongue 152 = .ok (.iload 4, 2) := by decide +kernel
theorem dX12_tongue_154 : decode cX12_tongue 154 = .ok (.i2l, 1) := by decide +kernel
theorem dX12_tongue_155 : decode cX12_tongue 155 = .ok (.invokestatic 527, 3) := by decide +kernel
theorem dX12_tongue_158 : decode cX12_tongue 158 = .ok (.goto 4, 3) := by decide +kernel
theorem dX12_tongue_43 : decode cX12_tongue 43 = .ok (.iconst 1, 1) := by decide +kernel
theorem dX12_tongue_44 : decode cX12_tongue 44 = .ok (.goto 4, 3) := by decide +kernel
theorem dX12_tongue_169 : decode cX12_tongue 169 = .ok (.iload_n 3, 1) := by decide +kernel
theorem dX12_tongue_170 : decode cX12_tongue 170 = .ok (.iconst (-1), 1) := by decide +kernel
theorem dX12_tongue_171 : decode cX12_tongue 171 = .ok (.if_icmp .eq 8, 3) := by decide +kernel
theorem dX12_tongue_179 : decode cX12_tongue 179 = .ok (.iload_n 3, 1) := by decide +kernel
theorem dX12_tongue_180 : decode cX12_tongue 180 = .ok (.goto 4, 3) := by decide +kernel
theorem dX12_tongue_184 : decode cX12_tongue 184 = .ok (.ireturn, 1) := by decide +kernel
theorem dX12_tongue_174 : decode cX12_tongue 174 = .ok (.iload_n 1, 1) := by decide +kernel
theorem dX12_tongue_175 : decode cX12_tongue 175 = .ok (.iconst 1, 1) := by decide +kernel
theorem dX12_tongue_176 : decode cX12_tongue 176 = .ok (.if_icmp .ne 7, 3) := by decide +kernel
theorem dX12_tongue_183 : decode cX12_tongue 183 = .ok (.iload_n 2, 1) := by decide +kernel
theorem dX12_tongue_15 : decode cX12_tongue 15 = .ok (.iconst (-1), 1) := by decide +kernel
theorem dX12_tongue_16 : decode cX12_tongue 16 = .ok (.ireturn, 1) := by decide +kernel
def yX12_areBeside : MethodName := ⟨RX12, "areBeside", "(II)Z"⟩
abbrev cX12_areBeside : ByteArray := prog_14_method_117_code
theorem dX12_areBeside_0 : decode cX12_areBeside 0 = .ok (.iload_n 0, 1) := by decide +kernel
theorem dX12_areBeside_1 : decode cX12_areBeside 1 = .ok (.bipush 8, 2) := by decide +kernel
theorem dX12_areBeside_3 : decode cX12_areBeside 3 = .ok (.irem, 1) := by decide +kernel
theorem dX12_areBeside_4 : decode cX12_areBeside 4 = .ok (.iload_n 1, 1) := by decide +kernel
theorem dX12_areBeside_5 : decode cX12_areBeside 5 = .ok (.bipush 8, 2) := by decide +kernel
theorem dX12_areBeside_7 : decode cX12_areBeside 7 = .ok (.irem, 1) := by decide +kernel
theorem dX12_areBeside_8 : decode cX12_areBeside 8 = .ok (.invokestatic 453, 3) := by decide +kernel
theorem dX12_areBeside_11 : decode cX12_areBeside 11 = .ok (.iload_n 0, 1) := by decide +kernel
theorem dX12_areBeside_12 : decode cX12_areBeside 12 = .ok (.bipush 8, 2) := by decide +kernel
theorem dX12_areBeside_14 : decode cX12_areBeside 14 = .ok (.idiv, 1) := by decide +kernel
theorem dX12_areBeside_15 : decode cX12_areBeside 15 = .ok (.iload_n 1, 1) := by decide +kernel
theorem dX12_areBeside_16 : decode cX12_areBeside 16 = .ok (.bipush 8, 2) := by decide +kernel
theorem dX12_areBeside_18 : decode cX12_areBeside 18 = .ok (.idiv, 1) := by decide +kernel
theorem dX12_areBeside_19 : decode cX12_areBeside 19 = .ok (.invokestatic 453, 3) := by decide +kernel
theorem dX12_areBeside_22 : decode cX12_areBeside 22 = .ok (.iadd, 1) := by decide +kernel
theorem dX12_areBeside_23 : decode cX12_areBeside 23 = .ok (.iconst 1, 1) := by decide +kernel
theorem dX12_areBeside_24 : decode cX12_areBeside 24 = .ok (.if_icmp .ne 7, 3) := by decide +kernel
theorem dX12_areBeside_31 : decode cX12_areBeside 31 = .ok (.iconst 0, 1) := by decide +kernel
theorem dX12_areBeside_32 : decode cX12_areBeside 32 = .ok (.ireturn, 1) := by decide +kernel
theorem dX12_areBeside_27 : decode cX12_areBeside 27 = .ok (.iconst 1, 1) := by decide +kernel
theorem dX12_areBeside_28 : decode cX12_areBeside 28 = .ok (.goto 4, 3) := by decide +kernel
def yX12_veinOf : MethodName := ⟨RX12, "veinOf", "(I)J"⟩
abbrev cX12_veinOf : ByteArray := prog_14_method_118_code
theorem dX12_veinOf_0 : decode cX12_veinOf 0 = .ok (.lconst 1, 1) := by decide +kernel
theorem dX12_veinOf_1 : decode cX12_veinOf 1 = .ok (.iload_n 1, 1) := by decide +kernel
theorem dX12_veinOf_2 : decode cX12_veinOf 2 = .ok (.lshl, 1) := by decide +kernel
theorem dX12_veinOf_3 : decode cX12_veinOf 3 = .ok (.lstore_n 2, 1) := by decide +kernel
theorem dX12_veinOf_4 : decode cX12_veinOf 4 = .ok (.iconst 1, 1) := by decide +kernel
theorem dX12_veinOf_5 : decode cX12_veinOf 5 = .ok (.istore 4, 2) := by decide +kernel
theorem dX12_veinOf_7 : decode cX12_veinOf 7 = .ok (.iload 4, 2) := by decide +kernel
theorem dX12_veinOf_9 : decode cX12_veinOf 9 = .ok (.ifCond .eq 104, 3) := by decide +kernel
theorem dX12_veinOf_12 : decode cX12_veinOf 12 = .ok (.lload_n 2, 1) := by decide +kernel
theorem dX12_veinOf_13 : decode cX12_veinOf 13 = .ok (.lstore 5, 2) := by decide +kernel
theorem dX12_veinOf_15 : decode cX12_veinOf 15 = .ok (.iconst 0, 1) := by decide +kernel
theorem dX12_veinOf_16 : decode cX12_veinOf 16 = .ok (.istore 7, 2) := by decide +kernel
theorem dX12_veinOf_18 : decode cX12_veinOf 18 = .ok (.iload 7, 2) := by decide +kernel
theorem dX12_veinOf_20 : decode cX12_veinOf 20 = .ok (.bipush 40, 2) := by decide +kernel
theorem dX12_veinOf_22 : decode cX12_veinOf 22 = .ok (.if_icmp .ge 71, 3) := by decide +kernel
theorem dX12_veinOf_25 : decode cX12_veinOf 25 = .ok (.iconst 0, 1) := by decide +kernel
theorem dX12_veinOf_26 : decode cX12_veinOf 26 = .ok (.istore 8, 2) := by decide +kernel
theorem dX12_veinOf_28 : decode cX12_veinOf 28 = .ok (.iload 8, 2) := by decide +kernel
theorem dX12_veinOf_30 : decode cX12_veinOf 30 = .ok (.bipush 40, 2) := by decide +kernel
theorem dX12_veinOf_32 : decode cX12_veinOf 32 = .ok (.if_icmp .ge 55, 3) := by decide +kernel
theorem dX12_veinOf_35 : decode cX12_veinOf 35 = .ok (.aload_n 0, 1) := by decide +kernel
theorem dX12_veinOf_36 : decode cX12_veinOf 36 = .ok (.getfield 13, 3) := by decide +kernel
theorem dX12_veinOf_39 : decode cX12_veinOf 39 = .ok (.bipush 113, 2) := by decide +kernel
theorem dX12_veinOf_41 : decode cX12_veinOf 41 = .ok (.iload 7, 2) := by decide +kernel
theorem dX12_veinOf_43 : decode cX12_veinOf 43 = .ok (.iadd, 1) := by decide +kernel
theorem dX12_veinOf_44 : decode cX12_veinOf 44 = .ok (.iaload, 1) := by decide +kernel
theorem dX12_veinOf_45 : decode cX12_veinOf 45 = .ok (.iconst 3, 1) := by decide +kernel
theorem dX12_veinOf_46 : decode cX12_veinOf 46 = .ok (.if_icmp .ne 41, 3) := by decide +kernel
theorem dX12_veinOf_49 : decode cX12_veinOf 49 = .ok (.lload 5, 2) := by decide +kernel
theorem dX12_veinOf_51 : decode cX12_veinOf 51 = .ok (.lload_n 2, 1) := by decide +kernel
theorem dX12_veinOf_52 : decode cX12_veinOf 52 = .ok (.iload 8, 2) := by decide +kernel
theorem dX12_veinOf_54 : decode cX12_veinOf 54 = .ok (.invokestatic 159, 3) := by decide +kernel
theorem dX12_veinOf_57 : decode cX12_veinOf 57 = .ok (.ifCond .eq 20, 3) := by decide +kernel
theorem dX12_veinOf_77 : decode cX12_veinOf 77 = .ok (.lconst 0, 1) := by decide +kernel
theorem dX12_veinOf_78 : decode cX12_veinOf 78 = .ok (.lor, 1) := by decide +kernel
theorem dX12_veinOf_79 : decode cX12_veinOf 79 = .ok (.lstore 5, 2) := by decide +kernel
theorem dX12_veinOf_81 : decode cX12_veinOf 81 = .ok (.iinc 8 1, 3) := by decide +kernel
theorem dX12_veinOf_84 : decode cX12_veinOf 84 = .ok (.goto (-56), 3) := by decide +kernel
theorem dX12_veinOf_60 : decode cX12_veinOf 60 = .ok (.iload 7, 2) := by decide +kernel
theorem dX12_veinOf_62 : decode cX12_veinOf 62 = .ok (.iload 8, 2) := by decide +kernel
theorem dX12_veinOf_64 : decode cX12_veinOf 64 = .ok (.invokestatic 542, 3) := by decide +kernel
theorem lk_RX12_542 : Cond.methodLink RX12 542 yX12_areBeside ∈ gW := gW_t 1574 (by decide +kernel) rfl
theorem mT_X12_areBeside : Cond.static yX12_areBeside ∈ gW := gW_t 1575 (by decide +kernel) rfl
theorem mC_X12_areBeside : Cond.code yX12_areBeside cX12_areBeside 2 (some .boolean) ∈ gW := gW_t 1576 (by decide +kernel) rfl
theorem ok_X12_areBeside : okD yX12_areBeside 2 := ⟨by decide +kernel, by decide +kernel, by decide +kernel⟩
theorem dX12_veinOf_67 : decode cX12_veinOf 67 = .ok (.ifCond .eq 10, 3) := by decide +kernel
theorem dX12_veinOf_70 : decode cX12_veinOf 70 = .ok (.lconst 1, 1) := by decide +kernel
theorem dX12_veinOf_71 : decode cX12_veinOf 71 = .ok (.iload 7, 2) := by decide +kernel
theorem dX12_veinOf_73 : decode cX12_veinOf 73 = .ok (.lshl, 1) := by decide +kernel
theorem dX12_veinOf_74 : decode cX12_veinOf 74 = .ok (.goto 4, 3) := by decide +kernel
theorem dX12_veinOf_87 : decode cX12_veinOf 87 = .ok (.iinc 7 1, 3) := by decide +kernel
theorem dX12_veinOf_90 : decode cX12_veinOf 90 = .ok (.goto (-72), 3) := by decide +kernel
theorem dX12_veinOf_93 : decode cX12_veinOf 93 = .ok (.lload 5, 2) := by decide +kernel
theorem dX12_veinOf_95 : decode cX12_veinOf 95 = .ok (.lload_n 2, 1) := by decide +kernel
theorem dX12_veinOf_96 : decode cX12_veinOf 96 = .ok (.lcmp, 1) := by decide +kernel
theorem dX12_veinOf_97 : decode cX12_veinOf 97 = .ok (.ifCond .eq 7, 3) := by decide +kernel
theorem dX12_veinOf_104 : decode cX12_veinOf 104 = .ok (.iconst 0, 1) := by decide +kernel
theorem dX12_veinOf_105 : decode cX12_veinOf 105 = .ok (.istore 4, 2) := by decide +kernel
theorem dX12_veinOf_107 : decode cX12_veinOf 107 = .ok (.lload 5, 2) := by decide +kernel
theorem dX12_veinOf_109 : decode cX12_veinOf 109 = .ok (.lstore_n 2, 1) := by decide +kernel
theorem dX12_veinOf_110 : decode cX12_veinOf 110 = .ok (.goto (-103), 3) := by decide +kernel
theorem dX12_veinOf_100 : decode cX12_veinOf 100 = .ok (.iconst 1, 1) := by decide +kernel
theorem dX12_veinOf_101 : decode cX12_veinOf 101 = .ok (.goto 4, 3) := by decide +kernel
theorem dX12_veinOf_113 : decode cX12_veinOf 113 = .ok (.lload_n 2, 1) := by decide +kernel
theorem dX12_veinOf_114 : decode cX12_veinOf 114 = .ok (.lreturn, 1) := by decide +kernel
