def yX12_heard : MethodName := ⟨RX12, "heard", "(II)I"⟩
abbrev cX12_heard : ByteArray := prog_14_method_109_code
theorem dX12_heard_0 : decode cX12_heard 0 = .ok (.aload_n 0, 1) := by decide +kernel
theorem dX12_heard_1 : decode cX12_heard 1 = .ok (.iconst 0, 1) := by decide +kernel
theorem dX12_heard_2 : decode cX12_heard 2 = .ok (.putfield 156, 3) := by decide +kernel
theorem dX12_heard_5 : decode cX12_heard 5 = .ok (.iload_n 1, 1) := by decide +kernel
theorem dX12_heard_6 : decode cX12_heard 6 = .ok (.invokestatic 218, 3) := by decide +kernel
theorem dX12_heard_9 : decode cX12_heard 9 = .ok (.ifCond .eq 15, 3) := by decide +kernel
theorem dX12_heard_24 : decode cX12_heard 24 = .ok (.aload_n 0, 1) := by decide +kernel
theorem dX12_heard_25 : decode cX12_heard 25 = .ok (.iconst (-1), 1) := by decide +kernel
theorem dX12_heard_26 : decode cX12_heard 26 = .ok (.invokevirtual 169, 3) := by decide +kernel
theorem dX12_heard_29 : decode cX12_heard 29 = .ok (.ireturn, 1) := by decide +kernel
theorem dX12_heard_12 : decode cX12_heard 12 = .ok (.iload_n 2, 1) := by decide +kernel
theorem dX12_heard_13 : decode cX12_heard 13 = .ok (.i2l, 1) := by decide +kernel
theorem dX12_heard_14 : decode cX12_heard 14 = .ok (.lconst 0, 1) := by decide +kernel
theorem dX12_heard_15 : decode cX12_heard 15 = .ok (.ldc2_w 195, 3) := by decide +kernel
theorem dX12_heard_18 : decode cX12_heard 18 = .ok (.invokestatic 180, 3) := by decide +kernel
theorem dX12_heard_21 : decode cX12_heard 21 = .ok (.ifCond .ne 9, 3) := by decide +kernel
theorem dX12_heard_30 : decode cX12_heard 30 = .ok (.aload_n 0, 1) := by decide +kernel
theorem dX12_heard_31 : decode cX12_heard 31 = .ok (.getfield 13, 3) := by decide +kernel
theorem dX12_heard_34 : decode cX12_heard 34 = .ok (.iconst 3, 1) := by decide +kernel
theorem dX12_heard_35 : decode cX12_heard 35 = .ok (.iaload, 1) := by decide +kernel
theorem dX12_heard_36 : decode cX12_heard 36 = .ok (.istore_n 3, 1) := by decide +kernel
theorem dX12_heard_37 : decode cX12_heard 37 = .ok (.iload_n 3, 1) := by decide +kernel
theorem dX12_heard_38 : decode cX12_heard 38 = .ok (.bipush 8, 2) := by decide +kernel
theorem dX12_heard_40 : decode cX12_heard 40 = .ok (.if_icmp .ne 10, 3) := by decide +kernel
theorem dX12_heard_50 : decode cX12_heard 50 = .ok (.aload_n 0, 1) := by decide +kernel
theorem dX12_heard_51 : decode cX12_heard 51 = .ok (.getfield 13, 3) := by decide +kernel
theorem dX12_heard_54 : decode cX12_heard 54 = .ok (.sipush 210, 3) := by decide +kernel
theorem dX12_heard_57 : decode cX12_heard 57 = .ok (.iconst 2, 1) := by decide +kernel
theorem dX12_heard_58 : decode cX12_heard 58 = .ok (.iload_n 3, 1) := by decide +kernel
theorem dX12_heard_59 : decode cX12_heard 59 = .ok (.imul, 1) := by decide +kernel
theorem dX12_heard_60 : decode cX12_heard 60 = .ok (.iadd, 1) := by decide +kernel
theorem dX12_heard_61 : decode cX12_heard 61 = .ok (.iload_n 1, 1) := by decide +kernel
theorem dX12_heard_62 : decode cX12_heard 62 = .ok (.iastore, 1) := by decide +kernel
theorem dX12_heard_63 : decode cX12_heard 63 = .ok (.aload_n 0, 1) := by decide +kernel
theorem dX12_heard_64 : decode cX12_heard 64 = .ok (.getfield 13, 3) := by decide +kernel
theorem dX12_heard_67 : decode cX12_heard 67 = .ok (.sipush 210, 3) := by decide +kernel
theorem dX12_heard_70 : decode cX12_heard 70 = .ok (.iconst 2, 1) := by decide +kernel
theorem dX12_heard_71 : decode cX12_heard 71 = .ok (.iload_n 3, 1) := by decide +kernel
theorem dX12_heard_72 : decode cX12_heard 72 = .ok (.imul, 1) := by decide +kernel
theorem dX12_heard_73 : decode cX12_heard 73 = .ok (.iadd, 1) := by decide +kernel
theorem dX12_heard_74 : decode cX12_heard 74 = .ok (.iconst 1, 1) := by decide +kernel
theorem dX12_heard_75 : decode cX12_heard 75 = .ok (.iadd, 1) := by decide +kernel
theorem dX12_heard_76 : decode cX12_heard 76 = .ok (.iload_n 2, 1) := by decide +kernel
theorem dX12_heard_77 : decode cX12_heard 77 = .ok (.iastore, 1) := by decide +kernel
theorem dX12_heard_78 : decode cX12_heard 78 = .ok (.aload_n 0, 1) := by decide +kernel
theorem dX12_heard_79 : decode cX12_heard 79 = .ok (.getfield 13, 3) := by decide +kernel
theorem dX12_heard_82 : decode cX12_heard 82 = .ok (.iconst 3, 1) := by decide +kernel
theorem dX12_heard_83 : decode cX12_heard 83 = .ok (.dup2, 1) := by decide +kernel
theorem dX12_heard_84 : decode cX12_heard 84 = .ok (.iaload, 1) := by decide +kernel
theorem dX12_heard_85 : decode cX12_heard 85 = .ok (.iconst 1, 1) := by decide +kernel
theorem dX12_heard_86 : decode cX12_heard 86 = .ok (.iadd, 1) := by decide +kernel
theorem dX12_heard_87 : decode cX12_heard 87 = .ok (.iastore, 1) := by decide +kernel
theorem dX12_heard_88 : decode cX12_heard 88 = .ok (.aload_n 0, 1) := by decide +kernel
theorem dX12_heard_89 : decode cX12_heard 89 = .ok (.iload_n 3, 1) := by decide +kernel
theorem dX12_heard_90 : decode cX12_heard 90 = .ok (.iconst 1, 1) := by decide +kernel
theorem dX12_heard_91 : decode cX12_heard 91 = .ok (.iadd, 1) := by decide +kernel
theorem dX12_heard_92 : decode cX12_heard 92 = .ok (.invokevirtual 169, 3) := by decide +kernel
theorem dX12_heard_95 : decode cX12_heard 95 = .ok (.ireturn, 1) := by decide +kernel
theorem dX12_heard_43 : decode cX12_heard 43 = .ok (.aload_n 0, 1) := by decide +kernel
theorem dX12_heard_44 : decode cX12_heard 44 = .ok (.bipush (-5), 2) := by decide +kernel
theorem dX12_heard_46 : decode cX12_heard 46 = .ok (.invokevirtual 169, 3) := by decide +kernel
theorem dX12_heard_49 : decode cX12_heard 49 = .ok (.ireturn, 1) := by decide +kernel
def yX12_forget : MethodName := ⟨RX12, "forget", "()I"⟩
abbrev cX12_forget : ByteArray := prog_14_method_110_code
theorem dX12_forget_0 : decode cX12_forget 0 = .ok (.aload_n 0, 1) := by decide +kernel
theorem dX12_forget_1 : decode cX12_forget 1 = .ok (.iconst 0, 1) := by decide +kernel
theorem dX12_forget_2 : decode cX12_forget 2 = .ok (.putfield 156, 3) := by decide +kernel
theorem dX12_forget_5 : decode cX12_forget 5 = .ok (.aload_n 0, 1) := by decide +kernel
theorem dX12_forget_6 : decode cX12_forget 6 = .ok (.getfield 13, 3) := by decide +kernel
theorem dX12_forget_9 : decode cX12_forget 9 = .ok (.iconst 3, 1) := by decide +kernel
theorem dX12_forget_10 : decode cX12_forget 10 = .ok (.iaload, 1) := by decide +kernel
theorem dX12_forget_11 : decode cX12_forget 11 = .ok (.aload_n 0, 1) := by decide +kernel
theorem dX12_forget_12 : decode cX12_forget 12 = .ok (.getfield 13, 3) := by decide +kernel
theorem dX12_forget_15 : decode cX12_forget 15 = .ok (.iconst 4, 1) := by decide +kernel
theorem dX12_forget_16 : decode cX12_forget 16 = .ok (.iaload, 1) := by decide +kernel
theorem dX12_forget_17 : decode cX12_forget 17 = .ok (.iadd, 1) := by decide +kernel
theorem dX12_forget_18 : decode cX12_forget 18 = .ok (.istore_n 1, 1) := by decide +kernel
theorem dX12_forget_19 : decode cX12_forget 19 = .ok (.aload_n 0, 1) := by decide +kernel
theorem dX12_forget_20 : decode cX12_forget 20 = .ok (.getfield 13, 3) := by decide +kernel
theorem dX12_forget_23 : decode cX12_forget 23 = .ok (.iconst 3, 1) := by decide +kernel
theorem dX12_forget_24 : decode cX12_forget 24 = .ok (.iconst 0, 1) := by decide +kernel
theorem dX12_forget_25 : decode cX12_forget 25 = .ok (.iastore, 1) := by decide +kernel
theorem dX12_forget_26 : decode cX12_forget 26 = .ok (.aload_n 0, 1) := by decide +kernel
theorem dX12_forget_27 : decode cX12_forget 27 = .ok (.getfield 13, 3) := by decide +kernel
theorem dX12_forget_30 : decode cX12_forget 30 = .ok (.iconst 4, 1) := by decide +kernel
theorem dX12_forget_31 : decode cX12_forget 31 = .ok (.iconst 0, 1) := by decide +kernel
theorem dX12_forget_32 : decode cX12_forget 32 = .ok (.iastore, 1) := by decide +kernel
theorem dX12_forget_33 : decode cX12_forget 33 = .ok (.iload_n 1, 1) := by decide +kernel
theorem dX12_forget_34 : decode cX12_forget 34 = .ok (.ireturn, 1) := by decide +kernel
def yX12_soundOf : MethodName := ⟨RX12, "soundOf", "(II)I"⟩
abbrev cX12_soundOf : ByteArray := prog_14_method_111_code
theorem dX12_soundOf_0 : decode cX12_soundOf 0 = .ok (.aload_n 0, 1) := by decide +kernel
theorem dX12_soundOf_1 : decode cX12_soundOf 1 = .ok (.iload_n 1, 1) := by decide +kernel
theorem dX12_soundOf_2 : decode cX12_soundOf 2 = .ok (.iconst 3, 1) := by decide +kernel
theorem dX12_soundOf_3 : decode cX12_soundOf 3 = .ok (.iload_n 2, 1) := by decide +kernel
theorem dX12_soundOf_4 : decode cX12_soundOf 4 = .ok (.invokevirtual 456, 3) := by decide +kernel
theorem dX12_soundOf_7 : decode cX12_soundOf 7 = .ok (.i2l, 1) := by decide +kernel
theorem dX12_soundOf_8 : decode cX12_soundOf 8 = .ok (.iconst 0, 1) := by decide +kernel
theorem dX12_soundOf_9 : decode cX12_soundOf 9 = .ok (.bipush 99, 2) := by decide +kernel
theorem dX12_soundOf_11 : decode cX12_soundOf 11 = .ok (.invokestatic 438, 3) := by decide +kernel
theorem dX12_soundOf_14 : decode cX12_soundOf 14 = .ok (.ireturn, 1) := by decide +kernel
def yX12_isHidden : MethodName := ⟨RX12, "isHidden", "(I)Z"⟩
abbrev cX12_isHidden : ByteArray := prog_14_method_112_code
theorem dX12_isHidden_0 : decode cX12_isHidden 0 = .ok (.aload_n 0, 1) := by decide +kernel
theorem dX12_isHidden_1 : decode cX12_isHidden 1 = .ok (.getfield 13, 3) := by decide +kernel
theorem dX12_isHidden_4 : decode cX12_isHidden 4 = .ok (.bipush 113, 2) := by decide +kernel
theorem dX12_isHidden_6 : decode cX12_isHidden 6 = .ok (.iload_n 1, 1) := by decide +kernel
theorem dX12_isHidden_7 : decode cX12_isHidden 7 = .ok (.iadd, 1) := by decide +kernel
theorem dX12_isHidden_8 : decode cX12_isHidden 8 = .ok (.iaload, 1) := by decide +kernel
theorem dX12_isHidden_9 : decode cX12_isHidden 9 = .ok (.iconst 3, 1) := by decide +kernel
theorem dX12_isHidden_10 : decode cX12_isHidden 10 = .ok (.if_icmp .eq 19, 3) := by decide +kernel
theorem dX12_isHidden_29 : decode cX12_isHidden 29 = .ok (.iconst 0, 1) := by decide +kernel
theorem dX12_isHidden_30 : decode cX12_isHidden 30 = .ok (.istore_n 2, 1) := by decide +kernel
theorem dX12_isHidden_31 : decode cX12_isHidden 31 = .ok (.iconst 0, 1) := by decide +kernel
theorem dX12_isHidden_32 : decode cX12_isHidden 32 = .ok (.istore_n 3, 1) := by decide +kernel
theorem dX12_isHidden_33 : decode cX12_isHidden 33 = .ok (.iload_n 3, 1) := by decide +kernel
theorem dX12_isHidden_34 : decode cX12_isHidden 34 = .ok (.aload_n 0, 1) := by decide +kernel
theorem dX12_isHidden_35 : decode cX12_isHidden 35 = .ok (.getfield 13, 3) := by decide +kernel
theorem dX12_isHidden_38 : decode cX12_isHidden 38 = .ok (.iconst 3, 1) := by decide +kernel
theorem dX12_isHidden_39 : decode cX12_isHidden 39 = .ok (.iaload, 1) := by decide +kernel
theorem dX12_isHidden_40 : decode cX12_isHidden 40 = .ok (.if_icmp .ge 53, 3) := by decide +kernel
theorem dX12_isHidden_43 : decode cX12_isHidden 43 = .ok (.iload_n 2, 1) := by decide +kernel
theorem dX12_isHidden_44 : decode cX12_isHidden 44 = .ok (.ifCond .eq 49, 3) := by decide +kernel
theorem dX12_isHidden_47 : decode cX12_isHidden 47 = .ok (.aload_n 0, 1) := by decide +kernel
theorem dX12_isHidden_48 : decode cX12_isHidden 48 = .ok (.iload_n 1, 1) := by decide +kernel
theorem dX12_isHidden_49 : decode cX12_isHidden 49 = .ok (.aload_n 0, 1) := by decide +kernel
theorem dX12_isHidden_50 : decode cX12_isHidden 50 = .ok (.getfield 13, 3) := by decide +kernel
theorem dX12_isHidden_53 : decode cX12_isHidden 53 = .ok (.sipush 210, 3) := by decide +kernel
theorem dX12_isHidden_56 : decode cX12_isHidden 56 = .ok (.iconst 2, 1) := by decide +kernel
theorem dX12_isHidden_57 : decode cX12_isHidden 57 = .ok (.iload_n 3, 1) := by decide +kernel
theorem dX12_isHidden_58 : decode cX12_isHidden 58 = .ok (.imul, 1) := by decide +kernel
theorem dX12_isHidden_59 : decode cX12_isHidden 59 = .ok (.iadd, 1) := by decide +kernel
theorem dX12_isHidden_60 : decode cX12_isHidden 60 = .ok (.iaload, 1) := by decide +kernel
theorem dX12_isHidden_61 : decode cX12_isHidden 61 = .ok (.invokevirtual 534, 3) := by decide +kernel
theorem lk_RX12_534 : Cond.methodLink RX12 534 yX12_soundOf ∈ gW := gW_u tb_9 6 (by rfl) (by decide +kernel)
theorem mI_X12_soundOf : Cond.instanceMethod yX12_soundOf ∈ gW := gW_u tb_9 8 (by rfl) (by decide +kernel)
theorem mS_X12_soundOf : Cond.selects RX12 yX12_soundOf yX12_soundOf ∈ gW := gW_p (q := (yX12_soundOf, 59)) 109 (by decide +kernel)
theorem mC_X12_soundOf : Cond.code yX12_soundOf cX12_soundOf 3 (some .int) ∈ gW := gW_u tb_9 9 (by rfl) (by decide +kernel)
theorem ok_X12_soundOf : okD yX12_soundOf 2 := ⟨by decide +kernel, by decide +kernel, by decide +kernel⟩
theorem dX12_isHidden_64 : decode cX12_isHidden 64 = .ok (.aload_n 0, 1) := by decide +kernel
theorem dX12_isHidden_65 : decode cX12_isHidden 65 = .ok (.getfield 13, 3) := by decide +kernel
theorem dX12_isHidden_68 : decode cX12_isHidden 68 = .ok (.sipush 210, 3) := by decide +kernel
theorem dX12_isHidden_71 : decode cX12_isHidden 71 = .ok (.iconst 2, 1) := by decide +kernel
theorem dX12_isHidden_72 : decode cX12_isHidden 72 = .ok (.iload_n 3, 1) := by decide +kernel
theorem dX12_isHidden_73 : decode cX12_isHidden 73 = .ok (.imul, 1) := by decide +kernel
theorem dX12_isHidden_74 : decode cX12_isHidden 74 = .ok (.iadd, 1) := by decide +kernel
theorem dX12_isHidden_75 : decode cX12_isHidden 75 = .ok (.iconst 1, 1) := by decide +kernel
theorem dX12_isHidden_76 : decode cX12_isHidden 76 = .ok (.iadd, 1) := by decide +kernel
theorem dX12_isHidden_77 : decode cX12_isHidden 77 = .ok (.iaload, 1) := by decide +kernel
theorem dX12_isHidden_78 : decode cX12_isHidden 78 = .ok (.if_icmp .ne 7, 3) := by decide +kernel
theorem dX12_isHidden_85 : decode cX12_isHidden 85 = .ok (.iconst 0, 1) := by decide +kernel
theorem dX12_isHidden_86 : decode cX12_isHidden 86 = .ok (.istore_n 2, 1) := by decide +kernel
theorem dX12_isHidden_87 : decode cX12_isHidden 87 = .ok (.iinc 3 1, 3) := by decide +kernel
theorem dX12_isHidden_90 : decode cX12_isHidden 90 = .ok (.goto (-57), 3) := by decide +kernel
theorem dX12_isHidden_81 : decode cX12_isHidden 81 = .ok (.iconst 1, 1) := by decide +kernel
theorem dX12_isHidden_82 : decode cX12_isHidden 82 = .ok (.goto 4, 3) := by decide +kernel
theorem dX12_isHidden_93 : decode cX12_isHidden 93 = .ok (.iload_n 2, 1) := by decide +kernel
theorem dX12_isHidden_94 : decode cX12_isHidden 94 = .ok (.ireturn, 1) := by decide +kernel
theorem dX12_isHidden_13 : decode cX12_isHidden 13 = .ok (.aload_n 0, 1) := by decide +kernel
theorem dX12_isHidden_14 : decode cX12_isHidden 14 = .ok (.getfield 13, 3) := by decide +kernel
theorem dX12_isHidden_17 : decode cX12_isHidden 17 = .ok (.bipush 33, 2) := by decide +kernel
theorem dX12_isHidden_19 : decode cX12_isHidden 19 = .ok (.iload_n 1, 1) := by decide +kernel
theorem dX12_isHidden_20 : decode cX12_isHidden 20 = .ok (.iadd, 1) := by decide +kernel
theorem dX12_isHidden_21 : decode cX12_isHidden 21 = .ok (.iaload, 1) := by decide +kernel
theorem dX12_isHidden_22 : decode cX12_isHidden 22 = .ok (.ifCond .ne 7, 3) := by decide +kernel
theorem dX12_isHidden_25 : decode cX12_isHidden 25 = .ok (.iconst 1, 1) := by decide +kernel
theorem dX12_isHidden_26 : decode cX12_isHidden 26 = .ok (.goto 4, 3) := by decide +kernel
def yX12_hidden : MethodName := ⟨RX12, "hidden", "()J"⟩
abbrev cX12_hidden : ByteArray := prog_14_method_113_code
theorem dX12_hidden_0 : decode cX12_hidden 0 = .ok (.aload_n 0, 1) := by decide +kernel
theorem dX12_hidden_1 : decode cX12_hidden 1 = .ok (.iconst 0, 1) := by decide +kernel
theorem dX12_hidden_2 : decode cX12_hidden 2 = .ok (.putfield 156, 3) := by decide +kernel
theorem dX12_hidden_5 : decode cX12_hidden 5 = .ok (.lconst 0, 1) := by decide +kernel
theorem dX12_hidden_6 : decode cX12_hidden 6 = .ok (.lstore_n 1, 1) := by decide +kernel
theorem dX12_hidden_7 : decode cX12_hidden 7 = .ok (.iconst 0, 1) := by decide +kernel
theorem dX12_hidden_8 : decode cX12_hidden 8 = .ok (.istore_n 3, 1) := by decide +kernel
theorem dX12_hidden_9 : decode cX12_hidden 9 = .ok (.iload_n 3, 1) := by decide +kernel
theorem dX12_hidden_10 : decode cX12_hidden 10 = .ok (.bipush 40, 2) := by decide +kernel
theorem dX12_hidden_12 : decode cX12_hidden 12 = .ok (.if_icmp .ge 27, 3) := by decide +kernel
theorem dX12_hidden_15 : decode cX12_hidden 15 = .ok (.lload_n 1, 1) := by decide +kernel
theorem dX12_hidden_16 : decode cX12_hidden 16 = .ok (.aload_n 0, 1) := by decide +kernel
theorem dX12_hidden_17 : decode cX12_hidden 17 = .ok (.iload_n 3, 1) := by decide +kernel
theorem dX12_hidden_18 : decode cX12_hidden 18 = .ok (.invokevirtual 537, 3) := by decide +kernel
theorem lk_RX12_537 : Cond.methodLink RX12 537 yX12_isHidden ∈ gW := gW_u tb_9 2 (by rfl) (by decide +kernel)
theorem mI_X12_isHidden : Cond.instanceMethod yX12_isHidden ∈ gW := gW_u tb_9 4 (by rfl) (by decide +kernel)
theorem mS_X12_isHidden : Cond.selects RX12 yX12_isHidden yX12_isHidden ∈ gW := gW_p (q := (yX12_isHidden, 59)) 108 (by decide +kernel)
theorem mC_X12_isHidden : Cond.code yX12_isHidden cX12_isHidden 4 (some .boolean) ∈ gW := gW_u tb_9 5 (by rfl) (by decide +kernel)
theorem ok_X12_isHidden : okD yX12_isHidden 1 := ⟨by decide +kernel, by decide +kernel, by decide +kernel⟩
theorem dX12_hidden_21 : decode cX12_hidden 21 = .ok (.ifCond .eq 9, 3) := by decide +kernel
theorem dX12_hidden_30 : decode cX12_hidden 30 = .ok (.lconst 0, 1) := by decide +kernel
theorem dX12_hidden_31 : decode cX12_hidden 31 = .ok (.lor, 1) := by decide +kernel
theorem dX12_hidden_32 : decode cX12_hidden 32 = .ok (.lstore_n 1, 1) := by decide +kernel
theorem dX12_hidden_33 : decode cX12_hidden 33 = .ok (.iinc 3 1, 3) := by decide +kernel
theorem dX12_hidden_36 : decode cX12_hidden 36 = .ok (.goto (-27), 3) := by decide +kernel
theorem dX12_hidden_24 : decode cX12_hidden 24 = .ok (.lconst 1, 1) := by decide +kernel
theorem dX12_hidden_25 : decode cX12_hidden 25 = .ok (.iload_n 3, 1) := by decide +kernel
theorem dX12_hidden_26 : decode cX12_hidden 26 = .ok (.lshl, 1) := by decide +kernel
theorem dX12_hidden_27 : decode cX12_hidden 27 = .ok (.goto 4, 3) := by decide +kernel
theorem dX12_hidden_39 : decode cX12_hidden 39 = .ok (.lload_n 1, 1) := by decide +kernel
theorem dX12_hidden_40 : decode cX12_hidden 40 = .ok (.lreturn, 1) := by decide +kernel
def yX12_next : MethodName := ⟨RX12, "next", "(I)I"⟩
abbrev cX12_next : ByteArray := prog_14_method_114_code
theorem dX12_next_0 : decode cX12_next 0 = .ok (.aload_n 0, 1) := by decide +kernel
theorem dX12_next_1 : decode cX12_next 1 = .ok (.iconst 0, 1) := by decide +kernel
theorem dX12_next_2 : decode cX12_next 2 = .ok (.putfield 156, 3) := by decide +kernel
theorem dX12_next_5 : decode cX12_next 5 = .ok (.iload_n 1, 1) := by decide +kernel
theorem dX12_next_6 : decode cX12_next 6 = .ok (.i2l, 1) := by decide +kernel
theorem dX12_next_7 : decode cX12_next 7 = .ok (.lconst 0, 1) := by decide +kernel
theorem dX12_next_8 : decode cX12_next 8 = .ok (.lconst 1, 1) := by decide +kernel
theorem dX12_next_9 : decode cX12_next 9 = .ok (.invokestatic 180, 3) := by decide +kernel
theorem dX12_next_12 : decode cX12_next 12 = .ok (.ifCond .ne 5, 3) := by decide +kernel
theorem dX12_next_17 : decode cX12_next 17 = .ok (.ldc_w 505, 3) := by decide +kernel
theorem dX12_next_20 : decode cX12_next 20 = .ok (.istore_n 2, 1) := by decide +kernel
theorem dX12_next_21 : decode cX12_next 21 = .ok (.iconst (-1), 1) := by decide +kernel
theorem dX12_next_22 : decode cX12_next 22 = .ok (.istore_n 3, 1) := by decide +kernel
theorem dX12_next_23 : decode cX12_next 23 = .ok (.iconst 0, 1) := by decide +kernel
theorem dX12_next_24 : decode cX12_next 24 = .ok (.istore 4, 2) := by decide +kernel
theorem dX12_next_26 : decode cX12_next 26 = .ok (.iload 4, 2) := by decide +kernel
theorem dX12_next_28 : decode cX12_next 28 = .ok (.bipush 8, 2) := by decide +kernel
theorem dX12_next_30 : decode cX12_next 30 = .ok (.if_icmp .ge 144, 3) := by decide +kernel
theorem dX12_next_33 : decode cX12_next 33 = .ok (.iconst 0, 1) := by decide +kernel
theorem dX12_next_34 : decode cX12_next 34 = .ok (.istore 5, 2) := by decide +kernel
theorem dX12_next_36 : decode cX12_next 36 = .ok (.iload 5, 2) := by decide +kernel
theorem dX12_next_38 : decode cX12_next 38 = .ok (.bipush 100, 2) := by decide +kernel
theorem dX12_next_40 : decode cX12_next 40 = .ok (.if_icmp .ge 17, 3) := by decide +kernel
theorem dX12_next_43 : decode cX12_next 43 = .ok (.aload_n 0, 1) := by decide +kernel
theorem dX12_next_44 : decode cX12_next 44 = .ok (.getfield 127, 3) := by decide +kernel
theorem fl_RX12_127 : Cond.fieldLink RX12 127 RX12 "alike" "[I" ∈ gW := gW_u tb_6 120 (by rfl) (by decide +kernel)
theorem dX12_next_47 : decode cX12_next 47 = .ok (.iload 5, 2) := by decide +kernel
theorem dX12_next_49 : decode cX12_next 49 = .ok (.iconst 0, 1) := by decide +kernel
theorem dX12_next_50 : decode cX12_next 50 = .ok (.iastore, 1) := by decide +kernel
theorem dX12_next_51 : decode cX12_next 51 = .ok (.iinc 5 1, 3) := by decide +kernel
theorem dX12_next_54 : decode cX12_next 54 = .ok (.goto (-18), 3) := by decide +kernel
theorem dX12_next_57 : decode cX12_next 57 = .ok (.iconst 0, 1) := by decide +kernel
theorem dX12_next_58 : decode cX12_next 58 = .ok (.istore 5, 2) := by decide +kernel
theorem dX12_next_60 : decode cX12_next 60 = .ok (.iconst 0, 1) := by decide +kernel
theorem dX12_next_61 : decode cX12_next 61 = .ok (.istore 6, 2) := by decide +kernel
theorem dX12_next_63 : decode cX12_next 63 = .ok (.iload 6, 2) := by decide +kernel
theorem dX12_next_65 : decode cX12_next 65 = .ok (.bipush 40, 2) := by decide +kernel
theorem dX12_next_67 : decode cX12_next 67 = .ok (.if_icmp .ge 65, 3) := by decide +kernel
theorem dX12_next_70 : decode cX12_next 70 = .ok (.aload_n 0, 1) := by decide +kernel
theorem dX12_next_71 : decode cX12_next 71 = .ok (.iload 6, 2) := by decide +kernel
theorem dX12_next_73 : decode cX12_next 73 = .ok (.invokevirtual 537, 3) := by decide +kernel
theorem dX12_next_76 : decode cX12_next 76 = .ok (.ifCond .eq 50, 3) := by decide +kernel
theorem dX12_next_126 : decode cX12_next 126 = .ok (.iinc 6 1, 3) := by decide +kernel
theorem dX12_next_129 : decode cX12_next 129 = .ok (.goto (-66), 3) := by decide +kernel
theorem dX12_next_79 : decode cX12_next 79 = .ok (.aload_n 0, 1) := by decide +kernel
theorem dX12_next_80 : decode cX12_next 80 = .ok (.iload 6, 2) := by decide +kernel
theorem dX12_next_82 : decode cX12_next 82 = .ok (.iload 4, 2) := by decide +kernel
theorem dX12_next_84 : decode cX12_next 84 = .ok (.invokevirtual 534, 3) := by decide +kernel
theorem dX12_next_87 : decode cX12_next 87 = .ok (.istore 7, 2) := by decide +kernel
theorem dX12_next_89 : decode cX12_next 89 = .ok (.aload_n 0, 1) := by decide +kernel
theorem dX12_next_90 : decode cX12_next 90 = .ok (.getfield 127, 3) := by decide +kernel
theorem dX12_next_93 : decode cX12_next 93 = .ok (.iload 7, 2) := by decide +kernel
theorem dX12_next_95 : decode cX12_next 95 = .ok (.dup2, 1) := by decide +kernel
theorem dX12_next_96 : decode cX12_next 96 = .ok (.iaload, 1) := by decide +kernel
theorem dX12_next_97 : decode cX12_next 97 = .ok (.iconst 1, 1) := by decide +kernel
theorem dX12_next_98 : decode cX12_next 98 = .ok (.iadd, 1) := by decide +kernel
theorem dX12_next_99 : decode cX12_next 99 = .ok (.iastore, 1) := by decide +kernel
theorem dX12_next_100 : decode cX12_next 100 = .ok (.aload_n 0, 1) := by decide +kernel
theorem dX12_next_101 : decode cX12_next 101 = .ok (.getfield 127, 3) := by decide +kernel
theorem dX12_next_104 : decode cX12_next 104 = .ok (.iload 7, 2) := by decide +kernel
theorem dX12_next_106 : decode cX12_next 106 = .ok (.iaload, 1) := by decide +kernel
theorem dX12_next_107 : decode cX12_next 107 = .ok (.iload 5, 2) := by decide +kernel
theorem dX12_next_109 : decode cX12_next 109 = .ok (.if_icmp .le 13, 3) := by decide +kernel
theorem dX12_next_122 : decode cX12_next 122 = .ok (.iload 5, 2) := by decide +kernel
theorem dX12_next_124 : decode cX12_next 124 = .ok (.istore 5, 2) := by decide +kernel
theorem dX12_next_112 : decode cX12_next 112 = .ok (.aload_n 0, 1) := by decide +kernel
theorem dX12_next_113 : decode cX12_next 113 = .ok (.getfield 127, 3) := by decide +kernel
theorem dX12_next_116 : decode cX12_next 116 = .ok (.iload 7, 2) := by decide +kernel
theorem dX12_next_118 : decode cX12_next 118 = .ok (.iaload, 1) := by decide +kernel
theorem dX12_next_119 : decode cX12_next 119 = .ok (.goto 5, 3) := by decide +kernel
theorem dX12_next_132 : decode cX12_next 132 = .ok (.iload 5, 2) := by decide +kernel
theorem dX12_next_134 : decode cX12_next 134 = .ok (.ifCond .le 14, 3) := by decide +kernel
theorem dX12_next_148 : decode cX12_next 148 = .ok (.iload_n 3, 1) := by decide +kernel
theorem dX12_next_137 : decode cX12_next 137 = .ok (.iload 5, 2) := by decide +kernel
theorem dX12_next_139 : decode cX12_next 139 = .ok (.iload_n 2, 1) := by decide +kernel
theorem dX12_next_140 : decode cX12_next 140 = .ok (.if_icmp .ge 8, 3) := by decide +kernel
theorem dX12_next_143 : decode cX12_next 143 = .ok (.iload 4, 2) := by decide +kernel
theorem dX12_next_145 : decode cX12_next 145 = .ok (.goto 4, 3) := by decide +kernel
theorem dX12_next_149 : decode cX12_next 149 = .ok (.istore_n 3, 1) := by decide +kernel
theorem dX12_next_150 : decode cX12_next 150 = .ok (.iload 5, 2) := by decide +kernel
theorem dX12_next_152 : decode cX12_next 152 = .ok (.ifCond .le 14, 3) := by decide +kernel
theorem dX12_next_166 : decode cX12_next 166 = .ok (.iload_n 2, 1) := by decide +kernel
theorem dX12_next_167 : decode cX12_next 167 = .ok (.istore_n 2, 1) := by decide +kernel
theorem dX12_next_168 : decode cX12_next 168 = .ok (.iinc 4 1, 3) := by decide +kernel
theorem dX12_next_171 : decode cX12_next 171 = .ok (.goto (-145), 3) := by decide +kernel
theorem dX12_next_155 : decode cX12_next 155 = .ok (.iload 5, 2) := by decide +kernel
theorem dX12_next_157 : decode cX12_next 157 = .ok (.iload_n 2, 1) := by decide +kernel
theorem dX12_next_158 : decode cX12_next 158 = .ok (.if_icmp .ge 8, 3) := by decide +kernel
theorem dX12_next_161 : decode cX12_next 161 = .ok (.iload 5, 2) := by decide +kernel
theorem dX12_next_163 : decode cX12_next 163 = .ok (.goto 4, 3) := by decide +kernel
theorem dX12_next_174 : decode cX12_next 174 = .ok (.iload_n 3, 1) := by decide +kernel
theorem dX12_next_175 : decode cX12_next 175 = .ok (.iconst (-1), 1) := by decide +kernel
theorem dX12_next_176 : decode cX12_next 176 = .ok (.if_icmp .eq 7, 3) := by decide +kernel
theorem dX12_next_183 : decode cX12_next 183 = .ok (.iload_n 3, 1) := by decide +kernel
theorem dX12_next_184 : decode cX12_next 184 = .ok (.goto 4, 3) := by decide +kernel
theorem dX12_next_188 : decode cX12_next 188 = .ok (.ireturn, 1) := by decide +kernel
theorem dX12_next_179 : decode cX12_next 179 = .ok (.iload_n 1, 1) := by decide +kernel
theorem dX12_next_180 : decode cX12_next 180 = .ok (.ifCond .ne 7, 3) := by decide +kernel
theorem dX12_next_187 : decode cX12_next 187 = .ok (.iload_n 2, 1) := by decide +kernel
theorem dX12_next_15 : decode cX12_next 15 = .ok (.iconst (-1), 1) := by decide +kernel
theorem dX12_next_16 : decode cX12_next 16 = .ok (.ireturn, 1) := by decide +kernel
def yX12_well : MethodName := ⟨RX12, "well", "(II)I"⟩
abbrev cX12_well : ByteArray := prog_14_method_115_code
theorem dX12_well_0 : decode cX12_well 0 = .ok (.aload_n 0, 1) := by decide +kernel
theorem dX12_well_1 : decode cX12_well 1 = .ok (.iconst 0, 1) := by decide +kernel
theorem dX12_well_2 : decode cX12_well 2 = .ok (.putfield 156, 3) := by decide +kernel
theorem dX12_well_5 : decode cX12_well 5 = .ok (.iload_n 1, 1) := by decide +kernel
theorem dX12_well_6 : decode cX12_well 6 = .ok (.i2l, 1) := by decide +kernel
theorem dX12_well_7 : decode cX12_well 7 = .ok (.lconst 0, 1) := by decide +kernel
theorem dX12_well_8 : decode cX12_well 8 = .ok (.ldc2_w 540, 3) := by decide +kernel
theorem ct_RX12_540 : Cond.constantLong RX12 540 63 ∈ gW := gW_u tb_9 18 (by rfl) (by decide +kernel)
theorem dX12_well_11 : decode cX12_well 11 = .ok (.invokestatic 180, 3) := by decide +kernel
theorem dX12_well_14 : decode cX12_well 14 = .ok (.ifCond .eq 13, 3) := by decide +kernel
theorem dX12_well_27 : decode cX12_well 27 = .ok (.aload_n 0, 1) := by decide +kernel
theorem dX12_well_28 : decode cX12_well 28 = .ok (.iconst (-1), 1) := by decide +kernel
theorem dX12_well_29 : decode cX12_well 29 = .ok (.invokevirtual 169, 3) := by decide +kernel
theorem dX12_well_32 : decode cX12_well 32 = .ok (.ireturn, 1) := by decide +kernel
theorem dX12_well_17 : decode cX12_well 17 = .ok (.iload_n 2, 1) := by decide +kernel
theorem dX12_well_18 : decode cX12_well 18 = .ok (.i2l, 1) := by decide +kernel
theorem dX12_well_19 : decode cX12_well 19 = .ok (.lconst 0, 1) := by decide +kernel
theorem dX12_well_20 : decode cX12_well 20 = .ok (.lconst 1, 1) := by decide +kernel
theorem dX12_well_21 : decode cX12_well 21 = .ok (.invokestatic 180, 3) := by decide +kernel
theorem dX12_well_24 : decode cX12_well 24 = .ok (.ifCond .ne 9, 3) := by decide +kernel
theorem dX12_well_33 : decode cX12_well 33 = .ok (.aload_n 0, 1) := by decide +kernel
theorem dX12_well_34 : decode cX12_well 34 = .ok (.getfield 13, 3) := by decide +kernel
theorem dX12_well_37 : decode cX12_well 37 = .ok (.iconst 4, 1) := by decide +kernel
theorem dX12_well_38 : decode cX12_well 38 = .ok (.iaload, 1) := by decide +kernel
theorem dX12_well_39 : decode cX12_well 39 = .ok (.istore_n 3, 1) := by decide +kernel
theorem dX12_well_40 : decode cX12_well 40 = .ok (.iload_n 3, 1) := by decide +kernel
theorem dX12_well_41 : decode cX12_well 41 = .ok (.bipush 10, 2) := by decide +kernel
theorem dX12_well_43 : decode cX12_well 43 = .ok (.if_icmp .ne 10, 3) := by decide +kernel
theorem dX12_well_53 : decode cX12_well 53 = .ok (.aload_n 0, 1) := by decide +kernel
theorem dX12_well_54 : decode cX12_well 54 = .ok (.getfield 13, 3) := by decide +kernel
theorem dX12_well_57 : decode cX12_well 57 = .ok (.sipush 226, 3) := by decide +kernel
theorem dX12_well_60 : decode cX12_well 60 = .ok (.iconst 2, 1) := by decide +kernel
theorem dX12_well_61 : decode cX12_well 61 = .ok (.iload_n 3, 1) := by decide +kernel
theorem dX12_well_62 : decode cX12_well 62 = .ok (.imul, 1) := by decide +kernel
theorem dX12_well_63 : decode cX12_well 63 = .ok (.iadd, 1) := by decide +kernel
theorem dX12_well_64 : decode cX12_well 64 = .ok (.iload_n 1, 1) := by decide +kernel
theorem dX12_well_65 : decode cX12_well 65 = .ok (.iastore, 1) := by decide +kernel
theorem dX12_well_66 : decode cX12_well 66 = .ok (.aload_n 0, 1) := by decide +kernel
theorem dX12_well_67 : decode cX12_well 67 = .ok (.getfield 13, 3) := by decide +kernel
theorem dX12_well_70 : decode cX12_well 70 = .ok (.sipush 226, 3) := by decide +kernel
theorem dX12_well_73 : decode cX12_well 73 = .ok (.iconst 2, 1) := by decide +kernel
theorem dX12_well_74 : decode cX12_well 74 = .ok (.iload_n 3, 1) := by decide +kernel
theorem dX12_well_75 : decode cX12_well 75 = .ok (.imul, 1) := by decide +kernel
theorem dX12_well_76 : decode cX12_well 76 = .ok (.iadd, 1) := by decide +kernel
theorem dX12_well_77 : decode cX12_well 77 = .ok (.iconst 1, 1) := by decide +kernel
theorem dX12_well_78 : decode cX12_well 78 = .ok (.iadd, 1) := by decide +kernel
theorem dX12_well_79 : decode cX12_well 79 = .ok (.iload_n 2, 1) := by decide +kernel
theorem dX12_well_80 : decode cX12_well 80 = .ok (.iastore, 1) := by decide +kernel
theorem dX12_well_81 : decode cX12_well 81 = .ok (.aload_n 0, 1) := by decide +kernel
theorem dX12_well_82 : decode cX12_well 82 = .ok (.getfield 13, 3) := by decide +kernel
theorem dX12_well_85 : decode cX12_well 85 = .ok (.iconst 4, 1) := by decide +kernel
theorem dX12_well_86 : decode cX12_well 86 = .ok (.dup2, 1) := by decide +kernel
theorem dX12_well_87 : decode cX12_well 87 = .ok (.iaload, 1) := by decide +kernel
theorem dX12_well_88 : decode cX12_well 88 = .ok (.iconst 1, 1) := by decide +kernel
theorem dX12_well_89 : decode cX12_well 89 = .ok (.iadd, 1) := by decide +kernel
theorem dX12_well_90 : decode cX12_well 90 = .ok (.iastore, 1) := by decide +kernel
theorem dX12_well_91 : decode cX12_well 91 = .ok (.aload_n 0, 1) := by decide +kernel
theorem dX12_well_92 : decode cX12_well 92 = .ok (.iload_n 3, 1) := by decide +kernel
theorem dX12_well_93 : decode cX12_well 93 = .ok (.iconst 1, 1) := by decide +kernel
theorem dX12_well_94 : decode cX12_well 94 = .ok (.iadd, 1) := by decide +kernel
theorem dX12_well_95 : decode cX12_well 95 = .ok (.invokevirtual 169, 3) := by decide +kernel
theorem dX12_well_98 : decode cX12_well 98 = .ok (.ireturn, 1) := by decide +kernel
theorem dX12_well_46 : decode cX12_well 46 = .ok (.aload_n 0, 1) := by decide +kernel
theorem dX12_well_47 : decode cX12_well 47 = .ok (.bipush (-5), 2) := by decide +kernel
theorem dX12_well_49 : decode cX12_well 49 = .ok (.invokevirtual 169, 3) := by decide +kernel
theorem dX12_well_52 : decode cX12_well 52 = .ok (.ireturn, 1) := by decide +kernel
