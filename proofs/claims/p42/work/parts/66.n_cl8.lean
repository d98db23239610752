def yX5_beginHead : MethodName := ⟨RX5, "beginHead", "()V"⟩
abbrev cX5_beginHead : ByteArray := prog_7_method_14_code
theorem dX5_beginHead_0 : decode cX5_beginHead 0 = .ok (.aload_n 0, 1) := by decide +kernel
theorem dX5_beginHead_1 : decode cX5_beginHead 1 = .ok (.iconst 0, 1) := by decide +kernel
theorem dX5_beginHead_2 : decode cX5_beginHead 2 = .ok (.iconst (-1), 1) := by decide +kernel
theorem dX5_beginHead_3 : decode cX5_beginHead 3 = .ok (.invokevirtual 130, 3) := by decide +kernel
theorem dX5_beginHead_6 : decode cX5_beginHead 6 = .ok (.aload_n 0, 1) := by decide +kernel
theorem dX5_beginHead_7 : decode cX5_beginHead 7 = .ok (.iconst 1, 1) := by decide +kernel
theorem dX5_beginHead_8 : decode cX5_beginHead 8 = .ok (.iconst (-1), 1) := by decide +kernel
theorem dX5_beginHead_9 : decode cX5_beginHead 9 = .ok (.invokevirtual 130, 3) := by decide +kernel
theorem dX5_beginHead_12 : decode cX5_beginHead 12 = .ok (.aload_n 0, 1) := by decide +kernel
theorem dX5_beginHead_13 : decode cX5_beginHead 13 = .ok (.iconst 2, 1) := by decide +kernel
theorem dX5_beginHead_14 : decode cX5_beginHead 14 = .ok (.iconst (-1), 1) := by decide +kernel
theorem dX5_beginHead_15 : decode cX5_beginHead 15 = .ok (.invokevirtual 130, 3) := by decide +kernel
theorem dX5_beginHead_18 : decode cX5_beginHead 18 = .ok (.aload_n 0, 1) := by decide +kernel
theorem dX5_beginHead_19 : decode cX5_beginHead 19 = .ok (.iconst 3, 1) := by decide +kernel
theorem dX5_beginHead_20 : decode cX5_beginHead 20 = .ok (.iconst (-1), 1) := by decide +kernel
theorem dX5_beginHead_21 : decode cX5_beginHead 21 = .ok (.invokevirtual 130, 3) := by decide +kernel
theorem dX5_beginHead_24 : decode cX5_beginHead 24 = .ok (.aload_n 0, 1) := by decide +kernel
theorem dX5_beginHead_25 : decode cX5_beginHead 25 = .ok (.iconst 4, 1) := by decide +kernel
theorem dX5_beginHead_26 : decode cX5_beginHead 26 = .ok (.iconst 1, 1) := by decide +kernel
theorem dX5_beginHead_27 : decode cX5_beginHead 27 = .ok (.invokevirtual 130, 3) := by decide +kernel
theorem dX5_beginHead_30 : decode cX5_beginHead 30 = .ok (.return_, 1) := by decide +kernel
def yX7_runOrders : MethodName := ⟨RX7, "runOrders", "(LListenWells$Text;)I"⟩
abbrev cX7_runOrders : ByteArray := prog_9_method_9_code
theorem dX7_runOrders_0 : decode cX7_runOrders 0 = .ok (.aload_n 0, 1) := by decide +kernel
theorem dX7_runOrders_1 : decode cX7_runOrders 1 = .ok (.iconst 0, 1) := by decide +kernel
theorem dX7_runOrders_2 : decode cX7_runOrders 2 = .ok (.putfield 166, 3) := by decide +kernel
theorem fl_RX7_166 : Cond.fieldLink RX7 166 RX7 "done" "I" ∈ gW := gW_t 294 (by decide +kernel) rfl
theorem dX7_runOrders_5 : decode cX7_runOrders 5 = .ok (.aload_n 0, 1) := by decide +kernel
theorem dX7_runOrders_6 : decode cX7_runOrders 6 = .ok (.iconst (-1), 1) := by decide +kernel
theorem dX7_runOrders_7 : decode cX7_runOrders 7 = .ok (.putfield 169, 3) := by decide +kernel
theorem dX7_runOrders_10 : decode cX7_runOrders 10 = .ok (.iconst 0, 1) := by decide +kernel
theorem dX7_runOrders_11 : decode cX7_runOrders 11 = .ok (.istore_n 2, 1) := by decide +kernel
theorem dX7_runOrders_12 : decode cX7_runOrders 12 = .ok (.iload_n 2, 1) := by decide +kernel
theorem dX7_runOrders_13 : decode cX7_runOrders 13 = .ok (.aload_n 1, 1) := by decide +kernel
theorem dX7_runOrders_14 : decode cX7_runOrders 14 = .ok (.getfield 170, 3) := by decide +kernel
theorem fl_RX7_170 : Cond.fieldLink RX7 170 RX8 "clauses" "I" ∈ gW := gW_t 332 (by decide +kernel) rfl
theorem dX7_runOrders_17 : decode cX7_runOrders 17 = .ok (.if_icmp .ge 112, 3) := by decide +kernel
theorem dX7_runOrders_20 : decode cX7_runOrders 20 = .ok (.aload_n 1, 1) := by decide +kernel
theorem dX7_runOrders_21 : decode cX7_runOrders 21 = .ok (.iload_n 2, 1) := by decide +kernel
theorem dX7_runOrders_22 : decode cX7_runOrders 22 = .ok (.iconst 4, 1) := by decide +kernel
theorem dX7_runOrders_23 : decode cX7_runOrders 23 = .ok (.invokevirtual 175, 3) := by decide +kernel
theorem dX7_runOrders_26 : decode cX7_runOrders 26 = .ok (.istore_n 3, 1) := by decide +kernel
theorem dX7_runOrders_27 : decode cX7_runOrders 27 = .ok (.aload_n 1, 1) := by decide +kernel
theorem dX7_runOrders_28 : decode cX7_runOrders 28 = .ok (.iload_n 2, 1) := by decide +kernel
theorem dX7_runOrders_29 : decode cX7_runOrders 29 = .ok (.iconst 3, 1) := by decide +kernel
theorem dX7_runOrders_30 : decode cX7_runOrders 30 = .ok (.invokevirtual 175, 3) := by decide +kernel
theorem dX7_runOrders_33 : decode cX7_runOrders 33 = .ok (.istore 4, 2) := by decide +kernel
theorem dX7_runOrders_35 : decode cX7_runOrders 35 = .ok (.iconst 0, 1) := by decide +kernel
theorem dX7_runOrders_36 : decode cX7_runOrders 36 = .ok (.istore 5, 2) := by decide +kernel
theorem dX7_runOrders_38 : decode cX7_runOrders 38 = .ok (.iload 5, 2) := by decide +kernel
theorem dX7_runOrders_40 : decode cX7_runOrders 40 = .ok (.iload_n 3, 1) := by decide +kernel
theorem dX7_runOrders_41 : decode cX7_runOrders 41 = .ok (.if_icmp .ge 82, 3) := by decide +kernel
theorem dX7_runOrders_44 : decode cX7_runOrders 44 = .ok (.aload_n 0, 1) := by decide +kernel
theorem dX7_runOrders_45 : decode cX7_runOrders 45 = .ok (.getfield 25, 3) := by decide +kernel
theorem dX7_runOrders_48 : decode cX7_runOrders 48 = .ok (.aload_n 0, 1) := by decide +kernel
theorem dX7_runOrders_49 : decode cX7_runOrders 49 = .ok (.getfield 12, 3) := by decide +kernel
theorem dX7_runOrders_52 : decode cX7_runOrders 52 = .ok (.aload_n 0, 1) := by decide +kernel
theorem dX7_runOrders_53 : decode cX7_runOrders 53 = .ok (.getfield 166, 3) := by decide +kernel
theorem dX7_runOrders_56 : decode cX7_runOrders 56 = .ok (.aload_n 0, 1) := by decide +kernel
theorem dX7_runOrders_57 : decode cX7_runOrders 57 = .ok (.getfield 169, 3) := by decide +kernel
theorem dX7_runOrders_60 : decode cX7_runOrders 60 = .ok (.invokevirtual 178, 3) := by decide +kernel
theorem lk_RX7_178 : Cond.methodLink RX7 178 yX0_turnToOrders ∈ gW := gW_t 869 (by decide +kernel) rfl
theorem mI_X0_turnToOrders : Cond.instanceMethod yX0_turnToOrders ∈ gW := gW_t 870 (by decide +kernel) rfl
theorem mS_X0_turnToOrders : Cond.selects RX0 yX0_turnToOrders yX0_turnToOrders ∈ gW := gW_t 871 (by decide +kernel) rfl
theorem mC_X0_turnToOrders : Cond.code yX0_turnToOrders cX0_turnToOrders 4 none ∈ gW := gW_t 872 (by decide +kernel) rfl
theorem ok_X0_turnToOrders : okD yX0_turnToOrders 3 := ⟨by decide +kernel, by decide +kernel, by decide +kernel⟩
theorem dX7_runOrders_63 : decode cX7_runOrders 63 = .ok (.iload 4, 2) := by decide +kernel
theorem dX7_runOrders_65 : decode cX7_runOrders 65 = .ok (.iconst (-1), 1) := by decide +kernel
theorem dX7_runOrders_66 : decode cX7_runOrders 66 = .ok (.if_icmp .eq 30, 3) := by decide +kernel
theorem dX7_runOrders_69 : decode cX7_runOrders 69 = .ok (.aload_n 0, 1) := by decide +kernel
theorem dX7_runOrders_70 : decode cX7_runOrders 70 = .ok (.getfield 25, 3) := by decide +kernel
theorem dX7_runOrders_73 : decode cX7_runOrders 73 = .ok (.aload_n 1, 1) := by decide +kernel
theorem dX7_runOrders_74 : decode cX7_runOrders 74 = .ok (.iload 4, 2) := by decide +kernel
theorem dX7_runOrders_76 : decode cX7_runOrders 76 = .ok (.invokevirtual 182, 3) := by decide +kernel
theorem dX7_runOrders_79 : decode cX7_runOrders 79 = .ok (.ifCond .eq 38, 3) := by decide +kernel
theorem dX7_runOrders_117 : decode cX7_runOrders 117 = .ok (.iinc 5 1, 3) := by decide +kernel
theorem dX7_runOrders_120 : decode cX7_runOrders 120 = .ok (.goto (-82), 3) := by decide +kernel
theorem dX7_runOrders_82 : decode cX7_runOrders 82 = .ok (.aload_n 0, 1) := by decide +kernel
theorem dX7_runOrders_83 : decode cX7_runOrders 83 = .ok (.getfield 25, 3) := by decide +kernel
theorem dX7_runOrders_86 : decode cX7_runOrders 86 = .ok (.invokevirtual 186, 3) := by decide +kernel
theorem dX7_runOrders_89 : decode cX7_runOrders 89 = .ok (.iconst 1, 1) := by decide +kernel
theorem dX7_runOrders_90 : decode cX7_runOrders 90 = .ok (.if_icmp .eq 6, 3) := by decide +kernel
theorem dX7_runOrders_93 : decode cX7_runOrders 93 = .ok (.goto 24, 3) := by decide +kernel
theorem dX7_runOrders_96 : decode cX7_runOrders 96 = .ok (.aload_n 0, 1) := by decide +kernel
theorem dX7_runOrders_97 : decode cX7_runOrders 97 = .ok (.aload_n 1, 1) := by decide +kernel
theorem dX7_runOrders_98 : decode cX7_runOrders 98 = .ok (.iload_n 2, 1) := by decide +kernel
theorem dX7_runOrders_99 : decode cX7_runOrders 99 = .ok (.invokevirtual 190, 3) := by decide +kernel
theorem lk_RX7_190 : Cond.methodLink RX7 190 yX7_runOrder ∈ gW := gW_t 878 (by decide +kernel) rfl
theorem mI_X7_runOrder : Cond.instanceMethod yX7_runOrder ∈ gW := gW_t 880 (by decide +kernel) rfl
theorem mS_X7_runOrder : Cond.selects RX7 yX7_runOrder yX7_runOrder ∈ gW := gW_p (q := (yX7_runOrder, 5)) 28 (by decide +kernel)
theorem mC_X7_runOrder : Cond.code yX7_runOrder cX7_runOrder 6 (some .boolean) ∈ gW := gW_t 881 (by decide +kernel) rfl
theorem ok_X7_runOrder : okD yX7_runOrder 2 := ⟨by decide +kernel, by decide +kernel, by decide +kernel⟩
theorem dX7_runOrders_102 : decode cX7_runOrders 102 = .ok (.ifCond .ne 5, 3) := by decide +kernel
theorem dX7_runOrders_107 : decode cX7_runOrders 107 = .ok (.aload_n 0, 1) := by decide +kernel
theorem dX7_runOrders_108 : decode cX7_runOrders 108 = .ok (.dup, 1) := by decide +kernel
theorem dX7_runOrders_109 : decode cX7_runOrders 109 = .ok (.getfield 166, 3) := by decide +kernel
theorem dX7_runOrders_112 : decode cX7_runOrders 112 = .ok (.iconst 1, 1) := by decide +kernel
theorem dX7_runOrders_113 : decode cX7_runOrders 113 = .ok (.iadd, 1) := by decide +kernel
theorem dX7_runOrders_114 : decode cX7_runOrders 114 = .ok (.putfield 166, 3) := by decide +kernel
theorem dX7_runOrders_105 : decode cX7_runOrders 105 = .ok (.iload_n 2, 1) := by decide +kernel
theorem dX7_runOrders_106 : decode cX7_runOrders 106 = .ok (.ireturn, 1) := by decide +kernel
theorem dX7_runOrders_123 : decode cX7_runOrders 123 = .ok (.iinc 2 1, 3) := by decide +kernel
theorem dX7_runOrders_126 : decode cX7_runOrders 126 = .ok (.goto (-114), 3) := by decide +kernel
theorem dX7_runOrders_129 : decode cX7_runOrders 129 = .ok (.iconst (-1), 1) := by decide +kernel
theorem dX7_runOrders_130 : decode cX7_runOrders 130 = .ok (.ireturn, 1) := by decide +kernel
