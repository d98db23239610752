def yX9_fewestFrom : MethodName := ⟨RX9, "fewestFrom", "(III)I"⟩
abbrev cX9_fewestFrom : ByteArray := prog_11_method_8_code
theorem dX9_fewestFrom_0 : decode cX9_fewestFrom 0 = .ok (.aload_n 0, 1) := by decide +kernel
theorem dX9_fewestFrom_1 : decode cX9_fewestFrom 1 = .ok (.getfield 31, 3) := by decide +kernel
theorem dX9_fewestFrom_4 : decode cX9_fewestFrom 4 = .ok (.iload_n 1, 1) := by decide +kernel
theorem dX9_fewestFrom_5 : decode cX9_fewestFrom 5 = .ok (.iconst 1, 1) := by decide +kernel
theorem dX9_fewestFrom_6 : decode cX9_fewestFrom 6 = .ok (.iadd, 1) := by decide +kernel
theorem dX9_fewestFrom_7 : decode cX9_fewestFrom 7 = .ok (.bipush 64, 2) := by decide +kernel
theorem dX9_fewestFrom_9 : decode cX9_fewestFrom 9 = .ok (.imul, 1) := by decide +kernel
theorem dX9_fewestFrom_10 : decode cX9_fewestFrom 10 = .ok (.iload_n 2, 1) := by decide +kernel
theorem dX9_fewestFrom_11 : decode cX9_fewestFrom 11 = .ok (.iadd, 1) := by decide +kernel
theorem dX9_fewestFrom_12 : decode cX9_fewestFrom 12 = .ok (.iaload, 1) := by decide +kernel
theorem dX9_fewestFrom_13 : decode cX9_fewestFrom 13 = .ok (.istore 4, 2) := by decide +kernel
theorem dX9_fewestFrom_15 : decode cX9_fewestFrom 15 = .ok (.iconst 0, 1) := by decide +kernel
theorem dX9_fewestFrom_16 : decode cX9_fewestFrom 16 = .ok (.istore 5, 2) := by decide +kernel
theorem dX9_fewestFrom_18 : decode cX9_fewestFrom 18 = .ok (.iload 5, 2) := by decide +kernel
theorem dX9_fewestFrom_20 : decode cX9_fewestFrom 20 = .ok (.iload_n 3, 1) := by decide +kernel
theorem dX9_fewestFrom_21 : decode cX9_fewestFrom 21 = .ok (.if_icmp .ge 33, 3) := by decide +kernel
theorem dX9_fewestFrom_24 : decode cX9_fewestFrom 24 = .ok (.iload_n 2, 1) := by decide +kernel
theorem dX9_fewestFrom_25 : decode cX9_fewestFrom 25 = .ok (.iload 5, 2) := by decide +kernel
theorem dX9_fewestFrom_27 : decode cX9_fewestFrom 27 = .ok (.ishr, 1) := by decide +kernel
theorem dX9_fewestFrom_28 : decode cX9_fewestFrom 28 = .ok (.iconst 1, 1) := by decide +kernel
theorem dX9_fewestFrom_29 : decode cX9_fewestFrom 29 = .ok (.iand, 1) := by decide +kernel
theorem dX9_fewestFrom_30 : decode cX9_fewestFrom 30 = .ok (.ifCond .eq 18, 3) := by decide +kernel
theorem dX9_fewestFrom_48 : decode cX9_fewestFrom 48 = .ok (.iinc 5 1, 3) := by decide +kernel
theorem dX9_fewestFrom_51 : decode cX9_fewestFrom 51 = .ok (.goto (-33), 3) := by decide +kernel
theorem dX9_fewestFrom_33 : decode cX9_fewestFrom 33 = .ok (.iload 4, 2) := by decide +kernel
theorem dX9_fewestFrom_35 : decode cX9_fewestFrom 35 = .ok (.aload_n 0, 1) := by decide +kernel
theorem dX9_fewestFrom_36 : decode cX9_fewestFrom 36 = .ok (.iload_n 1, 1) := by decide +kernel
theorem dX9_fewestFrom_37 : decode cX9_fewestFrom 37 = .ok (.iload_n 2, 1) := by decide +kernel
theorem dX9_fewestFrom_38 : decode cX9_fewestFrom 38 = .ok (.iload 5, 2) := by decide +kernel
theorem dX9_fewestFrom_40 : decode cX9_fewestFrom 40 = .ok (.invokevirtual 116, 3) := by decide +kernel
theorem dX9_fewestFrom_43 : decode cX9_fewestFrom 43 = .ok (.invokestatic 63, 3) := by decide +kernel
theorem dX9_fewestFrom_46 : decode cX9_fewestFrom 46 = .ok (.istore 4, 2) := by decide +kernel
theorem dX9_fewestFrom_54 : decode cX9_fewestFrom 54 = .ok (.iload 4, 2) := by decide +kernel
theorem dX9_fewestFrom_56 : decode cX9_fewestFrom 56 = .ok (.ireturn, 1) := by decide +kernel
def yX9_chanceIn : MethodName := ⟨RX9, "chanceIn", "(II)J"⟩
abbrev cX9_chanceIn : ByteArray := prog_11_method_11_code
theorem dX9_chanceIn_0 : decode cX9_chanceIn 0 = .ok (.aload_n 0, 1) := by decide +kernel
theorem dX9_chanceIn_1 : decode cX9_chanceIn 1 = .ok (.getfield 92, 3) := by decide +kernel
theorem fl_RX9_92 : Cond.fieldLink RX9 92 RX9 "days" "I" ∈ gW := gW_t 394 (by decide +kernel) rfl
theorem dX9_chanceIn_4 : decode cX9_chanceIn 4 = .ok (.iload_n 1, 1) := by decide +kernel
theorem dX9_chanceIn_5 : decode cX9_chanceIn 5 = .ok (.if_icmp .gt 12, 3) := by decide +kernel
theorem dX9_chanceIn_17 : decode cX9_chanceIn 17 = .ok (.lconst 0, 1) := by decide +kernel
theorem dX9_chanceIn_18 : decode cX9_chanceIn 18 = .ok (.lreturn, 1) := by decide +kernel
theorem dX9_chanceIn_8 : decode cX9_chanceIn 8 = .ok (.iload_n 1, 1) := by decide +kernel
theorem dX9_chanceIn_9 : decode cX9_chanceIn 9 = .ok (.aload_n 0, 1) := by decide +kernel
theorem dX9_chanceIn_10 : decode cX9_chanceIn 10 = .ok (.getfield 37, 3) := by decide +kernel
theorem fl_RX9_37 : Cond.fieldLink RX9 37 RX9 "chance" "[J" ∈ gW := gW_t 401 (by decide +kernel) rfl
theorem dX9_chanceIn_13 : decode cX9_chanceIn 13 = .ok (.arraylength, 1) := by decide +kernel
theorem dX9_chanceIn_14 : decode cX9_chanceIn 14 = .ok (.if_icmp .lt 5, 3) := by decide +kernel
theorem dX9_chanceIn_19 : decode cX9_chanceIn 19 = .ok (.aload_n 0, 1) := by decide +kernel
theorem dX9_chanceIn_20 : decode cX9_chanceIn 20 = .ok (.getfield 37, 3) := by decide +kernel
theorem dX9_chanceIn_23 : decode cX9_chanceIn 23 = .ok (.lconst 0, 1) := by decide +kernel
theorem dX9_chanceIn_24 : decode cX9_chanceIn 24 = .ok (.invokestatic 119, 3) := by decide +kernel
theorem lk_RX9_119 : Cond.methodLink RX9 119 yJ7_fill_d0a16 ∈ gW := gW_t 1199 (by decide +kernel) rfl
theorem mT_J7_fill_d0a16 : Cond.static yJ7_fill_d0a16 ∈ gW := gW_t 1200 (by decide +kernel) rfl
theorem mC_J7_fill_d0a16 : Cond.code yJ7_fill_d0a16 cJ7_fill_d0a16 5 none ∈ gW := gW_t 1201 (by decide +kernel) rfl
theorem ok_J7_fill_d0a16 : okD yJ7_fill_d0a16 2 := ⟨by decide +kernel, by decide +kernel, by decide +kernel⟩
theorem dX9_chanceIn_27 : decode cX9_chanceIn 27 = .ok (.aload_n 0, 1) := by decide +kernel
theorem dX9_chanceIn_28 : decode cX9_chanceIn 28 = .ok (.getfield 37, 3) := by decide +kernel
theorem dX9_chanceIn_31 : decode cX9_chanceIn 31 = .ok (.iconst 0, 1) := by decide +kernel
theorem dX9_chanceIn_32 : decode cX9_chanceIn 32 = .ok (.ldc2_w 125, 3) := by decide +kernel
theorem ct_RX9_125 : Cond.constantLong RX9 125 1000000000000 ∈ gW := gW_t 1202 (by decide +kernel) rfl
theorem dX9_chanceIn_35 : decode cX9_chanceIn 35 = .ok (.lastore, 1) := by decide +kernel
theorem dX9_chanceIn_36 : decode cX9_chanceIn 36 = .ok (.iconst 0, 1) := by decide +kernel
theorem dX9_chanceIn_37 : decode cX9_chanceIn 37 = .ok (.istore_n 3, 1) := by decide +kernel
theorem dX9_chanceIn_38 : decode cX9_chanceIn 38 = .ok (.iload_n 3, 1) := by decide +kernel
theorem dX9_chanceIn_39 : decode cX9_chanceIn 39 = .ok (.iload_n 1, 1) := by decide +kernel
theorem dX9_chanceIn_40 : decode cX9_chanceIn 40 = .ok (.if_icmp .ge 82, 3) := by decide +kernel
theorem dX9_chanceIn_43 : decode cX9_chanceIn 43 = .ok (.aload_n 0, 1) := by decide +kernel
theorem dX9_chanceIn_44 : decode cX9_chanceIn 44 = .ok (.getfield 92, 3) := by decide +kernel
theorem dX9_chanceIn_47 : decode cX9_chanceIn 47 = .ok (.iconst 1, 1) := by decide +kernel
theorem dX9_chanceIn_48 : decode cX9_chanceIn 48 = .ok (.isub, 1) := by decide +kernel
theorem dX9_chanceIn_49 : decode cX9_chanceIn 49 = .ok (.iload_n 3, 1) := by decide +kernel
theorem dX9_chanceIn_50 : decode cX9_chanceIn 50 = .ok (.invokestatic 63, 3) := by decide +kernel
theorem dX9_chanceIn_53 : decode cX9_chanceIn 53 = .ok (.istore 4, 2) := by decide +kernel
theorem dX9_chanceIn_55 : decode cX9_chanceIn 55 = .ok (.iload 4, 2) := by decide +kernel
theorem dX9_chanceIn_57 : decode cX9_chanceIn 57 = .ok (.ifCond .lt 59, 3) := by decide +kernel
theorem dX9_chanceIn_60 : decode cX9_chanceIn 60 = .ok (.aload_n 0, 1) := by decide +kernel
theorem dX9_chanceIn_61 : decode cX9_chanceIn 61 = .ok (.getfield 37, 3) := by decide +kernel
theorem dX9_chanceIn_64 : decode cX9_chanceIn 64 = .ok (.iload 4, 2) := by decide +kernel
theorem dX9_chanceIn_66 : decode cX9_chanceIn 66 = .ok (.iconst 1, 1) := by decide +kernel
theorem dX9_chanceIn_67 : decode cX9_chanceIn 67 = .ok (.iadd, 1) := by decide +kernel
theorem dX9_chanceIn_68 : decode cX9_chanceIn 68 = .ok (.dup2, 1) := by decide +kernel
theorem dX9_chanceIn_69 : decode cX9_chanceIn 69 = .ok (.laload, 1) := by decide +kernel
theorem dX9_chanceIn_70 : decode cX9_chanceIn 70 = .ok (.aload_n 0, 1) := by decide +kernel
theorem dX9_chanceIn_71 : decode cX9_chanceIn 71 = .ok (.getfield 37, 3) := by decide +kernel
theorem dX9_chanceIn_74 : decode cX9_chanceIn 74 = .ok (.iload 4, 2) := by decide +kernel
theorem dX9_chanceIn_76 : decode cX9_chanceIn 76 = .ok (.laload, 1) := by decide +kernel
theorem dX9_chanceIn_77 : decode cX9_chanceIn 77 = .ok (.bipush 10, 2) := by decide +kernel
theorem dX9_chanceIn_79 : decode cX9_chanceIn 79 = .ok (.iload_n 2, 1) := by decide +kernel
theorem dX9_chanceIn_80 : decode cX9_chanceIn 80 = .ok (.isub, 1) := by decide +kernel
theorem dX9_chanceIn_81 : decode cX9_chanceIn 81 = .ok (.i2l, 1) := by decide +kernel
theorem dX9_chanceIn_82 : decode cX9_chanceIn 82 = .ok (.lmul, 1) := by decide +kernel
theorem dX9_chanceIn_83 : decode cX9_chanceIn 83 = .ok (.ldc2_w 127, 3) := by decide +kernel
theorem ct_RX9_127 : Cond.constantLong RX9 127 10 ∈ gW := gW_t 1203 (by decide +kernel) rfl
theorem dX9_chanceIn_86 : decode cX9_chanceIn 86 = .ok (.ldiv, 1) := by decide +kernel
theorem dX9_chanceIn_87 : decode cX9_chanceIn 87 = .ok (.ladd, 1) := by decide +kernel
theorem dX9_chanceIn_88 : decode cX9_chanceIn 88 = .ok (.lastore, 1) := by decide +kernel
theorem dX9_chanceIn_89 : decode cX9_chanceIn 89 = .ok (.aload_n 0, 1) := by decide +kernel
theorem dX9_chanceIn_90 : decode cX9_chanceIn 90 = .ok (.getfield 37, 3) := by decide +kernel
theorem dX9_chanceIn_93 : decode cX9_chanceIn 93 = .ok (.iload 4, 2) := by decide +kernel
theorem dX9_chanceIn_95 : decode cX9_chanceIn 95 = .ok (.aload_n 0, 1) := by decide +kernel
theorem dX9_chanceIn_96 : decode cX9_chanceIn 96 = .ok (.getfield 37, 3) := by decide +kernel
theorem dX9_chanceIn_99 : decode cX9_chanceIn 99 = .ok (.iload 4, 2) := by decide +kernel
theorem dX9_chanceIn_101 : decode cX9_chanceIn 101 = .ok (.laload, 1) := by decide +kernel
theorem dX9_chanceIn_102 : decode cX9_chanceIn 102 = .ok (.iload_n 2, 1) := by decide +kernel
theorem dX9_chanceIn_103 : decode cX9_chanceIn 103 = .ok (.i2l, 1) := by decide +kernel
theorem dX9_chanceIn_104 : decode cX9_chanceIn 104 = .ok (.lmul, 1) := by decide +kernel
theorem dX9_chanceIn_105 : decode cX9_chanceIn 105 = .ok (.ldc2_w 127, 3) := by decide +kernel
theorem dX9_chanceIn_108 : decode cX9_chanceIn 108 = .ok (.ldiv, 1) := by decide +kernel
theorem dX9_chanceIn_109 : decode cX9_chanceIn 109 = .ok (.lastore, 1) := by decide +kernel
theorem dX9_chanceIn_110 : decode cX9_chanceIn 110 = .ok (.iinc 4 (-1), 3) := by decide +kernel
theorem dX9_chanceIn_113 : decode cX9_chanceIn 113 = .ok (.goto (-58), 3) := by decide +kernel
theorem dX9_chanceIn_116 : decode cX9_chanceIn 116 = .ok (.iinc 3 1, 3) := by decide +kernel
theorem dX9_chanceIn_119 : decode cX9_chanceIn 119 = .ok (.goto (-81), 3) := by decide +kernel
theorem dX9_chanceIn_122 : decode cX9_chanceIn 122 = .ok (.aload_n 0, 1) := by decide +kernel
theorem dX9_chanceIn_123 : decode cX9_chanceIn 123 = .ok (.getfield 37, 3) := by decide +kernel
theorem dX9_chanceIn_126 : decode cX9_chanceIn 126 = .ok (.aload_n 0, 1) := by decide +kernel
theorem dX9_chanceIn_127 : decode cX9_chanceIn 127 = .ok (.getfield 92, 3) := by decide +kernel
theorem dX9_chanceIn_130 : decode cX9_chanceIn 130 = .ok (.laload, 1) := by decide +kernel
theorem dX9_chanceIn_131 : decode cX9_chanceIn 131 = .ok (.lreturn, 1) := by decide +kernel
def yX11_at : MethodName := ⟨RX11, "at", "(II)I"⟩
abbrev cX11_at : ByteArray := prog_1_method_3_code
theorem dX11_at_0 : decode cX11_at 0 = .ok (.iload_n 1, 1) := by decide +kernel
theorem dX11_at_1 : decode cX11_at 1 = .ok (.bipush 40, 2) := by decide +kernel
theorem dX11_at_3 : decode cX11_at 3 = .ok (.invokestatic 82, 3) := by decide +kernel
theorem dX11_at_6 : decode cX11_at 6 = .ok (.ifCond .ne 5, 3) := by decide +kernel
theorem dX11_at_11 : decode cX11_at 11 = .ok (.aload_n 0, 1) := by decide +kernel
theorem dX11_at_12 : decode cX11_at 12 = .ok (.getfield 21, 3) := by decide +kernel
theorem dX11_at_15 : decode cX11_at 15 = .ok (.getfield 78, 3) := by decide +kernel
theorem dX11_at_18 : decode cX11_at 18 = .ok (.astore_n 3, 1) := by decide +kernel
theorem dX11_at_19 : decode cX11_at 19 = .ok (.aload_n 0, 1) := by decide +kernel
theorem dX11_at_20 : decode cX11_at 20 = .ok (.getfield 10, 3) := by decide +kernel
theorem fl_RX11_10 : Cond.fieldLink RX11 10 RX11 "asker" "LListenWells$Asker;" ∈ gW := gW_t 446 (by decide +kernel) rfl
theorem dX11_at_23 : decode cX11_at 23 = .ok (.aload_n 3, 1) := by decide +kernel
theorem dX11_at_24 : decode cX11_at 24 = .ok (.aload_n 3, 1) := by decide +kernel
theorem dX11_at_25 : decode cX11_at 25 = .ok (.invokevirtual 116, 3) := by decide +kernel
theorem lk_RX11_116 : Cond.methodLink RX11 116 yX10_lawInForce ∈ gW := gW_t 519 (by decide +kernel) rfl
theorem dX11_at_28 : decode cX11_at 28 = .ok (.invokevirtual 120, 3) := by decide +kernel
theorem lk_RX11_120 : Cond.methodLink RX11 120 yX0_turnTo ∈ gW := gW_t 527 (by decide +kernel) rfl
theorem dX11_at_31 : decode cX11_at 31 = .ok (.iload_n 2, 1) := by decide +kernel
theorem dX11_at_32 : decode cX11_at 32 = .ok (.tableswitch 104 0 5 #[40, 40, 40, 51, 68, 86], 40) := by decide +kernel
theorem dX11_at_72 : decode cX11_at 72 = .ok (.aload_n 3, 1) := by decide +kernel
theorem dX11_at_73 : decode cX11_at 73 = .ok (.getfield 95, 3) := by decide +kernel
theorem dX11_at_76 : decode cX11_at 76 = .ok (.iload_n 2, 1) := by decide +kernel
theorem dX11_at_77 : decode cX11_at 77 = .ok (.invokevirtual 103, 3) := by decide +kernel
theorem dX11_at_80 : decode cX11_at 80 = .ok (.iload_n 1, 1) := by decide +kernel
theorem dX11_at_81 : decode cX11_at 81 = .ok (.iaload, 1) := by decide +kernel
theorem dX11_at_82 : decode cX11_at 82 = .ok (.ireturn, 1) := by decide +kernel
theorem dX11_at_83 : decode cX11_at 83 = .ok (.aload_n 3, 1) := by decide +kernel
theorem dX11_at_84 : decode cX11_at 84 = .ok (.getfield 95, 3) := by decide +kernel
theorem dX11_at_87 : decode cX11_at 87 = .ok (.iload_n 1, 1) := by decide +kernel
theorem dX11_at_88 : decode cX11_at 88 = .ok (.invokevirtual 99, 3) := by decide +kernel
theorem dX11_at_91 : decode cX11_at 91 = .ok (.ifCond .eq 7, 3) := by decide +kernel
theorem dX11_at_98 : decode cX11_at 98 = .ok (.iconst 0, 1) := by decide +kernel
theorem dX11_at_99 : decode cX11_at 99 = .ok (.ireturn, 1) := by decide +kernel
theorem dX11_at_94 : decode cX11_at 94 = .ok (.iconst 1, 1) := by decide +kernel
theorem dX11_at_95 : decode cX11_at 95 = .ok (.goto 4, 3) := by decide +kernel
theorem dX11_at_100 : decode cX11_at 100 = .ok (.aload_n 0, 1) := by decide +kernel
theorem dX11_at_101 : decode cX11_at 101 = .ok (.getfield 10, 3) := by decide +kernel
theorem dX11_at_104 : decode cX11_at 104 = .ok (.iload_n 1, 1) := by decide +kernel
theorem dX11_at_105 : decode cX11_at 105 = .ok (.aload_n 3, 1) := by decide +kernel
theorem dX11_at_106 : decode cX11_at 106 = .ok (.getfield 95, 3) := by decide +kernel
theorem dX11_at_109 : decode cX11_at 109 = .ok (.getfield 124, 3) := by decide +kernel
theorem dX11_at_112 : decode cX11_at 112 = .ok (.iload_n 1, 1) := by decide +kernel
theorem dX11_at_113 : decode cX11_at 113 = .ok (.iaload, 1) := by decide +kernel
theorem dX11_at_114 : decode cX11_at 114 = .ok (.invokevirtual 127, 3) := by decide +kernel
theorem lk_RX11_127 : Cond.methodLink RX11 127 yX0_saysOf ∈ gW := gW_t 531 (by decide +kernel) rfl
theorem dX11_at_117 : decode cX11_at 117 = .ok (.ireturn, 1) := by decide +kernel
theorem dX11_at_118 : decode cX11_at 118 = .ok (.aload_n 0, 1) := by decide +kernel
theorem dX11_at_119 : decode cX11_at 119 = .ok (.getfield 10, 3) := by decide +kernel
theorem dX11_at_122 : decode cX11_at 122 = .ok (.iload_n 1, 1) := by decide +kernel
theorem dX11_at_123 : decode cX11_at 123 = .ok (.aload_n 3, 1) := by decide +kernel
theorem dX11_at_124 : decode cX11_at 124 = .ok (.getfield 95, 3) := by decide +kernel
theorem dX11_at_127 : decode cX11_at 127 = .ok (.getfield 124, 3) := by decide +kernel
theorem dX11_at_130 : decode cX11_at 130 = .ok (.iload_n 1, 1) := by decide +kernel
theorem dX11_at_131 : decode cX11_at 131 = .ok (.iaload, 1) := by decide +kernel
theorem dX11_at_132 : decode cX11_at 132 = .ok (.invokevirtual 131, 3) := by decide +kernel
theorem lk_RX11_131 : Cond.methodLink RX11 131 yX0_losesOf ∈ gW := gW_t 568 (by decide +kernel) rfl
theorem dX11_at_135 : decode cX11_at 135 = .ok (.ireturn, 1) := by decide +kernel
theorem dX11_at_136 : decode cX11_at 136 = .ok (.iconst (-1), 1) := by decide +kernel
theorem dX11_at_137 : decode cX11_at 137 = .ok (.ireturn, 1) := by decide +kernel
theorem dX11_at_9 : decode cX11_at 9 = .ok (.iconst (-1), 1) := by decide +kernel
theorem dX11_at_10 : decode cX11_at 10 = .ok (.ireturn, 1) := by decide +kernel
def yX11_asks : MethodName := ⟨RX11, "asks", "(III)I"⟩
abbrev cX11_asks : ByteArray := prog_1_method_19_code
theorem dX11_asks_0 : decode cX11_asks 0 = .ok (.aload_n 0, 1) := by decide +kernel
theorem dX11_asks_1 : decode cX11_asks 1 = .ok (.getfield 21, 3) := by decide +kernel
theorem dX11_asks_4 : decode cX11_asks 4 = .ok (.getfield 78, 3) := by decide +kernel
theorem dX11_asks_7 : decode cX11_asks 7 = .ok (.astore 4, 2) := by decide +kernel
theorem dX11_asks_9 : decode cX11_asks 9 = .ok (.iload_n 1, 1) := by decide +kernel
theorem dX11_asks_10 : decode cX11_asks 10 = .ok (.aload 4, 2) := by decide +kernel
theorem dX11_asks_12 : decode cX11_asks 12 = .ok (.getfield 134, 3) := by decide +kernel
theorem dX11_asks_15 : decode cX11_asks 15 = .ok (.getfield 137, 3) := by decide +kernel
theorem dX11_asks_18 : decode cX11_asks 18 = .ok (.invokestatic 82, 3) := by decide +kernel
theorem dX11_asks_21 : decode cX11_asks 21 = .ok (.ifCond .eq 12, 3) := by decide +kernel
theorem dX11_asks_33 : decode cX11_asks 33 = .ok (.iconst (-1), 1) := by decide +kernel
theorem dX11_asks_34 : decode cX11_asks 34 = .ok (.ireturn, 1) := by decide +kernel
theorem dX11_asks_24 : decode cX11_asks 24 = .ok (.iload_n 2, 1) := by decide +kernel
theorem dX11_asks_25 : decode cX11_asks 25 = .ok (.bipush 40, 2) := by decide +kernel
theorem dX11_asks_27 : decode cX11_asks 27 = .ok (.invokestatic 82, 3) := by decide +kernel
theorem dX11_asks_30 : decode cX11_asks 30 = .ok (.ifCond .ne 5, 3) := by decide +kernel
theorem dX11_asks_35 : decode cX11_asks 35 = .ok (.aload_n 0, 1) := by decide +kernel
theorem dX11_asks_36 : decode cX11_asks 36 = .ok (.getfield 10, 3) := by decide +kernel
theorem dX11_asks_39 : decode cX11_asks 39 = .ok (.aload 4, 2) := by decide +kernel
theorem dX11_asks_41 : decode cX11_asks 41 = .ok (.aload 4, 2) := by decide +kernel
theorem dX11_asks_43 : decode cX11_asks 43 = .ok (.invokevirtual 116, 3) := by decide +kernel
theorem dX11_asks_46 : decode cX11_asks 46 = .ok (.invokevirtual 120, 3) := by decide +kernel
theorem dX11_asks_49 : decode cX11_asks 49 = .ok (.iload_n 3, 1) := by decide +kernel
theorem dX11_asks_50 : decode cX11_asks 50 = .ok (.tableswitch 64 0 2 #[26, 36, 54], 26) := by decide +kernel
theorem dX11_asks_76 : decode cX11_asks 76 = .ok (.aload_n 0, 1) := by decide +kernel
theorem dX11_asks_77 : decode cX11_asks 77 = .ok (.getfield 10, 3) := by decide +kernel
theorem dX11_asks_80 : decode cX11_asks 80 = .ok (.iload_n 1, 1) := by decide +kernel
theorem dX11_asks_81 : decode cX11_asks 81 = .ok (.iload_n 2, 1) := by decide +kernel
theorem dX11_asks_82 : decode cX11_asks 82 = .ok (.invokevirtual 252, 3) := by decide +kernel
theorem lk_RX11_252 : Cond.methodLink RX11 252 yX0_digsOf ∈ gW := gW_t 961 (by decide +kernel) rfl
theorem dX11_asks_85 : decode cX11_asks 85 = .ok (.ireturn, 1) := by decide +kernel
theorem dX11_asks_86 : decode cX11_asks 86 = .ok (.aload_n 0, 1) := by decide +kernel
theorem dX11_asks_87 : decode cX11_asks 87 = .ok (.getfield 10, 3) := by decide +kernel
theorem dX11_asks_90 : decode cX11_asks 90 = .ok (.iload_n 1, 1) := by decide +kernel
theorem dX11_asks_91 : decode cX11_asks 91 = .ok (.iload_n 2, 1) := by decide +kernel
theorem dX11_asks_92 : decode cX11_asks 92 = .ok (.invokevirtual 255, 3) := by decide +kernel
theorem lk_RX11_255 : Cond.methodLink RX11 255 yX0_passesOf ∈ gW := gW_t 962 (by decide +kernel) rfl
theorem dX11_asks_95 : decode cX11_asks 95 = .ok (.ifCond .eq 7, 3) := by decide +kernel
theorem dX11_asks_102 : decode cX11_asks 102 = .ok (.iconst 0, 1) := by decide +kernel
theorem dX11_asks_103 : decode cX11_asks 103 = .ok (.ireturn, 1) := by decide +kernel
theorem dX11_asks_98 : decode cX11_asks 98 = .ok (.iconst 1, 1) := by decide +kernel
theorem dX11_asks_99 : decode cX11_asks 99 = .ok (.goto 4, 3) := by decide +kernel
theorem dX11_asks_104 : decode cX11_asks 104 = .ok (.aload_n 0, 1) := by decide +kernel
theorem dX11_asks_105 : decode cX11_asks 105 = .ok (.getfield 10, 3) := by decide +kernel
theorem dX11_asks_108 : decode cX11_asks 108 = .ok (.iload_n 1, 1) := by decide +kernel
theorem dX11_asks_109 : decode cX11_asks 109 = .ok (.iload_n 2, 1) := by decide +kernel
theorem dX11_asks_110 : decode cX11_asks 110 = .ok (.invokevirtual 258, 3) := by decide +kernel
theorem lk_RX11_258 : Cond.methodLink RX11 258 yX0_givesOf ∈ gW := gW_t 963 (by decide +kernel) rfl
theorem dX11_asks_113 : decode cX11_asks 113 = .ok (.ireturn, 1) := by decide +kernel
theorem dX11_asks_114 : decode cX11_asks 114 = .ok (.iconst (-1), 1) := by decide +kernel
theorem dX11_asks_115 : decode cX11_asks 115 = .ok (.ireturn, 1) := by decide +kernel
def yX11_loud : MethodName := ⟨RX11, "loud", "(II)I"⟩
abbrev cX11_loud : ByteArray := prog_1_method_20_code
theorem dX11_loud_0 : decode cX11_loud 0 = .ok (.iload_n 1, 1) := by decide +kernel
theorem dX11_loud_1 : decode cX11_loud 1 = .ok (.bipush 40, 2) := by decide +kernel
theorem dX11_loud_3 : decode cX11_loud 3 = .ok (.invokestatic 82, 3) := by decide +kernel
theorem dX11_loud_6 : decode cX11_loud 6 = .ok (.ifCond .eq 12, 3) := by decide +kernel
theorem dX11_loud_18 : decode cX11_loud 18 = .ok (.ldc_w 261, 3) := by decide +kernel
theorem ct_RX11_261 : Cond.constant RX11 261 (-100000) ∈ gW := gW_t 968 (by decide +kernel) rfl
theorem dX11_loud_21 : decode cX11_loud 21 = .ok (.ireturn, 1) := by decide +kernel
theorem dX11_loud_9 : decode cX11_loud 9 = .ok (.iload_n 2, 1) := by decide +kernel
theorem dX11_loud_10 : decode cX11_loud 10 = .ok (.bipush 8, 2) := by decide +kernel
theorem dX11_loud_12 : decode cX11_loud 12 = .ok (.invokestatic 82, 3) := by decide +kernel
theorem dX11_loud_15 : decode cX11_loud 15 = .ok (.ifCond .ne 7, 3) := by decide +kernel
theorem dX11_loud_22 : decode cX11_loud 22 = .ok (.aload_n 0, 1) := by decide +kernel
theorem dX11_loud_23 : decode cX11_loud 23 = .ok (.getfield 21, 3) := by decide +kernel
theorem dX11_loud_26 : decode cX11_loud 26 = .ok (.getfield 78, 3) := by decide +kernel
theorem dX11_loud_29 : decode cX11_loud 29 = .ok (.astore_n 3, 1) := by decide +kernel
theorem dX11_loud_30 : decode cX11_loud 30 = .ok (.aload_n 0, 1) := by decide +kernel
theorem dX11_loud_31 : decode cX11_loud 31 = .ok (.getfield 10, 3) := by decide +kernel
theorem dX11_loud_34 : decode cX11_loud 34 = .ok (.aload_n 3, 1) := by decide +kernel
theorem dX11_loud_35 : decode cX11_loud 35 = .ok (.aload_n 3, 1) := by decide +kernel
theorem dX11_loud_36 : decode cX11_loud 36 = .ok (.invokevirtual 116, 3) := by decide +kernel
theorem dX11_loud_39 : decode cX11_loud 39 = .ok (.invokevirtual 120, 3) := by decide +kernel
theorem dX11_loud_42 : decode cX11_loud 42 = .ok (.aload_n 3, 1) := by decide +kernel
theorem dX11_loud_43 : decode cX11_loud 43 = .ok (.getfield 95, 3) := by decide +kernel
theorem dX11_loud_46 : decode cX11_loud 46 = .ok (.getfield 124, 3) := by decide +kernel
theorem dX11_loud_49 : decode cX11_loud 49 = .ok (.iload_n 1, 1) := by decide +kernel
theorem dX11_loud_50 : decode cX11_loud 50 = .ok (.iaload, 1) := by decide +kernel
theorem dX11_loud_51 : decode cX11_loud 51 = .ok (.istore 4, 2) := by decide +kernel
theorem dX11_loud_53 : decode cX11_loud 53 = .ok (.aload_n 0, 1) := by decide +kernel
theorem dX11_loud_54 : decode cX11_loud 54 = .ok (.getfield 10, 3) := by decide +kernel
theorem dX11_loud_57 : decode cX11_loud 57 = .ok (.iload_n 1, 1) := by decide +kernel
theorem dX11_loud_58 : decode cX11_loud 58 = .ok (.iload 4, 2) := by decide +kernel
theorem dX11_loud_60 : decode cX11_loud 60 = .ok (.invokevirtual 127, 3) := by decide +kernel
theorem dX11_loud_63 : decode cX11_loud 63 = .ok (.iload_n 1, 1) := by decide +kernel
theorem dX11_loud_64 : decode cX11_loud 64 = .ok (.iload_n 2, 1) := by decide +kernel
theorem dX11_loud_65 : decode cX11_loud 65 = .ok (.invokestatic 262, 3) := by decide +kernel
theorem lk_RX11_262 : Cond.methodLink RX11 262 yX11_stepsTo ∈ gW := gW_t 969 (by decide +kernel) rfl
theorem dX11_loud_68 : decode cX11_loud 68 = .ok (.aload_n 0, 1) := by decide +kernel
theorem dX11_loud_69 : decode cX11_loud 69 = .ok (.getfield 10, 3) := by decide +kernel
theorem dX11_loud_72 : decode cX11_loud 72 = .ok (.iload_n 1, 1) := by decide +kernel
theorem dX11_loud_73 : decode cX11_loud 73 = .ok (.iload 4, 2) := by decide +kernel
theorem dX11_loud_75 : decode cX11_loud 75 = .ok (.invokevirtual 131, 3) := by decide +kernel
theorem dX11_loud_78 : decode cX11_loud 78 = .ok (.imul, 1) := by decide +kernel
theorem dX11_loud_79 : decode cX11_loud 79 = .ok (.isub, 1) := by decide +kernel
theorem dX11_loud_80 : decode cX11_loud 80 = .ok (.ireturn, 1) := by decide +kernel
def yX11_dig : MethodName := ⟨RX11, "dig", "(II)I"⟩
abbrev cX11_dig : ByteArray := prog_1_method_23_code
theorem dX11_dig_0 : decode cX11_dig 0 = .ok (.aload_n 0, 1) := by decide +kernel
theorem dX11_dig_1 : decode cX11_dig 1 = .ok (.aload_n 0, 1) := by decide +kernel
theorem dX11_dig_2 : decode cX11_dig 2 = .ok (.getfield 21, 3) := by decide +kernel
theorem dX11_dig_5 : decode cX11_dig 5 = .ok (.iload_n 1, 1) := by decide +kernel
theorem dX11_dig_6 : decode cX11_dig 6 = .ok (.iload_n 2, 1) := by decide +kernel
theorem dX11_dig_7 : decode cX11_dig 7 = .ok (.invokevirtual 277, 3) := by decide +kernel
theorem lk_RX11_277 : Cond.methodLink RX11 277 yX7_tryDig ∈ gW := gW_t 1008 (by decide +kernel) rfl
theorem dX11_dig_10 : decode cX11_dig 10 = .ok (.invokevirtual 91, 3) := by decide +kernel
theorem dX11_dig_13 : decode cX11_dig 13 = .ok (.ireturn, 1) := by decide +kernel
def yX11_haul : MethodName := ⟨RX11, "haul", "(I)I"⟩
abbrev cX11_haul : ByteArray := prog_1_method_24_code
theorem dX11_haul_0 : decode cX11_haul 0 = .ok (.aload_n 0, 1) := by decide +kernel
theorem dX11_haul_1 : decode cX11_haul 1 = .ok (.aload_n 0, 1) := by decide +kernel
theorem dX11_haul_2 : decode cX11_haul 2 = .ok (.getfield 21, 3) := by decide +kernel
theorem dX11_haul_5 : decode cX11_haul 5 = .ok (.iload_n 1, 1) := by decide +kernel
theorem dX11_haul_6 : decode cX11_haul 6 = .ok (.invokevirtual 280, 3) := by decide +kernel
theorem lk_RX11_280 : Cond.methodLink RX11 280 yX7_tryHaul ∈ gW := gW_t 1013 (by decide +kernel) rfl
theorem dX11_haul_9 : decode cX11_haul 9 = .ok (.invokevirtual 91, 3) := by decide +kernel
theorem dX11_haul_12 : decode cX11_haul 12 = .ok (.ireturn, 1) := by decide +kernel
