def yX11_put : MethodName := ⟨RX11, "put", "(III)I"⟩
abbrev cX11_put : ByteArray := prog_1_method_2_code
theorem dX11_put_0 : decode cX11_put 0 = .ok (.aload_n 0, 1) := by decide +kernel
theorem dX11_put_1 : decode cX11_put 1 = .ok (.getfield 21, 3) := by decide +kernel
theorem dX11_put_4 : decode cX11_put 4 = .ok (.getfield 78, 3) := by decide +kernel
theorem dX11_put_7 : decode cX11_put 7 = .ok (.astore 4, 2) := by decide +kernel
theorem dX11_put_9 : decode cX11_put 9 = .ok (.iload_n 1, 1) := by decide +kernel
theorem dX11_put_10 : decode cX11_put 10 = .ok (.bipush 40, 2) := by decide +kernel
theorem dX11_put_12 : decode cX11_put 12 = .ok (.invokestatic 82, 3) := by decide +kernel
theorem dX11_put_15 : decode cX11_put 15 = .ok (.ifCond .eq 11, 3) := by decide +kernel
theorem dX11_put_26 : decode cX11_put 26 = .ok (.aload_n 0, 1) := by decide +kernel
theorem dX11_put_27 : decode cX11_put 27 = .ok (.iconst (-1), 1) := by decide +kernel
theorem dX11_put_28 : decode cX11_put 28 = .ok (.invokevirtual 91, 3) := by decide +kernel
theorem lk_RX11_91 : Cond.methodLink RX11 91 yX11_settle ∈ gW := gW_t 499 (by decide +kernel) rfl
theorem mI_X11_settle : Cond.instanceMethod yX11_settle ∈ gW := gW_t 501 (by decide +kernel) rfl
theorem mS_X11_settle : Cond.selects RX11 yX11_settle yX11_settle ∈ gW := gW_p (q := (yX11_settle, 14)) 0 (by decide +kernel)
theorem mC_X11_settle : Cond.code yX11_settle cX11_settle 2 (some .int) ∈ gW := gW_t 502 (by decide +kernel) rfl
theorem ok_X11_settle : okD yX11_settle 1 := ⟨by decide +kernel, by decide +kernel, by decide +kernel⟩
theorem dX11_put_31 : decode cX11_put 31 = .ok (.ireturn, 1) := by decide +kernel
theorem dX11_put_18 : decode cX11_put 18 = .ok (.iload_n 2, 1) := by decide +kernel
theorem dX11_put_19 : decode cX11_put 19 = .ok (.iload_n 3, 1) := by decide +kernel
theorem dX11_put_20 : decode cX11_put 20 = .ok (.invokestatic 86, 3) := by decide +kernel
theorem lk_RX11_86 : Cond.methodLink RX11 86 yX6_canBe ∈ gW := gW_t 496 (by decide +kernel) rfl
theorem mT_X6_canBe : Cond.static yX6_canBe ∈ gW := gW_t 497 (by decide +kernel) rfl
theorem mN_RX6 : Cond.initialized RX6 ∈ gW := gW_t 5 (by decide +kernel) rfl
theorem mC_X6_canBe : Cond.code yX6_canBe cX6_canBe 2 (some .boolean) ∈ gW := gW_t 498 (by decide +kernel) rfl
theorem ok_X6_canBe : okD yX6_canBe 2 := ⟨by decide +kernel, by decide +kernel, by decide +kernel⟩
theorem dX11_put_23 : decode cX11_put 23 = .ok (.ifCond .ne 9, 3) := by decide +kernel
theorem dX11_put_32 : decode cX11_put 32 = .ok (.iload_n 2, 1) := by decide +kernel
theorem dX11_put_33 : decode cX11_put 33 = .ok (.ifCond .ne 22, 3) := by decide +kernel
theorem dX11_put_55 : decode cX11_put 55 = .ok (.aload 4, 2) := by decide +kernel
theorem dX11_put_57 : decode cX11_put 57 = .ok (.getfield 95, 3) := by decide +kernel
theorem fl_RX11_95 : Cond.fieldLink RX11 95 RX10 "rock" "LListenWells$Rock;" ∈ gW := gW_t 214 (by decide +kernel) rfl
theorem dX11_put_60 : decode cX11_put 60 = .ok (.iload_n 2, 1) := by decide +kernel
theorem dX11_put_61 : decode cX11_put 61 = .ok (.invokevirtual 103, 3) := by decide +kernel
theorem lk_RX11_103 : Cond.methodLink RX11 103 yX6_rowOf ∈ gW := gW_t 507 (by decide +kernel) rfl
theorem mI_X6_rowOf : Cond.instanceMethod yX6_rowOf ∈ gW := gW_t 508 (by decide +kernel) rfl
theorem mS_X6_rowOf : Cond.selects RX6 yX6_rowOf yX6_rowOf ∈ gW := gW_t 509 (by decide +kernel) rfl
theorem mC_X6_rowOf : Cond.code yX6_rowOf cX6_rowOf 2 (some (.array .int)) ∈ gW := gW_t 510 (by decide +kernel) rfl
theorem ok_X6_rowOf : okD yX6_rowOf 1 := ⟨by decide +kernel, by decide +kernel, by decide +kernel⟩
theorem dX11_put_64 : decode cX11_put 64 = .ok (.astore 5, 2) := by decide +kernel
theorem dX11_put_66 : decode cX11_put 66 = .ok (.aload 5, 2) := by decide +kernel
theorem dX11_put_68 : decode cX11_put 68 = .ok (.iload_n 1, 1) := by decide +kernel
theorem dX11_put_69 : decode cX11_put 69 = .ok (.iaload, 1) := by decide +kernel
theorem dX11_put_70 : decode cX11_put 70 = .ok (.istore 6, 2) := by decide +kernel
theorem dX11_put_72 : decode cX11_put 72 = .ok (.aload 5, 2) := by decide +kernel
theorem dX11_put_74 : decode cX11_put 74 = .ok (.iload_n 1, 1) := by decide +kernel
theorem dX11_put_75 : decode cX11_put 75 = .ok (.iload_n 3, 1) := by decide +kernel
theorem dX11_put_76 : decode cX11_put 76 = .ok (.iastore, 1) := by decide +kernel
theorem dX11_put_77 : decode cX11_put 77 = .ok (.aload_n 0, 1) := by decide +kernel
theorem dX11_put_78 : decode cX11_put 78 = .ok (.getfield 21, 3) := by decide +kernel
theorem dX11_put_81 : decode cX11_put 81 = .ok (.getfield 107, 3) := by decide +kernel
theorem fl_RX11_107 : Cond.fieldLink RX11 107 RX7 "diary" "LListenWells$Diary;" ∈ gW := gW_t 292 (by decide +kernel) rfl
theorem dX11_put_84 : decode cX11_put 84 = .ok (.invokevirtual 111, 3) := by decide +kernel
theorem lk_RX11_111 : Cond.methodLink RX11 111 yX2_clear ∈ gW := gW_t 511 (by decide +kernel) rfl
theorem mI_X2_clear : Cond.instanceMethod yX2_clear ∈ gW := gW_t 512 (by decide +kernel) rfl
theorem mS_X2_clear : Cond.selects RX2 yX2_clear yX2_clear ∈ gW := gW_t 513 (by decide +kernel) rfl
theorem mN_RX2 : Cond.initialized RX2 ∈ gW := gW_t 9 (by decide +kernel) rfl
theorem mC_X2_clear : Cond.code yX2_clear cX2_clear 1 none ∈ gW := gW_t 514 (by decide +kernel) rfl
theorem ok_X2_clear : okD yX2_clear 0 := ⟨by decide +kernel, by decide +kernel, by decide +kernel⟩
theorem dX11_put_87 : decode cX11_put 87 = .ok (.aload_n 0, 1) := by decide +kernel
theorem dX11_put_88 : decode cX11_put 88 = .ok (.iload 6, 2) := by decide +kernel
theorem dX11_put_90 : decode cX11_put 90 = .ok (.invokevirtual 91, 3) := by decide +kernel
theorem dX11_put_93 : decode cX11_put 93 = .ok (.ireturn, 1) := by decide +kernel
theorem dX11_put_36 : decode cX11_put 36 = .ok (.aload 4, 2) := by decide +kernel
theorem dX11_put_38 : decode cX11_put 38 = .ok (.getfield 95, 3) := by decide +kernel
theorem dX11_put_41 : decode cX11_put 41 = .ok (.iload_n 1, 1) := by decide +kernel
theorem dX11_put_42 : decode cX11_put 42 = .ok (.invokevirtual 99, 3) := by decide +kernel
theorem lk_RX11_99 : Cond.methodLink RX11 99 yX6_isDug ∈ gW := gW_t 503 (by decide +kernel) rfl
theorem mI_X6_isDug : Cond.instanceMethod yX6_isDug ∈ gW := gW_t 504 (by decide +kernel) rfl
theorem mS_X6_isDug : Cond.selects RX6 yX6_isDug yX6_isDug ∈ gW := gW_t 505 (by decide +kernel) rfl
theorem mC_X6_isDug : Cond.code yX6_isDug cX6_isDug 2 (some .boolean) ∈ gW := gW_t 506 (by decide +kernel) rfl
theorem ok_X6_isDug : okD yX6_isDug 1 := ⟨by decide +kernel, by decide +kernel, by decide +kernel⟩
theorem dX11_put_45 : decode cX11_put 45 = .ok (.ifCond .eq 10, 3) := by decide +kernel
def yX11_at : MethodName := ⟨RX11, "at", "(II)I"⟩
abbrev cX11_at : ByteArray := prog_1_method_3_code
theorem dX11_at_0 : decode cX11_at 0 = .ok (.iload_n 1, 1) := by decide +kernel
theorem dX11_at_1 : decode cX11_at 1 = .ok (.bipush 40, 2) := by decide +kernel
theorem dX11_at_3 : decode cX11_at 3 = .ok (.invokestatic 82, 3) := by decide +kernel
theorem dX11_at_6 : decode cX11_at 6 = .ok (.ifCond .ne 5, 3) := by decide +kernel
theorem dX11_at_11 : decode cX11_at 11 = .ok (.aload_n 0, 1) := by decide +kernel
theorem dX11_at_12 : decode cX11_at 12 = .ok (.getfield 21, 3) := by decide +kernel
theorem dX11_at_15 : decode cX11_at 15 = .ok (.getfield 78, 3) := by decide +kernel
theorem dX11_at_18 : decode cX11_at 18 = .ok (.astore_n 3, 1) := by decide +kernel
theorem dX11_at_19 : decode cX11_at 19 = .ok (.aload_n 0, 1) := by decide +kernel
theorem dX11_at_20 : decode cX11_at 20 = .ok (.getfield 10, 3) := by decide +kernel
theorem fl_RX11_10 : Cond.fieldLink RX11 10 RX11 "asker" "LListenWells$Asker;" ∈ gW := gW_t 446 (by decide +kernel) rfl
theorem dX11_at_23 : decode cX11_at 23 = .ok (.aload_n 3, 1) := by decide +kernel
theorem dX11_at_24 : decode cX11_at 24 = .ok (.aload_n 3, 1) := by decide +kernel
theorem dX11_at_25 : decode cX11_at 25 = .ok (.invokevirtual 116, 3) := by decide +kernel
theorem lk_RX11_116 : Cond.methodLink RX11 116 yX10_lawInForce ∈ gW := gW_t 519 (by decide +kernel) rfl
theorem mI_X10_lawInForce : Cond.instanceMethod yX10_lawInForce ∈ gW := gW_t 520 (by decide +kernel) rfl
theorem mS_X10_lawInForce : Cond.selects RX10 yX10_lawInForce yX10_lawInForce ∈ gW := gW_t 521 (by decide +kernel) rfl
theorem mC_X10_lawInForce : Cond.code yX10_lawInForce cX10_lawInForce 1 (some (.object "ListenWells$Text")) ∈ gW := gW_t 522 (by decide +kernel) rfl
theorem ok_X10_lawInForce : okD yX10_lawInForce 0 := ⟨by decide +kernel, by decide +kernel, by decide +kernel⟩
theorem dX11_at_28 : decode cX11_at 28 = .ok (.invokevirtual 120, 3) := by decide +kernel
theorem lk_RX11_120 : Cond.methodLink RX11 120 yX0_turnTo ∈ gW := gW_t 527 (by decide +kernel) rfl
theorem mI_X0_turnTo : Cond.instanceMethod yX0_turnTo ∈ gW := gW_t 528 (by decide +kernel) rfl
theorem mS_X0_turnTo : Cond.selects RX0 yX0_turnTo yX0_turnTo ∈ gW := gW_t 529 (by decide +kernel) rfl
theorem mC_X0_turnTo : Cond.code yX0_turnTo cX0_turnTo 3 none ∈ gW := gW_t 530 (by decide +kernel) rfl
theorem ok_X0_turnTo : okD yX0_turnTo 2 := ⟨by decide +kernel, by decide +kernel, by decide +kernel⟩
theorem dX11_at_31 : decode cX11_at 31 = .ok (.iload_n 2, 1) := by decide +kernel
theorem dX11_at_32 : decode cX11_at 32 = .ok (.tableswitch 104 0 5 #[40, 40, 40, 51, 68, 86], 40) := by decide +kernel
theorem dX11_at_72 : decode cX11_at 72 = .ok (.aload_n 3, 1) := by decide +kernel
theorem dX11_at_73 : decode cX11_at 73 = .ok (.getfield 95, 3) := by decide +kernel
theorem dX11_at_76 : decode cX11_at 76 = .ok (.iload_n 2, 1) := by decide +kernel
theorem dX11_at_77 : decode cX11_at 77 = .ok (.invokevirtual 103, 3) := by decide +kernel
theorem dX11_at_80 : decode cX11_at 80 = .ok (.iload_n 1, 1) := by decide +kernel
theorem dX11_at_81 : decode cX11_at 81 = .ok (.iaload, 1) := by decide +kernel
theorem dX11_at_82 : decode cX11_at 82 = .ok (.ireturn, 1) := by decide +kernel
theorem dX11_at_83 : decode cX11_at 83 = .ok (.aload_n 3, 1) := by decide +kernel
theorem dX11_at_84 : decode cX11_at 84 = .ok (.getfield 95, 3) := by decide +kernel
theorem dX11_at_87 : decode cX11_at 87 = .ok (.iload_n 1, 1) := by decide +kernel
theorem dX11_at_88 : decode cX11_at 88 = .ok (.invokevirtual 99, 3) := by decide +kernel
theorem dX11_at_91 : decode cX11_at 91 = .ok (.ifCond .eq 7, 3) := by decide +kernel
theorem dX11_at_98 : decode cX11_at 98 = .ok (.iconst 0, 1) := by decide +kernel
theorem dX11_at_99 : decode cX11_at 99 = .ok (.ireturn, 1) := by decide +kernel
theorem dX11_at_100 : decode cX11_at 100 = .ok (.aload_n 0, 1) := by decide +kernel
theorem dX11_at_101 : decode cX11_at 101 = .ok (.getfield 10, 3) := by decide +kernel
theorem dX11_at_104 : decode cX11_at 104 = .ok (.iload_n 1, 1) := by decide +kernel
theorem dX11_at_105 : decode cX11_at 105 = .ok (.aload_n 3, 1) := by decide +kernel
theorem dX11_at_106 : decode cX11_at 106 = .ok (.getfield 95, 3) := by decide +kernel
theorem dX11_at_109 : decode cX11_at 109 = .ok (.getfield 124, 3) := by decide +kernel
theorem fl_RX11_124 : Cond.fieldLink RX11 124 RX6 "kind" "[I" ∈ gW := gW_t 90 (by decide +kernel) rfl
theorem dX11_at_112 : decode cX11_at 112 = .ok (.iload_n 1, 1) := by decide +kernel
theorem dX11_at_113 : decode cX11_at 113 = .ok (.iaload, 1) := by decide +kernel
theorem dX11_at_114 : decode cX11_at 114 = .ok (.invokevirtual 127, 3) := by decide +kernel
theorem lk_RX11_127 : Cond.methodLink RX11 127 yX0_saysOf ∈ gW := gW_t 531 (by decide +kernel) rfl
theorem mI_X0_saysOf : Cond.instanceMethod yX0_saysOf ∈ gW := gW_t 532 (by decide +kernel) rfl
theorem mS_X0_saysOf : Cond.selects RX0 yX0_saysOf yX0_saysOf ∈ gW := gW_t 533 (by decide +kernel) rfl
theorem mC_X0_saysOf : Cond.code yX0_saysOf cX0_saysOf 3 (some .int) ∈ gW := gW_t 534 (by decide +kernel) rfl
theorem ok_X0_saysOf : okD yX0_saysOf 2 := ⟨by decide +kernel, by decide +kernel, by decide +kernel⟩
theorem dX11_at_117 : decode cX11_at 117 = .ok (.ireturn, 1) := by decide +kernel
theorem dX11_at_118 : decode cX11_at 118 = .ok (.aload_n 0, 1) := by decide +kernel
theorem dX11_at_119 : decode cX11_at 119 = .ok (.getfield 10, 3) := by decide +kernel
theorem dX11_at_122 : decode cX11_at 122 = .ok (.iload_n 1, 1) := by decide +kernel
theorem dX11_at_123 : decode cX11_at 123 = .ok (.aload_n 3, 1) := by decide +kernel
theorem dX11_at_124 : decode cX11_at 124 = .ok (.getfield 95, 3) := by decide +kernel
theorem dX11_at_127 : decode cX11_at 127 = .ok (.getfield 124, 3) := by decide +kernel
theorem dX11_at_130 : decode cX11_at 130 = .ok (.iload_n 1, 1) := by decide +kernel
theorem dX11_at_131 : decode cX11_at 131 = .ok (.iaload, 1) := by decide +kernel
theorem dX11_at_132 : decode cX11_at 132 = .ok (.invokevirtual 131, 3) := by decide +kernel
theorem lk_RX11_131 : Cond.methodLink RX11 131 yX0_losesOf ∈ gW := gW_t 568 (by decide +kernel) rfl
theorem mI_X0_losesOf : Cond.instanceMethod yX0_losesOf ∈ gW := gW_t 569 (by decide +kernel) rfl
theorem mS_X0_losesOf : Cond.selects RX0 yX0_losesOf yX0_losesOf ∈ gW := gW_t 570 (by decide +kernel) rfl
theorem mC_X0_losesOf : Cond.code yX0_losesOf cX0_losesOf 3 (some .int) ∈ gW := gW_t 571 (by decide +kernel) rfl
theorem ok_X0_losesOf : okD yX0_losesOf 2 := ⟨by decide +kernel, by decide +kernel, by decide +kernel⟩
theorem dX11_at_135 : decode cX11_at 135 = .ok (.ireturn, 1) := by decide +kernel
theorem dX11_at_136 : decode cX11_at 136 = .ok (.iconst (-1), 1) := by decide +kernel
theorem dX11_at_137 : decode cX11_at 137 = .ok (.ireturn, 1) := by decide +kernel
theorem dX11_at_9 : decode cX11_at 9 = .ok (.iconst (-1), 1) := by decide +kernel
theorem dX11_at_10 : decode cX11_at 10 = .ok (.ireturn, 1) := by decide +kernel
def yX11_sink : MethodName := ⟨RX11, "sink", "(I)I"⟩
abbrev cX11_sink : ByteArray := prog_1_method_4_code
theorem dX11_sink_0 : decode cX11_sink 0 = .ok (.iload_n 1, 1) := by decide +kernel
theorem dX11_sink_1 : decode cX11_sink 1 = .ok (.bipush 8, 2) := by decide +kernel
theorem dX11_sink_3 : decode cX11_sink 3 = .ok (.invokestatic 82, 3) := by decide +kernel
theorem dX11_sink_6 : decode cX11_sink 6 = .ok (.ifCond .ne 9, 3) := by decide +kernel
theorem dX11_sink_15 : decode cX11_sink 15 = .ok (.aload_n 0, 1) := by decide +kernel
theorem dX11_sink_16 : decode cX11_sink 16 = .ok (.getfield 21, 3) := by decide +kernel
theorem dX11_sink_19 : decode cX11_sink 19 = .ok (.getfield 78, 3) := by decide +kernel
theorem dX11_sink_22 : decode cX11_sink 22 = .ok (.getfield 95, 3) := by decide +kernel
theorem dX11_sink_25 : decode cX11_sink 25 = .ok (.astore_n 2, 1) := by decide +kernel
theorem dX11_sink_26 : decode cX11_sink 26 = .ok (.aload_n 0, 1) := by decide +kernel
theorem dX11_sink_27 : decode cX11_sink 27 = .ok (.getfield 21, 3) := by decide +kernel
theorem dX11_sink_30 : decode cX11_sink 30 = .ok (.getfield 78, 3) := by decide +kernel
theorem dX11_sink_33 : decode cX11_sink 33 = .ok (.getfield 134, 3) := by decide +kernel
theorem dX11_sink_36 : decode cX11_sink 36 = .ok (.astore_n 3, 1) := by decide +kernel
theorem dX11_sink_37 : decode cX11_sink 37 = .ok (.aload_n 2, 1) := by decide +kernel
theorem dX11_sink_38 : decode cX11_sink 38 = .ok (.iload_n 1, 1) := by decide +kernel
theorem dX11_sink_39 : decode cX11_sink 39 = .ok (.invokevirtual 99, 3) := by decide +kernel
theorem dX11_sink_42 : decode cX11_sink 42 = .ok (.ifCond .ne 13, 3) := by decide +kernel
theorem dX11_sink_45 : decode cX11_sink 45 = .ok (.aload_n 2, 1) := by decide +kernel
theorem dX11_sink_46 : decode cX11_sink 46 = .ok (.getfield 124, 3) := by decide +kernel
theorem dX11_sink_49 : decode cX11_sink 49 = .ok (.iload_n 1, 1) := by decide +kernel
theorem dX11_sink_50 : decode cX11_sink 50 = .ok (.iaload, 1) := by decide +kernel
theorem dX11_sink_51 : decode cX11_sink 51 = .ok (.iconst 1, 1) := by decide +kernel
theorem dX11_sink_52 : decode cX11_sink 52 = .ok (.if_icmp .ne 10, 3) := by decide +kernel
theorem dX11_sink_62 : decode cX11_sink 62 = .ok (.aload_n 3, 1) := by decide +kernel
theorem dX11_sink_63 : decode cX11_sink 63 = .ok (.getfield 137, 3) := by decide +kernel
theorem dX11_sink_66 : decode cX11_sink 66 = .ok (.bipush 6, 2) := by decide +kernel
theorem dX11_sink_68 : decode cX11_sink 68 = .ok (.if_icmp .lt 10, 3) := by decide +kernel
theorem dX11_sink_78 : decode cX11_sink 78 = .ok (.aload_n 2, 1) := by decide +kernel
theorem dX11_sink_79 : decode cX11_sink 79 = .ok (.iload_n 1, 1) := by decide +kernel
theorem dX11_sink_80 : decode cX11_sink 80 = .ok (.invokevirtual 140, 3) := by decide +kernel
theorem lk_RX11_140 : Cond.methodLink RX11 140 yX6_mark ∈ gW := gW_t 576 (by decide +kernel) rfl
theorem mI_X6_mark : Cond.instanceMethod yX6_mark ∈ gW := gW_t 577 (by decide +kernel) rfl
theorem mS_X6_mark : Cond.selects RX6 yX6_mark yX6_mark ∈ gW := gW_t 578 (by decide +kernel) rfl
theorem mC_X6_mark : Cond.code yX6_mark cX6_mark 2 none ∈ gW := gW_t 579 (by decide +kernel) rfl
theorem ok_X6_mark : okD yX6_mark 1 := ⟨by decide +kernel, by decide +kernel, by decide +kernel⟩
theorem dX11_sink_83 : decode cX11_sink 83 = .ok (.aload_n 3, 1) := by decide +kernel
theorem dX11_sink_84 : decode cX11_sink 84 = .ok (.iload_n 1, 1) := by decide +kernel
theorem dX11_sink_85 : decode cX11_sink 85 = .ok (.invokevirtual 144, 3) := by decide +kernel
theorem lk_RX11_144 : Cond.methodLink RX11 144 yX1_add ∈ gW := gW_t 580 (by decide +kernel) rfl
theorem mI_X1_add : Cond.instanceMethod yX1_add ∈ gW := gW_t 581 (by decide +kernel) rfl
theorem mS_X1_add : Cond.selects RX1 yX1_add yX1_add ∈ gW := gW_t 582 (by decide +kernel) rfl
theorem mN_RX1 : Cond.initialized RX1 ∈ gW := gW_t 7 (by decide +kernel) rfl
theorem mC_X1_add : Cond.code yX1_add cX1_add 2 none ∈ gW := gW_t 583 (by decide +kernel) rfl
theorem ok_X1_add : okD yX1_add 1 := ⟨by decide +kernel, by decide +kernel, by decide +kernel⟩
theorem dX11_sink_88 : decode cX11_sink 88 = .ok (.aload_n 0, 1) := by decide +kernel
theorem dX11_sink_89 : decode cX11_sink 89 = .ok (.getfield 21, 3) := by decide +kernel
theorem dX11_sink_92 : decode cX11_sink 92 = .ok (.getfield 107, 3) := by decide +kernel
theorem dX11_sink_95 : decode cX11_sink 95 = .ok (.invokevirtual 111, 3) := by decide +kernel
theorem dX11_sink_98 : decode cX11_sink 98 = .ok (.aload_n 0, 1) := by decide +kernel
theorem dX11_sink_99 : decode cX11_sink 99 = .ok (.aload_n 3, 1) := by decide +kernel
theorem dX11_sink_100 : decode cX11_sink 100 = .ok (.getfield 137, 3) := by decide +kernel
theorem dX11_sink_103 : decode cX11_sink 103 = .ok (.iconst 1, 1) := by decide +kernel
theorem dX11_sink_104 : decode cX11_sink 104 = .ok (.isub, 1) := by decide +kernel
theorem dX11_sink_105 : decode cX11_sink 105 = .ok (.invokevirtual 91, 3) := by decide +kernel
theorem dX11_sink_108 : decode cX11_sink 108 = .ok (.ireturn, 1) := by decide +kernel
theorem dX11_sink_9 : decode cX11_sink 9 = .ok (.aload_n 0, 1) := by decide +kernel
theorem dX11_sink_10 : decode cX11_sink 10 = .ok (.iconst (-1), 1) := by decide +kernel
theorem dX11_sink_11 : decode cX11_sink 11 = .ok (.invokevirtual 91, 3) := by decide +kernel
theorem dX11_sink_14 : decode cX11_sink 14 = .ok (.ireturn, 1) := by decide +kernel
def yX11_of : MethodName := ⟨RX11, "of", "(II)I"⟩
abbrev cX11_of : ByteArray := prog_1_method_5_code
theorem dX11_of_0 : decode cX11_of 0 = .ok (.aload_n 0, 1) := by decide +kernel
theorem dX11_of_1 : decode cX11_of 1 = .ok (.getfield 21, 3) := by decide +kernel
theorem dX11_of_4 : decode cX11_of 4 = .ok (.getfield 78, 3) := by decide +kernel
theorem dX11_of_7 : decode cX11_of 7 = .ok (.astore_n 3, 1) := by decide +kernel
theorem dX11_of_8 : decode cX11_of 8 = .ok (.iload_n 1, 1) := by decide +kernel
theorem dX11_of_9 : decode cX11_of 9 = .ok (.aload_n 3, 1) := by decide +kernel
theorem dX11_of_10 : decode cX11_of 10 = .ok (.getfield 134, 3) := by decide +kernel
theorem dX11_of_13 : decode cX11_of 13 = .ok (.getfield 137, 3) := by decide +kernel
theorem dX11_of_16 : decode cX11_of 16 = .ok (.invokestatic 82, 3) := by decide +kernel
theorem dX11_of_19 : decode cX11_of 19 = .ok (.ifCond .ne 5, 3) := by decide +kernel
theorem dX11_of_22 : decode cX11_of 22 = .ok (.iconst (-1), 1) := by decide +kernel
theorem dX11_of_23 : decode cX11_of 23 = .ok (.ireturn, 1) := by decide +kernel
def yX11_listener : MethodName := ⟨RX11, "listener", "(II)I"⟩
abbrev cX11_listener : ByteArray := prog_1_method_6_code
theorem dX11_listener_0 : decode cX11_listener 0 = .ok (.iload_n 1, 1) := by decide +kernel
theorem dX11_listener_1 : decode cX11_listener 1 = .ok (.bipush 8, 2) := by decide +kernel
theorem dX11_listener_3 : decode cX11_listener 3 = .ok (.invokestatic 82, 3) := by decide +kernel
theorem dX11_listener_6 : decode cX11_listener 6 = .ok (.ifCond .eq 12, 3) := by decide +kernel
theorem dX11_listener_18 : decode cX11_listener 18 = .ok (.aload_n 0, 1) := by decide +kernel
theorem dX11_listener_19 : decode cX11_listener 19 = .ok (.iconst (-1), 1) := by decide +kernel
theorem dX11_listener_20 : decode cX11_listener 20 = .ok (.invokevirtual 91, 3) := by decide +kernel
theorem dX11_listener_23 : decode cX11_listener 23 = .ok (.ireturn, 1) := by decide +kernel
theorem dX11_listener_9 : decode cX11_listener 9 = .ok (.iload_n 2, 1) := by decide +kernel
theorem dX11_listener_10 : decode cX11_listener 10 = .ok (.bipush 21, 2) := by decide +kernel
theorem dX11_listener_12 : decode cX11_listener 12 = .ok (.invokestatic 82, 3) := by decide +kernel
theorem dX11_listener_15 : decode cX11_listener 15 = .ok (.ifCond .ne 9, 3) := by decide +kernel
theorem dX11_listener_24 : decode cX11_listener 24 = .ok (.aload_n 0, 1) := by decide +kernel
theorem dX11_listener_25 : decode cX11_listener 25 = .ok (.getfield 21, 3) := by decide +kernel
theorem dX11_listener_28 : decode cX11_listener 28 = .ok (.getfield 78, 3) := by decide +kernel
theorem dX11_listener_31 : decode cX11_listener 31 = .ok (.getfield 156, 3) := by decide +kernel
theorem fl_RX11_156 : Cond.fieldLink RX11 156 RX10 "folk" "LListenWells$Folk;" ∈ gW := gW_t 226 (by decide +kernel) rfl
theorem dX11_listener_34 : decode cX11_listener 34 = .ok (.astore_n 3, 1) := by decide +kernel
theorem dX11_listener_35 : decode cX11_listener 35 = .ok (.aload_n 3, 1) := by decide +kernel
theorem dX11_listener_36 : decode cX11_listener 36 = .ok (.getfield 160, 3) := by decide +kernel
theorem fl_RX11_160 : Cond.fieldLink RX11 160 RX4 "listeners" "I" ∈ gW := gW_t 155 (by decide +kernel) rfl
theorem dX11_listener_39 : decode cX11_listener 39 = .ok (.iconst 5, 1) := by decide +kernel
theorem dX11_listener_40 : decode cX11_listener 40 = .ok (.if_icmp .lt 10, 3) := by decide +kernel
theorem dX11_listener_50 : decode cX11_listener 50 = .ok (.aload_n 3, 1) := by decide +kernel
theorem dX11_listener_51 : decode cX11_listener 51 = .ok (.iload_n 1, 1) := by decide +kernel
theorem dX11_listener_52 : decode cX11_listener 52 = .ok (.iload_n 2, 1) := by decide +kernel
theorem dX11_listener_53 : decode cX11_listener 53 = .ok (.invokevirtual 165, 3) := by decide +kernel
theorem lk_RX11_165 : Cond.methodLink RX11 165 yX4_addListener ∈ gW := gW_t 610 (by decide +kernel) rfl
theorem mI_X4_addListener : Cond.instanceMethod yX4_addListener ∈ gW := gW_t 611 (by decide +kernel) rfl
theorem mS_X4_addListener : Cond.selects RX4 yX4_addListener yX4_addListener ∈ gW := gW_t 612 (by decide +kernel) rfl
theorem mN_RX4 : Cond.initialized RX4 ∈ gW := gW_t 8 (by decide +kernel) rfl
theorem mC_X4_addListener : Cond.code yX4_addListener cX4_addListener 3 none ∈ gW := gW_t 613 (by decide +kernel) rfl
theorem ok_X4_addListener : okD yX4_addListener 2 := ⟨by decide +kernel, by decide +kernel, by decide +kernel⟩
theorem dX11_listener_56 : decode cX11_listener 56 = .ok (.aload_n 0, 1) := by decide +kernel
theorem dX11_listener_57 : decode cX11_listener 57 = .ok (.getfield 21, 3) := by decide +kernel
theorem dX11_listener_60 : decode cX11_listener 60 = .ok (.getfield 107, 3) := by decide +kernel
theorem dX11_listener_63 : decode cX11_listener 63 = .ok (.invokevirtual 111, 3) := by decide +kernel
theorem dX11_listener_66 : decode cX11_listener 66 = .ok (.aload_n 0, 1) := by decide +kernel
theorem dX11_listener_67 : decode cX11_listener 67 = .ok (.aload_n 3, 1) := by decide +kernel
theorem dX11_listener_68 : decode cX11_listener 68 = .ok (.getfield 160, 3) := by decide +kernel
theorem dX11_listener_71 : decode cX11_listener 71 = .ok (.iconst 1, 1) := by decide +kernel
theorem dX11_listener_72 : decode cX11_listener 72 = .ok (.isub, 1) := by decide +kernel
theorem dX11_listener_73 : decode cX11_listener 73 = .ok (.invokevirtual 91, 3) := by decide +kernel
theorem dX11_listener_76 : decode cX11_listener 76 = .ok (.ireturn, 1) := by decide +kernel
def yX11_noise : MethodName := ⟨RX11, "noise", "(II)I"⟩
abbrev cX11_noise : ByteArray := prog_1_method_7_code
theorem dX11_noise_0 : decode cX11_noise 0 = .ok (.iload_n 1, 1) := by decide +kernel
theorem dX11_noise_1 : decode cX11_noise 1 = .ok (.bipush 8, 2) := by decide +kernel
theorem dX11_noise_3 : decode cX11_noise 3 = .ok (.invokestatic 82, 3) := by decide +kernel
theorem dX11_noise_6 : decode cX11_noise 6 = .ok (.ifCond .eq 12, 3) := by decide +kernel
theorem dX11_noise_18 : decode cX11_noise 18 = .ok (.aload_n 0, 1) := by decide +kernel
theorem dX11_noise_19 : decode cX11_noise 19 = .ok (.iconst (-1), 1) := by decide +kernel
theorem dX11_noise_20 : decode cX11_noise 20 = .ok (.invokevirtual 91, 3) := by decide +kernel
theorem dX11_noise_23 : decode cX11_noise 23 = .ok (.ireturn, 1) := by decide +kernel
theorem dX11_noise_9 : decode cX11_noise 9 = .ok (.iload_n 2, 1) := by decide +kernel
theorem dX11_noise_10 : decode cX11_noise 10 = .ok (.bipush 21, 2) := by decide +kernel
theorem dX11_noise_12 : decode cX11_noise 12 = .ok (.invokestatic 82, 3) := by decide +kernel
theorem dX11_noise_15 : decode cX11_noise 15 = .ok (.ifCond .ne 9, 3) := by decide +kernel
theorem dX11_noise_24 : decode cX11_noise 24 = .ok (.aload_n 0, 1) := by decide +kernel
theorem dX11_noise_25 : decode cX11_noise 25 = .ok (.getfield 21, 3) := by decide +kernel
theorem dX11_noise_28 : decode cX11_noise 28 = .ok (.getfield 78, 3) := by decide +kernel
theorem dX11_noise_31 : decode cX11_noise 31 = .ok (.getfield 156, 3) := by decide +kernel
theorem dX11_noise_34 : decode cX11_noise 34 = .ok (.astore_n 3, 1) := by decide +kernel
theorem dX11_noise_35 : decode cX11_noise 35 = .ok (.aload_n 3, 1) := by decide +kernel
theorem dX11_noise_36 : decode cX11_noise 36 = .ok (.getfield 169, 3) := by decide +kernel
theorem fl_RX11_169 : Cond.fieldLink RX11 169 RX4 "noises" "I" ∈ gW := gW_t 167 (by decide +kernel) rfl
theorem dX11_noise_39 : decode cX11_noise 39 = .ok (.bipush 6, 2) := by decide +kernel
theorem dX11_noise_41 : decode cX11_noise 41 = .ok (.if_icmp .lt 10, 3) := by decide +kernel
theorem dX11_noise_51 : decode cX11_noise 51 = .ok (.aload_n 3, 1) := by decide +kernel
theorem dX11_noise_52 : decode cX11_noise 52 = .ok (.iload_n 1, 1) := by decide +kernel
theorem dX11_noise_53 : decode cX11_noise 53 = .ok (.iload_n 2, 1) := by decide +kernel
theorem dX11_noise_54 : decode cX11_noise 54 = .ok (.invokevirtual 172, 3) := by decide +kernel
theorem lk_RX11_172 : Cond.methodLink RX11 172 yX4_addNoise ∈ gW := gW_t 618 (by decide +kernel) rfl
theorem mI_X4_addNoise : Cond.instanceMethod yX4_addNoise ∈ gW := gW_t 619 (by decide +kernel) rfl
theorem mS_X4_addNoise : Cond.selects RX4 yX4_addNoise yX4_addNoise ∈ gW := gW_t 620 (by decide +kernel) rfl
theorem mC_X4_addNoise : Cond.code yX4_addNoise cX4_addNoise 3 none ∈ gW := gW_t 621 (by decide +kernel) rfl
theorem ok_X4_addNoise : okD yX4_addNoise 2 := ⟨by decide +kernel, by decide +kernel, by decide +kernel⟩
theorem dX11_noise_57 : decode cX11_noise 57 = .ok (.aload_n 0, 1) := by decide +kernel
theorem dX11_noise_58 : decode cX11_noise 58 = .ok (.getfield 21, 3) := by decide +kernel
theorem dX11_noise_61 : decode cX11_noise 61 = .ok (.getfield 107, 3) := by decide +kernel
theorem dX11_noise_64 : decode cX11_noise 64 = .ok (.invokevirtual 111, 3) := by decide +kernel
theorem dX11_noise_67 : decode cX11_noise 67 = .ok (.aload_n 0, 1) := by decide +kernel
theorem dX11_noise_68 : decode cX11_noise 68 = .ok (.aload_n 3, 1) := by decide +kernel
theorem dX11_noise_69 : decode cX11_noise 69 = .ok (.getfield 169, 3) := by decide +kernel
theorem dX11_noise_72 : decode cX11_noise 72 = .ok (.iconst 1, 1) := by decide +kernel
theorem dX11_noise_73 : decode cX11_noise 73 = .ok (.isub, 1) := by decide +kernel
theorem dX11_noise_74 : decode cX11_noise 74 = .ok (.invokevirtual 91, 3) := by decide +kernel
theorem dX11_noise_77 : decode cX11_noise 77 = .ok (.ireturn, 1) := by decide +kernel
def yX11_who : MethodName := ⟨RX11, "who", "(II)I"⟩
abbrev cX11_who : ByteArray := prog_1_method_8_code
theorem dX11_who_0 : decode cX11_who 0 = .ok (.aload_n 0, 1) := by decide +kernel
theorem dX11_who_1 : decode cX11_who 1 = .ok (.getfield 21, 3) := by decide +kernel
theorem dX11_who_4 : decode cX11_who 4 = .ok (.getfield 78, 3) := by decide +kernel
theorem dX11_who_7 : decode cX11_who 7 = .ok (.getfield 156, 3) := by decide +kernel
theorem dX11_who_10 : decode cX11_who 10 = .ok (.astore_n 3, 1) := by decide +kernel
theorem dX11_who_11 : decode cX11_who 11 = .ok (.iload_n 2, 1) := by decide +kernel
theorem dX11_who_12 : decode cX11_who 12 = .ok (.ifCond .eq 8, 3) := by decide +kernel
theorem dX11_who_20 : decode cX11_who 20 = .ok (.iconst 1, 1) := by decide +kernel
theorem dX11_who_21 : decode cX11_who 21 = .ok (.goto 4, 3) := by decide +kernel
theorem dX11_who_25 : decode cX11_who 25 = .ok (.istore 4, 2) := by decide +kernel
theorem dX11_who_27 : decode cX11_who 27 = .ok (.iload_n 1, 1) := by decide +kernel
theorem dX11_who_28 : decode cX11_who 28 = .ok (.iload 4, 2) := by decide +kernel
theorem dX11_who_30 : decode cX11_who 30 = .ok (.ifCond .eq 10, 3) := by decide +kernel
theorem dX11_who_33 : decode cX11_who 33 = .ok (.aload_n 3, 1) := by decide +kernel
theorem dX11_who_34 : decode cX11_who 34 = .ok (.getfield 160, 3) := by decide +kernel
theorem dX11_who_37 : decode cX11_who 37 = .ok (.goto 7, 3) := by decide +kernel
theorem dX11_who_44 : decode cX11_who 44 = .ok (.invokestatic 82, 3) := by decide +kernel
theorem dX11_who_47 : decode cX11_who 47 = .ok (.ifCond .ne 5, 3) := by decide +kernel
theorem dX11_who_50 : decode cX11_who 50 = .ok (.iconst (-1), 1) := by decide +kernel
theorem dX11_who_51 : decode cX11_who 51 = .ok (.ireturn, 1) := by decide +kernel
theorem dX11_who_15 : decode cX11_who 15 = .ok (.iload_n 2, 1) := by decide +kernel
theorem dX11_who_16 : decode cX11_who 16 = .ok (.iconst 1, 1) := by decide +kernel
theorem dX11_who_17 : decode cX11_who 17 = .ok (.if_icmp .ne 7, 3) := by decide +kernel
theorem dX11_who_24 : decode cX11_who 24 = .ok (.iconst 0, 1) := by decide +kernel
theorem dX11_who_40 : decode cX11_who 40 = .ok (.aload_n 3, 1) := by decide +kernel
theorem dX11_who_41 : decode cX11_who 41 = .ok (.getfield 169, 3) := by decide +kernel
def yX11_terms : MethodName := ⟨RX11, "terms", "(II)I"⟩
abbrev cX11_terms : ByteArray := prog_1_method_9_code
theorem dX11_terms_0 : decode cX11_terms 0 = .ok (.iload_n 1, 1) := by decide +kernel
theorem dX11_terms_1 : decode cX11_terms 1 = .ok (.iload_n 2, 1) := by decide +kernel
theorem dX11_terms_2 : decode cX11_terms 2 = .ok (.invokestatic 190, 3) := by decide +kernel
theorem lk_RX11_190 : Cond.methodLink RX11 190 yX10_termCanBe ∈ gW := gW_t 630 (by decide +kernel) rfl
theorem mT_X10_termCanBe : Cond.static yX10_termCanBe ∈ gW := gW_t 631 (by decide +kernel) rfl
theorem mC_X10_termCanBe : Cond.code yX10_termCanBe cX10_termCanBe 2 (some .boolean) ∈ gW := gW_t 632 (by decide +kernel) rfl
theorem ok_X10_termCanBe : okD yX10_termCanBe 2 := ⟨by decide +kernel, by decide +kernel, by decide +kernel⟩
theorem dX11_terms_5 : decode cX11_terms 5 = .ok (.ifCond .ne 9, 3) := by decide +kernel
theorem dX11_terms_14 : decode cX11_terms 14 = .ok (.aload_n 0, 1) := by decide +kernel
theorem dX11_terms_15 : decode cX11_terms 15 = .ok (.getfield 21, 3) := by decide +kernel
theorem dX11_terms_18 : decode cX11_terms 18 = .ok (.getfield 78, 3) := by decide +kernel
theorem dX11_terms_21 : decode cX11_terms 21 = .ok (.getfield 193, 3) := by decide +kernel
theorem fl_RX11_193 : Cond.fieldLink RX11 193 RX10 "term" "[I" ∈ gW := gW_t 230 (by decide +kernel) rfl
theorem dX11_terms_24 : decode cX11_terms 24 = .ok (.iload_n 1, 1) := by decide +kernel
theorem dX11_terms_25 : decode cX11_terms 25 = .ok (.iaload, 1) := by decide +kernel
theorem dX11_terms_26 : decode cX11_terms 26 = .ok (.istore_n 3, 1) := by decide +kernel
theorem dX11_terms_27 : decode cX11_terms 27 = .ok (.aload_n 0, 1) := by decide +kernel
theorem dX11_terms_28 : decode cX11_terms 28 = .ok (.getfield 21, 3) := by decide +kernel
theorem dX11_terms_31 : decode cX11_terms 31 = .ok (.getfield 78, 3) := by decide +kernel
theorem dX11_terms_34 : decode cX11_terms 34 = .ok (.getfield 193, 3) := by decide +kernel
theorem dX11_terms_37 : decode cX11_terms 37 = .ok (.iload_n 1, 1) := by decide +kernel
theorem dX11_terms_38 : decode cX11_terms 38 = .ok (.iload_n 2, 1) := by decide +kernel
theorem dX11_terms_39 : decode cX11_terms 39 = .ok (.iastore, 1) := by decide +kernel
theorem dX11_terms_40 : decode cX11_terms 40 = .ok (.aload_n 0, 1) := by decide +kernel
theorem dX11_terms_41 : decode cX11_terms 41 = .ok (.getfield 21, 3) := by decide +kernel
theorem dX11_terms_44 : decode cX11_terms 44 = .ok (.getfield 107, 3) := by decide +kernel
theorem dX11_terms_47 : decode cX11_terms 47 = .ok (.invokevirtual 111, 3) := by decide +kernel
theorem dX11_terms_50 : decode cX11_terms 50 = .ok (.aload_n 0, 1) := by decide +kernel
theorem dX11_terms_51 : decode cX11_terms 51 = .ok (.iload_n 3, 1) := by decide +kernel
theorem dX11_terms_52 : decode cX11_terms 52 = .ok (.invokevirtual 91, 3) := by decide +kernel
theorem dX11_terms_55 : decode cX11_terms 55 = .ok (.ireturn, 1) := by decide +kernel
theorem dX11_terms_8 : decode cX11_terms 8 = .ok (.aload_n 0, 1) := by decide +kernel
theorem dX11_terms_9 : decode cX11_terms 9 = .ok (.iconst (-1), 1) := by decide +kernel
theorem dX11_terms_10 : decode cX11_terms 10 = .ok (.invokevirtual 91, 3) := by decide +kernel
theorem dX11_terms_13 : decode cX11_terms 13 = .ok (.ireturn, 1) := by decide +kernel
def yX11_row : MethodName := ⟨RX11, "row", "()I"⟩
abbrev cX11_row : ByteArray := prog_1_method_12_code
theorem dX11_row_0 : decode cX11_row 0 = .ok (.aload_n 0, 1) := by decide +kernel
theorem dX11_row_1 : decode cX11_row 1 = .ok (.getfield 42, 3) := by decide +kernel
theorem fl_RX11_42 : Cond.fieldLink RX11 42 RX11 "reader" "LListenWells$Reader;" ∈ gW := gW_t 451 (by decide +kernel) rfl
theorem dX11_row_4 : decode cX11_row 4 = .ok (.getfield 196, 3) := by decide +kernel
theorem fl_RX11_196 : Cond.fieldLink RX11 196 RX5 "length" "I" ∈ gW := gW_t 349 (by decide +kernel) rfl
theorem dX11_row_7 : decode cX11_row 7 = .ok (.ifCond .ne 10, 3) := by decide +kernel
theorem dX11_row_10 : decode cX11_row 10 = .ok (.aload_n 0, 1) := by decide +kernel
theorem dX11_row_11 : decode cX11_row 11 = .ok (.bipush (-6), 2) := by decide +kernel
theorem dX11_row_13 : decode cX11_row 13 = .ok (.invokevirtual 91, 3) := by decide +kernel
theorem dX11_row_16 : decode cX11_row 16 = .ok (.ireturn, 1) := by decide +kernel
def yX11_mud : MethodName := ⟨RX11, "mud", "()I"⟩
abbrev cX11_mud : ByteArray := prog_1_method_13_code
theorem dX11_mud_0 : decode cX11_mud 0 = .ok (.aload_n 0, 1) := by decide +kernel
theorem dX11_mud_1 : decode cX11_mud 1 = .ok (.getfield 206, 3) := by decide +kernel
theorem fl_RX11_206 : Cond.fieldLink RX11 206 RX11 "latestMud" "I" ∈ gW := gW_t 456 (by decide +kernel) rfl
theorem dX11_mud_4 : decode cX11_mud 4 = .ok (.ireturn, 1) := by decide +kernel
def yX11_end : MethodName := ⟨RX11, "end", "(I)I"⟩
abbrev cX11_end : ByteArray := prog_1_method_11_code
theorem dX11_end_0 : decode cX11_end 0 = .ok (.iload_n 1, 1) := by decide +kernel
theorem dX11_end_1 : decode cX11_end 1 = .ok (.ifCond .lt 14, 3) := by decide +kernel
theorem dX11_end_15 : decode cX11_end 15 = .ok (.iconst (-1), 1) := by decide +kernel
theorem dX11_end_16 : decode cX11_end 16 = .ok (.ireturn, 1) := by decide +kernel
theorem dX11_end_4 : decode cX11_end 4 = .ok (.iload_n 1, 1) := by decide +kernel
theorem dX11_end_5 : decode cX11_end 5 = .ok (.aload_n 0, 1) := by decide +kernel
theorem dX11_end_6 : decode cX11_end 6 = .ok (.getfield 42, 3) := by decide +kernel
theorem dX11_end_9 : decode cX11_end 9 = .ok (.getfield 196, 3) := by decide +kernel
theorem dX11_end_12 : decode cX11_end 12 = .ok (.if_icmp .le 5, 3) := by decide +kernel
theorem dX11_end_17 : decode cX11_end 17 = .ok (.aload_n 0, 1) := by decide +kernel
theorem dX11_end_18 : decode cX11_end 18 = .ok (.getfield 42, 3) := by decide +kernel
theorem dX11_end_21 : decode cX11_end 21 = .ok (.iload_n 1, 1) := by decide +kernel
theorem dX11_end_22 : decode cX11_end 22 = .ok (.putfield 196, 3) := by decide +kernel
theorem dX11_end_25 : decode cX11_end 25 = .ok (.iload_n 1, 1) := by decide +kernel
theorem dX11_end_26 : decode cX11_end 26 = .ok (.ireturn, 1) := by decide +kernel
def yX11_fault : MethodName := ⟨RX11, "fault", "()I"⟩
abbrev cX11_fault : ByteArray := prog_1_method_16_code
theorem dX11_fault_0 : decode cX11_fault 0 = .ok (.aload_n 0, 1) := by decide +kernel
theorem dX11_fault_1 : decode cX11_fault 1 = .ok (.getfield 42, 3) := by decide +kernel
theorem dX11_fault_4 : decode cX11_fault 4 = .ok (.getfield 240, 3) := by decide +kernel
theorem fl_RX11_240 : Cond.fieldLink RX11 240 RX5 "faultPlace" "I" ∈ gW := gW_t 357 (by decide +kernel) rfl
theorem dX11_fault_7 : decode cX11_fault 7 = .ok (.ireturn, 1) := by decide +kernel
def yX11_stopped : MethodName := ⟨RX11, "stopped", "()I"⟩
abbrev cX11_stopped : ByteArray := prog_1_method_17_code
theorem dX11_stopped_0 : decode cX11_stopped 0 = .ok (.aload_n 0, 1) := by decide +kernel
theorem dX11_stopped_1 : decode cX11_stopped 1 = .ok (.getfield 71, 3) := by decide +kernel
theorem fl_RX11_71 : Cond.fieldLink RX11 71 RX11 "stoppedAt" "I" ∈ gW := gW_t 457 (by decide +kernel) rfl
theorem dX11_stopped_4 : decode cX11_stopped 4 = .ok (.ireturn, 1) := by decide +kernel
def yX11_force : MethodName := ⟨RX11, "force", "(I)I"⟩
abbrev cX11_force : ByteArray := prog_1_method_18_code
theorem dX11_force_0 : decode cX11_force 0 = .ok (.aload_n 0, 1) := by decide +kernel
theorem dX11_force_1 : decode cX11_force 1 = .ok (.getfield 21, 3) := by decide +kernel
theorem dX11_force_4 : decode cX11_force 4 = .ok (.getfield 78, 3) := by decide +kernel
theorem dX11_force_7 : decode cX11_force 7 = .ok (.astore_n 2, 1) := by decide +kernel
theorem dX11_force_8 : decode cX11_force 8 = .ok (.aload_n 2, 1) := by decide +kernel
theorem dX11_force_9 : decode cX11_force 9 = .ok (.iload_n 1, 1) := by decide +kernel
theorem dX11_force_10 : decode cX11_force 10 = .ok (.invokevirtual 243, 3) := by decide +kernel
theorem lk_RX11_243 : Cond.methodLink RX11 243 yX10_hasLaw ∈ gW := gW_t 953 (by decide +kernel) rfl
theorem mI_X10_hasLaw : Cond.instanceMethod yX10_hasLaw ∈ gW := gW_t 954 (by decide +kernel) rfl
theorem mS_X10_hasLaw : Cond.selects RX10 yX10_hasLaw yX10_hasLaw ∈ gW := gW_t 955 (by decide +kernel) rfl
theorem mC_X10_hasLaw : Cond.code yX10_hasLaw cX10_hasLaw 2 (some .boolean) ∈ gW := gW_t 956 (by decide +kernel) rfl
theorem ok_X10_hasLaw : okD yX10_hasLaw 1 := ⟨by decide +kernel, by decide +kernel, by decide +kernel⟩
theorem dX11_force_13 : decode cX11_force 13 = .ok (.ifCond .ne 10, 3) := by decide +kernel
theorem dX11_force_23 : decode cX11_force 23 = .ok (.aload_n 2, 1) := by decide +kernel
theorem dX11_force_24 : decode cX11_force 24 = .ok (.getfield 246, 3) := by decide +kernel
theorem fl_RX11_246 : Cond.fieldLink RX11 246 RX10 "force" "I" ∈ gW := gW_t 237 (by decide +kernel) rfl
theorem dX11_force_27 : decode cX11_force 27 = .ok (.istore_n 3, 1) := by decide +kernel
theorem dX11_force_28 : decode cX11_force 28 = .ok (.aload_n 2, 1) := by decide +kernel
theorem dX11_force_29 : decode cX11_force 29 = .ok (.iload_n 1, 1) := by decide +kernel
theorem dX11_force_30 : decode cX11_force 30 = .ok (.putfield 246, 3) := by decide +kernel
theorem dX11_force_33 : decode cX11_force 33 = .ok (.aload_n 0, 1) := by decide +kernel
theorem dX11_force_34 : decode cX11_force 34 = .ok (.iconst 0, 1) := by decide +kernel
theorem dX11_force_35 : decode cX11_force 35 = .ok (.putfield 249, 3) := by decide +kernel
theorem dX11_force_38 : decode cX11_force 38 = .ok (.iload_n 3, 1) := by decide +kernel
theorem dX11_force_39 : decode cX11_force 39 = .ok (.ireturn, 1) := by decide +kernel
theorem dX11_force_16 : decode cX11_force 16 = .ok (.aload_n 0, 1) := by decide +kernel
theorem dX11_force_17 : decode cX11_force 17 = .ok (.bipush (-2), 2) := by decide +kernel
theorem dX11_force_19 : decode cX11_force 19 = .ok (.invokevirtual 91, 3) := by decide +kernel
theorem dX11_force_22 : decode cX11_force 22 = .ok (.ireturn, 1) := by decide +kernel
def yX11_asks : MethodName := ⟨RX11, "asks", "(III)I"⟩
abbrev cX11_asks : ByteArray := prog_1_method_19_code
theorem dX11_asks_0 : decode cX11_asks 0 = .ok (.aload_n 0, 1) := by decide +kernel
theorem dX11_asks_1 : decode cX11_asks 1 = .ok (.getfield 21, 3) := by decide +kernel
theorem dX11_asks_4 : decode cX11_asks 4 = .ok (.getfield 78, 3) := by decide +kernel
theorem dX11_asks_7 : decode cX11_asks 7 = .ok (.astore 4, 2) := by decide +kernel
theorem dX11_asks_9 : decode cX11_asks 9 = .ok (.iload_n 1, 1) := by decide +kernel
theorem dX11_asks_10 : decode cX11_asks 10 = .ok (.aload 4, 2) := by decide +kernel
theorem dX11_asks_12 : decode cX11_asks 12 = .ok (.getfield 134, 3) := by decide +kernel
theorem dX11_asks_15 : decode cX11_asks 15 = .ok (.getfield 137, 3) := by decide +kernel
theorem dX11_asks_18 : decode cX11_asks 18 = .ok (.invokestatic 82, 3) := by decide +kernel
theorem dX11_asks_21 : decode cX11_asks 21 = .ok (.ifCond .eq 12, 3) := by decide +kernel
theorem dX11_asks_33 : decode cX11_asks 33 = .ok (.iconst (-1), 1) := by decide +kernel
theorem dX11_asks_34 : decode cX11_asks 34 = .ok (.ireturn, 1) := by decide +kernel
def yX11_loud : MethodName := ⟨RX11, "loud", "(II)I"⟩
abbrev cX11_loud : ByteArray := prog_1_method_20_code
theorem dX11_loud_0 : decode cX11_loud 0 = .ok (.iload_n 1, 1) := by decide +kernel
theorem dX11_loud_1 : decode cX11_loud 1 = .ok (.bipush 40, 2) := by decide +kernel
theorem dX11_loud_3 : decode cX11_loud 3 = .ok (.invokestatic 82, 3) := by decide +kernel
theorem dX11_loud_6 : decode cX11_loud 6 = .ok (.ifCond .eq 12, 3) := by decide +kernel
theorem dX11_loud_18 : decode cX11_loud 18 = .ok (.ldc_w 261, 3) := by decide +kernel
theorem ct_RX11_261 : Cond.constant RX11 261 (-100000) ∈ gW := gW_t 968 (by decide +kernel) rfl
theorem dX11_loud_21 : decode cX11_loud 21 = .ok (.ireturn, 1) := by decide +kernel
theorem dX11_loud_9 : decode cX11_loud 9 = .ok (.iload_n 2, 1) := by decide +kernel
theorem dX11_loud_10 : decode cX11_loud 10 = .ok (.bipush 8, 2) := by decide +kernel
theorem dX11_loud_12 : decode cX11_loud 12 = .ok (.invokestatic 82, 3) := by decide +kernel
theorem dX11_loud_15 : decode cX11_loud 15 = .ok (.ifCond .ne 7, 3) := by decide +kernel
theorem dX11_loud_22 : decode cX11_loud 22 = .ok (.aload_n 0, 1) := by decide +kernel
theorem dX11_loud_23 : decode cX11_loud 23 = .ok (.getfield 21, 3) := by decide +kernel
theorem dX11_loud_26 : decode cX11_loud 26 = .ok (.getfield 78, 3) := by decide +kernel
theorem dX11_loud_29 : decode cX11_loud 29 = .ok (.astore_n 3, 1) := by decide +kernel
theorem dX11_loud_30 : decode cX11_loud 30 = .ok (.aload_n 0, 1) := by decide +kernel
theorem dX11_loud_31 : decode cX11_loud 31 = .ok (.getfield 10, 3) := by decide +kernel
theorem dX11_loud_34 : decode cX11_loud 34 = .ok (.aload_n 3, 1) := by decide +kernel
theorem dX11_loud_35 : decode cX11_loud 35 = .ok (.aload_n 3, 1) := by decide +kernel
theorem dX11_loud_36 : decode cX11_loud 36 = .ok (.invokevirtual 116, 3) := by decide +kernel
theorem dX11_loud_39 : decode cX11_loud 39 = .ok (.invokevirtual 120, 3) := by decide +kernel
theorem dX11_loud_42 : decode cX11_loud 42 = .ok (.aload_n 3, 1) := by decide +kernel
theorem dX11_loud_43 : decode cX11_loud 43 = .ok (.getfield 95, 3) := by decide +kernel
theorem dX11_loud_46 : decode cX11_loud 46 = .ok (.getfield 124, 3) := by decide +kernel
theorem dX11_loud_49 : decode cX11_loud 49 = .ok (.iload_n 1, 1) := by decide +kernel
theorem dX11_loud_50 : decode cX11_loud 50 = .ok (.iaload, 1) := by decide +kernel
theorem dX11_loud_51 : decode cX11_loud 51 = .ok (.istore 4, 2) := by decide +kernel
theorem dX11_loud_53 : decode cX11_loud 53 = .ok (.aload_n 0, 1) := by decide +kernel
theorem dX11_loud_54 : decode cX11_loud 54 = .ok (.getfield 10, 3) := by decide +kernel
theorem dX11_loud_57 : decode cX11_loud 57 = .ok (.iload_n 1, 1) := by decide +kernel
theorem dX11_loud_58 : decode cX11_loud 58 = .ok (.iload 4, 2) := by decide +kernel
theorem dX11_loud_60 : decode cX11_loud 60 = .ok (.invokevirtual 127, 3) := by decide +kernel
theorem dX11_loud_63 : decode cX11_loud 63 = .ok (.iload_n 1, 1) := by decide +kernel
theorem dX11_loud_64 : decode cX11_loud 64 = .ok (.iload_n 2, 1) := by decide +kernel
theorem dX11_loud_65 : decode cX11_loud 65 = .ok (.invokestatic 262, 3) := by decide +kernel
theorem lk_RX11_262 : Cond.methodLink RX11 262 yX11_stepsTo ∈ gW := gW_t 969 (by decide +kernel) rfl
theorem mT_X11_stepsTo : Cond.static yX11_stepsTo ∈ gW := gW_t 970 (by decide +kernel) rfl
theorem mC_X11_stepsTo : Cond.code yX11_stepsTo cX11_stepsTo 2 (some .int) ∈ gW := gW_t 971 (by decide +kernel) rfl
theorem ok_X11_stepsTo : okD yX11_stepsTo 2 := ⟨by decide +kernel, by decide +kernel, by decide +kernel⟩
theorem dX11_loud_68 : decode cX11_loud 68 = .ok (.aload_n 0, 1) := by decide +kernel
theorem dX11_loud_69 : decode cX11_loud 69 = .ok (.getfield 10, 3) := by decide +kernel
theorem dX11_loud_72 : decode cX11_loud 72 = .ok (.iload_n 1, 1) := by decide +kernel
theorem dX11_loud_73 : decode cX11_loud 73 = .ok (.iload 4, 2) := by decide +kernel
theorem dX11_loud_75 : decode cX11_loud 75 = .ok (.invokevirtual 131, 3) := by decide +kernel
theorem dX11_loud_78 : decode cX11_loud 78 = .ok (.imul, 1) := by decide +kernel
theorem dX11_loud_79 : decode cX11_loud 79 = .ok (.isub, 1) := by decide +kernel
theorem dX11_loud_80 : decode cX11_loud 80 = .ok (.ireturn, 1) := by decide +kernel
def yX11_din : MethodName := ⟨RX11, "din", "(I)I"⟩
abbrev cX11_din : ByteArray := prog_1_method_21_code
theorem dX11_din_0 : decode cX11_din 0 = .ok (.iload_n 1, 1) := by decide +kernel
theorem dX11_din_1 : decode cX11_din 1 = .ok (.bipush 8, 2) := by decide +kernel
theorem dX11_din_3 : decode cX11_din 3 = .ok (.invokestatic 82, 3) := by decide +kernel
theorem dX11_din_6 : decode cX11_din 6 = .ok (.ifCond .eq 21, 3) := by decide +kernel
theorem dX11_din_27 : decode cX11_din 27 = .ok (.iconst (-1), 1) := by decide +kernel
theorem dX11_din_28 : decode cX11_din 28 = .ok (.ireturn, 1) := by decide +kernel
theorem dX11_din_9 : decode cX11_din 9 = .ok (.aload_n 0, 1) := by decide +kernel
theorem dX11_din_10 : decode cX11_din 10 = .ok (.getfield 21, 3) := by decide +kernel
theorem dX11_din_13 : decode cX11_din 13 = .ok (.getfield 78, 3) := by decide +kernel
theorem dX11_din_16 : decode cX11_din 16 = .ok (.getfield 156, 3) := by decide +kernel
theorem dX11_din_19 : decode cX11_din 19 = .ok (.iload_n 1, 1) := by decide +kernel
theorem dX11_din_20 : decode cX11_din 20 = .ok (.iconst 0, 1) := by decide +kernel
theorem dX11_din_21 : decode cX11_din 21 = .ok (.invokevirtual 265, 3) := by decide +kernel
theorem lk_RX11_265 : Cond.methodLink RX11 265 yX4_noiseIn ∈ gW := gW_t 977 (by decide +kernel) rfl
theorem mI_X4_noiseIn : Cond.instanceMethod yX4_noiseIn ∈ gW := gW_t 893 (by decide +kernel) rfl
theorem mS_X4_noiseIn : Cond.selects RX4 yX4_noiseIn yX4_noiseIn ∈ gW := gW_t 894 (by decide +kernel) rfl
theorem mC_X4_noiseIn : Cond.code yX4_noiseIn cX4_noiseIn 6 (some .int) ∈ gW := gW_t 895 (by decide +kernel) rfl
theorem ok_X4_noiseIn : okD yX4_noiseIn 2 := ⟨by decide +kernel, by decide +kernel, by decide +kernel⟩
theorem dX11_din_24 : decode cX11_din 24 = .ok (.goto 4, 3) := by decide +kernel
def yX11_hears : MethodName := ⟨RX11, "hears", "(I)J"⟩
abbrev cX11_hears : ByteArray := prog_1_method_22_code
theorem dX11_hears_0 : decode cX11_hears 0 = .ok (.aload_n 0, 1) := by decide +kernel
theorem dX11_hears_1 : decode cX11_hears 1 = .ok (.getfield 21, 3) := by decide +kernel
theorem dX11_hears_4 : decode cX11_hears 4 = .ok (.getfield 78, 3) := by decide +kernel
theorem dX11_hears_7 : decode cX11_hears 7 = .ok (.astore_n 2, 1) := by decide +kernel
theorem dX11_hears_8 : decode cX11_hears 8 = .ok (.iload_n 1, 1) := by decide +kernel
theorem dX11_hears_9 : decode cX11_hears 9 = .ok (.aload_n 2, 1) := by decide +kernel
theorem dX11_hears_10 : decode cX11_hears 10 = .ok (.getfield 156, 3) := by decide +kernel
theorem dX11_hears_13 : decode cX11_hears 13 = .ok (.getfield 160, 3) := by decide +kernel
theorem dX11_hears_16 : decode cX11_hears 16 = .ok (.invokestatic 82, 3) := by decide +kernel
theorem dX11_hears_19 : decode cX11_hears 19 = .ok (.ifCond .ne 7, 3) := by decide +kernel
theorem dX11_hears_22 : decode cX11_hears 22 = .ok (.ldc2_w 268, 3) := by decide +kernel
theorem ct_RX11_268 : Cond.constantLong RX11 268 (-1) ∈ gW := gW_t 982 (by decide +kernel) rfl
theorem dX11_hears_25 : decode cX11_hears 25 = .ok (.lreturn, 1) := by decide +kernel
def yX11_dig : MethodName := ⟨RX11, "dig", "(II)I"⟩
abbrev cX11_dig : ByteArray := prog_1_method_23_code
theorem dX11_dig_0 : decode cX11_dig 0 = .ok (.aload_n 0, 1) := by decide +kernel
theorem dX11_dig_1 : decode cX11_dig 1 = .ok (.aload_n 0, 1) := by decide +kernel
theorem dX11_dig_2 : decode cX11_dig 2 = .ok (.getfield 21, 3) := by decide +kernel
theorem dX11_dig_5 : decode cX11_dig 5 = .ok (.iload_n 1, 1) := by decide +kernel
theorem dX11_dig_6 : decode cX11_dig 6 = .ok (.iload_n 2, 1) := by decide +kernel
theorem dX11_dig_7 : decode cX11_dig 7 = .ok (.invokevirtual 277, 3) := by decide +kernel
theorem lk_RX11_277 : Cond.methodLink RX11 277 yX7_tryDig ∈ gW := gW_t 1008 (by decide +kernel) rfl
theorem mI_X7_tryDig : Cond.instanceMethod yX7_tryDig ∈ gW := gW_t 917 (by decide +kernel) rfl
theorem mS_X7_tryDig : Cond.selects RX7 yX7_tryDig yX7_tryDig ∈ gW := gW_t 918 (by decide +kernel) rfl
theorem mN_RX7 : Cond.initialized RX7 ∈ gW := gW_t 3 (by decide +kernel) rfl
theorem mC_X7_tryDig : Cond.code yX7_tryDig cX7_tryDig 7 (some .int) ∈ gW := gW_t 919 (by decide +kernel) rfl
theorem ok_X7_tryDig : okD yX7_tryDig 2 := ⟨by decide +kernel, by decide +kernel, by decide +kernel⟩
theorem dX11_dig_10 : decode cX11_dig 10 = .ok (.invokevirtual 91, 3) := by decide +kernel
theorem dX11_dig_13 : decode cX11_dig 13 = .ok (.ireturn, 1) := by decide +kernel
def yX11_haul : MethodName := ⟨RX11, "haul", "(I)I"⟩
abbrev cX11_haul : ByteArray := prog_1_method_24_code
theorem dX11_haul_0 : decode cX11_haul 0 = .ok (.aload_n 0, 1) := by decide +kernel
theorem dX11_haul_1 : decode cX11_haul 1 = .ok (.aload_n 0, 1) := by decide +kernel
theorem dX11_haul_2 : decode cX11_haul 2 = .ok (.getfield 21, 3) := by decide +kernel
theorem dX11_haul_5 : decode cX11_haul 5 = .ok (.iload_n 1, 1) := by decide +kernel
theorem dX11_haul_6 : decode cX11_haul 6 = .ok (.invokevirtual 280, 3) := by decide +kernel
theorem lk_RX11_280 : Cond.methodLink RX11 280 yX7_tryHaul ∈ gW := gW_t 1013 (by decide +kernel) rfl
theorem mI_X7_tryHaul : Cond.instanceMethod yX7_tryHaul ∈ gW := gW_t 901 (by decide +kernel) rfl
theorem mS_X7_tryHaul : Cond.selects RX7 yX7_tryHaul yX7_tryHaul ∈ gW := gW_t 902 (by decide +kernel) rfl
theorem mC_X7_tryHaul : Cond.code yX7_tryHaul cX7_tryHaul 6 (some .int) ∈ gW := gW_t 903 (by decide +kernel) rfl
theorem ok_X7_tryHaul : okD yX7_tryHaul 1 := ⟨by decide +kernel, by decide +kernel, by decide +kernel⟩
theorem dX11_haul_9 : decode cX11_haul 9 = .ok (.invokevirtual 91, 3) := by decide +kernel
theorem dX11_haul_12 : decode cX11_haul 12 = .ok (.ireturn, 1) := by decide +kernel
def yX11_hush : MethodName := ⟨RX11, "hush", "(I)I"⟩
abbrev cX11_hush : ByteArray := prog_1_method_25_code
theorem dX11_hush_0 : decode cX11_hush 0 = .ok (.aload_n 0, 1) := by decide +kernel
theorem dX11_hush_1 : decode cX11_hush 1 = .ok (.aload_n 0, 1) := by decide +kernel
theorem dX11_hush_2 : decode cX11_hush 2 = .ok (.getfield 21, 3) := by decide +kernel
theorem dX11_hush_5 : decode cX11_hush 5 = .ok (.iload_n 1, 1) := by decide +kernel
theorem dX11_hush_6 : decode cX11_hush 6 = .ok (.invokevirtual 283, 3) := by decide +kernel
theorem lk_RX11_283 : Cond.methodLink RX11 283 yX7_tryHush ∈ gW := gW_t 1018 (by decide +kernel) rfl
theorem mI_X7_tryHush : Cond.instanceMethod yX7_tryHush ∈ gW := gW_t 883 (by decide +kernel) rfl
theorem mS_X7_tryHush : Cond.selects RX7 yX7_tryHush yX7_tryHush ∈ gW := gW_t 884 (by decide +kernel) rfl
theorem mC_X7_tryHush : Cond.code yX7_tryHush cX7_tryHush 3 (some .int) ∈ gW := gW_t 885 (by decide +kernel) rfl
theorem ok_X7_tryHush : okD yX7_tryHush 1 := ⟨by decide +kernel, by decide +kernel, by decide +kernel⟩
theorem dX11_hush_9 : decode cX11_hush 9 = .ok (.invokevirtual 91, 3) := by decide +kernel
theorem dX11_hush_12 : decode cX11_hush 12 = .ok (.ireturn, 1) := by decide +kernel
def yX11_lie : MethodName := ⟨RX11, "lie", "(II)I"⟩
abbrev cX11_lie : ByteArray := prog_1_method_26_code
theorem dX11_lie_0 : decode cX11_lie 0 = .ok (.aload_n 0, 1) := by decide +kernel
theorem dX11_lie_1 : decode cX11_lie 1 = .ok (.aload_n 0, 1) := by decide +kernel
theorem dX11_lie_2 : decode cX11_lie 2 = .ok (.getfield 21, 3) := by decide +kernel
theorem dX11_lie_5 : decode cX11_lie 5 = .ok (.iload_n 1, 1) := by decide +kernel
theorem dX11_lie_6 : decode cX11_lie 6 = .ok (.iload_n 2, 1) := by decide +kernel
theorem dX11_lie_7 : decode cX11_lie 7 = .ok (.invokevirtual 286, 3) := by decide +kernel
theorem lk_RX11_286 : Cond.methodLink RX11 286 yX7_tryLie ∈ gW := gW_t 1023 (by decide +kernel) rfl
theorem mI_X7_tryLie : Cond.instanceMethod yX7_tryLie ∈ gW := gW_t 913 (by decide +kernel) rfl
theorem mS_X7_tryLie : Cond.selects RX7 yX7_tryLie yX7_tryLie ∈ gW := gW_t 914 (by decide +kernel) rfl
theorem mC_X7_tryLie : Cond.code yX7_tryLie cX7_tryLie 4 (some .int) ∈ gW := gW_t 915 (by decide +kernel) rfl
theorem ok_X7_tryLie : okD yX7_tryLie 2 := ⟨by decide +kernel, by decide +kernel, by decide +kernel⟩
theorem dX11_lie_10 : decode cX11_lie 10 = .ok (.invokevirtual 91, 3) := by decide +kernel
theorem dX11_lie_13 : decode cX11_lie 13 = .ok (.ireturn, 1) := by decide +kernel
def yX11_undo : MethodName := ⟨RX11, "undo", "()I"⟩
abbrev cX11_undo : ByteArray := prog_1_method_27_code
theorem dX11_undo_0 : decode cX11_undo 0 = .ok (.aload_n 0, 1) := by decide +kernel
theorem dX11_undo_1 : decode cX11_undo 1 = .ok (.aload_n 0, 1) := by decide +kernel
theorem dX11_undo_2 : decode cX11_undo 2 = .ok (.getfield 21, 3) := by decide +kernel
theorem dX11_undo_5 : decode cX11_undo 5 = .ok (.invokevirtual 289, 3) := by decide +kernel
theorem lk_RX11_289 : Cond.methodLink RX11 289 yX7_takeBack ∈ gW := gW_t 1028 (by decide +kernel) rfl
theorem mI_X7_takeBack : Cond.instanceMethod yX7_takeBack ∈ gW := gW_t 1029 (by decide +kernel) rfl
theorem mS_X7_takeBack : Cond.selects RX7 yX7_takeBack yX7_takeBack ∈ gW := gW_t 1030 (by decide +kernel) rfl
theorem mC_X7_takeBack : Cond.code yX7_takeBack cX7_takeBack 4 (some .int) ∈ gW := gW_t 1031 (by decide +kernel) rfl
theorem ok_X7_takeBack : okD yX7_takeBack 0 := ⟨by decide +kernel, by decide +kernel, by decide +kernel⟩
theorem dX11_undo_8 : decode cX11_undo 8 = .ok (.invokevirtual 91, 3) := by decide +kernel
theorem dX11_undo_11 : decode cX11_undo 11 = .ok (.ireturn, 1) := by decide +kernel
def yX11_down : MethodName := ⟨RX11, "down", "(III)I"⟩
abbrev cX11_down : ByteArray := prog_1_method_28_code
theorem dX11_down_0 : decode cX11_down 0 = .ok (.iload_n 3, 1) := by decide +kernel
theorem dX11_down_1 : decode cX11_down 1 = .ok (.ifCond .lt 12, 3) := by decide +kernel
theorem dX11_down_13 : decode cX11_down 13 = .ok (.iconst (-1), 1) := by decide +kernel
theorem dX11_down_14 : decode cX11_down 14 = .ok (.ireturn, 1) := by decide +kernel
theorem dX11_down_4 : decode cX11_down 4 = .ok (.aload_n 0, 1) := by decide +kernel
theorem dX11_down_5 : decode cX11_down 5 = .ok (.iload_n 1, 1) := by decide +kernel
theorem dX11_down_6 : decode cX11_down 6 = .ok (.iload_n 2, 1) := by decide +kernel
theorem dX11_down_7 : decode cX11_down 7 = .ok (.invokevirtual 293, 3) := by decide +kernel
theorem lk_RX11_293 : Cond.methodLink RX11 293 yX11_findWay ∈ gW := gW_t 1046 (by decide +kernel) rfl
theorem mI_X11_findWay : Cond.instanceMethod yX11_findWay ∈ gW := gW_t 1048 (by decide +kernel) rfl
theorem mS_X11_findWay : Cond.selects RX11 yX11_findWay yX11_findWay ∈ gW := gW_p (q := (yX11_findWay, 14)) 31 (by decide +kernel)
theorem mC_X11_findWay : Cond.code yX11_findWay cX11_findWay 4 (some .boolean) ∈ gW := gW_t 1049 (by decide +kernel) rfl
theorem ok_X11_findWay : okD yX11_findWay 2 := ⟨by decide +kernel, by decide +kernel, by decide +kernel⟩
theorem dX11_down_10 : decode cX11_down 10 = .ok (.ifCond .ne 5, 3) := by decide +kernel
def yX11_quiet : MethodName := ⟨RX11, "quiet", "(III)I"⟩
abbrev cX11_quiet : ByteArray := prog_1_method_30_code
theorem dX11_quiet_0 : decode cX11_quiet 0 = .ok (.aload_n 0, 1) := by decide +kernel
theorem dX11_quiet_1 : decode cX11_quiet 1 = .ok (.getfield 21, 3) := by decide +kernel
theorem dX11_quiet_4 : decode cX11_quiet 4 = .ok (.getfield 78, 3) := by decide +kernel
theorem dX11_quiet_7 : decode cX11_quiet 7 = .ok (.astore 4, 2) := by decide +kernel
theorem dX11_quiet_9 : decode cX11_quiet 9 = .ok (.iload_n 1, 1) := by decide +kernel
theorem dX11_quiet_10 : decode cX11_quiet 10 = .ok (.ifCond .lt 20, 3) := by decide +kernel
theorem dX11_quiet_30 : decode cX11_quiet 30 = .ok (.iconst 0, 1) := by decide +kernel
theorem dX11_quiet_31 : decode cX11_quiet 31 = .ok (.istore 5, 2) := by decide +kernel
theorem dX11_quiet_33 : decode cX11_quiet 33 = .ok (.iload 5, 2) := by decide +kernel
theorem dX11_quiet_35 : decode cX11_quiet 35 = .ok (.ifCond .eq 34, 3) := by decide +kernel
theorem dX11_quiet_69 : decode cX11_quiet 69 = .ok (.iconst (-1), 1) := by decide +kernel
theorem dX11_quiet_70 : decode cX11_quiet 70 = .ok (.ireturn, 1) := by decide +kernel
theorem dX11_quiet_13 : decode cX11_quiet 13 = .ok (.iload_n 1, 1) := by decide +kernel
theorem dX11_quiet_14 : decode cX11_quiet 14 = .ok (.aload 4, 2) := by decide +kernel
theorem dX11_quiet_16 : decode cX11_quiet 16 = .ok (.getfield 156, 3) := by decide +kernel
theorem dX11_quiet_19 : decode cX11_quiet 19 = .ok (.getfield 160, 3) := by decide +kernel
theorem dX11_quiet_22 : decode cX11_quiet 22 = .ok (.ishr, 1) := by decide +kernel
theorem dX11_quiet_23 : decode cX11_quiet 23 = .ok (.ifCond .ne 7, 3) := by decide +kernel
theorem dX11_quiet_26 : decode cX11_quiet 26 = .ok (.iconst 1, 1) := by decide +kernel
theorem dX11_quiet_27 : decode cX11_quiet 27 = .ok (.goto 4, 3) := by decide +kernel
theorem dX11_quiet_38 : decode cX11_quiet 38 = .ok (.iload_n 2, 1) := by decide +kernel
theorem dX11_quiet_39 : decode cX11_quiet 39 = .ok (.bipush 40, 2) := by decide +kernel
theorem dX11_quiet_41 : decode cX11_quiet 41 = .ok (.invokestatic 82, 3) := by decide +kernel
theorem dX11_quiet_44 : decode cX11_quiet 44 = .ok (.ifCond .eq 25, 3) := by decide +kernel
theorem dX11_quiet_47 : decode cX11_quiet 47 = .ok (.iload_n 3, 1) := by decide +kernel
theorem dX11_quiet_48 : decode cX11_quiet 48 = .ok (.iconst 2, 1) := by decide +kernel
theorem dX11_quiet_49 : decode cX11_quiet 49 = .ok (.invokestatic 82, 3) := by decide +kernel
theorem dX11_quiet_52 : decode cX11_quiet 52 = .ok (.ifCond .eq 17, 3) := by decide +kernel
theorem dX11_quiet_55 : decode cX11_quiet 55 = .ok (.aload 4, 2) := by decide +kernel
theorem dX11_quiet_57 : decode cX11_quiet 57 = .ok (.getfield 95, 3) := by decide +kernel
theorem dX11_quiet_60 : decode cX11_quiet 60 = .ok (.getfield 124, 3) := by decide +kernel
theorem dX11_quiet_63 : decode cX11_quiet 63 = .ok (.iload_n 2, 1) := by decide +kernel
theorem dX11_quiet_64 : decode cX11_quiet 64 = .ok (.iaload, 1) := by decide +kernel
theorem dX11_quiet_65 : decode cX11_quiet 65 = .ok (.iconst 3, 1) := by decide +kernel
theorem dX11_quiet_66 : decode cX11_quiet 66 = .ok (.if_icmp .eq 5, 3) := by decide +kernel
def yX11_heard : MethodName := ⟨RX11, "heard", "(II)I"⟩
abbrev cX11_heard : ByteArray := prog_1_method_31_code
theorem dX11_heard_0 : decode cX11_heard 0 = .ok (.iload_n 1, 1) := by decide +kernel
theorem dX11_heard_1 : decode cX11_heard 1 = .ok (.bipush 8, 2) := by decide +kernel
theorem dX11_heard_3 : decode cX11_heard 3 = .ok (.invokestatic 82, 3) := by decide +kernel
theorem dX11_heard_6 : decode cX11_heard 6 = .ok (.ifCond .eq 12, 3) := by decide +kernel
theorem dX11_heard_18 : decode cX11_heard 18 = .ok (.aload_n 0, 1) := by decide +kernel
theorem dX11_heard_19 : decode cX11_heard 19 = .ok (.iconst (-1), 1) := by decide +kernel
theorem dX11_heard_20 : decode cX11_heard 20 = .ok (.invokevirtual 91, 3) := by decide +kernel
theorem dX11_heard_23 : decode cX11_heard 23 = .ok (.ireturn, 1) := by decide +kernel
theorem dX11_heard_9 : decode cX11_heard 9 = .ok (.iload_n 2, 1) := by decide +kernel
theorem dX11_heard_10 : decode cX11_heard 10 = .ok (.bipush 100, 2) := by decide +kernel
theorem dX11_heard_12 : decode cX11_heard 12 = .ok (.invokestatic 82, 3) := by decide +kernel
theorem dX11_heard_15 : decode cX11_heard 15 = .ok (.ifCond .ne 9, 3) := by decide +kernel
theorem dX11_heard_24 : decode cX11_heard 24 = .ok (.aload_n 0, 1) := by decide +kernel
theorem dX11_heard_25 : decode cX11_heard 25 = .ok (.getfield 21, 3) := by decide +kernel
theorem dX11_heard_28 : decode cX11_heard 28 = .ok (.getfield 78, 3) := by decide +kernel
theorem dX11_heard_31 : decode cX11_heard 31 = .ok (.getfield 156, 3) := by decide +kernel
theorem dX11_heard_34 : decode cX11_heard 34 = .ok (.astore_n 3, 1) := by decide +kernel
theorem dX11_heard_35 : decode cX11_heard 35 = .ok (.aload_n 3, 1) := by decide +kernel
theorem dX11_heard_36 : decode cX11_heard 36 = .ok (.getfield 329, 3) := by decide +kernel
theorem fl_RX11_329 : Cond.fieldLink RX11 329 RX4 "hearsay" "I" ∈ gW := gW_t 178 (by decide +kernel) rfl
theorem dX11_heard_39 : decode cX11_heard 39 = .ok (.bipush 8, 2) := by decide +kernel
theorem dX11_heard_41 : decode cX11_heard 41 = .ok (.if_icmp .lt 10, 3) := by decide +kernel
theorem dX11_heard_51 : decode cX11_heard 51 = .ok (.aload_n 3, 1) := by decide +kernel
theorem dX11_heard_52 : decode cX11_heard 52 = .ok (.iload_n 1, 1) := by decide +kernel
theorem dX11_heard_53 : decode cX11_heard 53 = .ok (.iload_n 2, 1) := by decide +kernel
theorem dX11_heard_54 : decode cX11_heard 54 = .ok (.invokevirtual 332, 3) := by decide +kernel
theorem lk_RX11_332 : Cond.methodLink RX11 332 yX4_addHearsay ∈ gW := gW_t 1130 (by decide +kernel) rfl
theorem mI_X4_addHearsay : Cond.instanceMethod yX4_addHearsay ∈ gW := gW_t 1131 (by decide +kernel) rfl
theorem mS_X4_addHearsay : Cond.selects RX4 yX4_addHearsay yX4_addHearsay ∈ gW := gW_t 1132 (by decide +kernel) rfl
theorem mC_X4_addHearsay : Cond.code yX4_addHearsay cX4_addHearsay 3 none ∈ gW := gW_t 1133 (by decide +kernel) rfl
theorem ok_X4_addHearsay : okD yX4_addHearsay 2 := ⟨by decide +kernel, by decide +kernel, by decide +kernel⟩
theorem dX11_heard_57 : decode cX11_heard 57 = .ok (.aload_n 0, 1) := by decide +kernel
theorem dX11_heard_58 : decode cX11_heard 58 = .ok (.aload_n 3, 1) := by decide +kernel
theorem dX11_heard_59 : decode cX11_heard 59 = .ok (.getfield 329, 3) := by decide +kernel
theorem dX11_heard_62 : decode cX11_heard 62 = .ok (.invokevirtual 91, 3) := by decide +kernel
theorem dX11_heard_65 : decode cX11_heard 65 = .ok (.ireturn, 1) := by decide +kernel
def yX11_forget : MethodName := ⟨RX11, "forget", "()I"⟩
abbrev cX11_forget : ByteArray := prog_1_method_32_code
theorem dX11_forget_0 : decode cX11_forget 0 = .ok (.aload_n 0, 1) := by decide +kernel
theorem dX11_forget_1 : decode cX11_forget 1 = .ok (.getfield 21, 3) := by decide +kernel
theorem dX11_forget_4 : decode cX11_forget 4 = .ok (.getfield 78, 3) := by decide +kernel
theorem dX11_forget_7 : decode cX11_forget 7 = .ok (.getfield 156, 3) := by decide +kernel
theorem dX11_forget_10 : decode cX11_forget 10 = .ok (.astore_n 1, 1) := by decide +kernel
theorem dX11_forget_11 : decode cX11_forget 11 = .ok (.aload_n 1, 1) := by decide +kernel
theorem dX11_forget_12 : decode cX11_forget 12 = .ok (.getfield 329, 3) := by decide +kernel
theorem dX11_forget_15 : decode cX11_forget 15 = .ok (.aload_n 1, 1) := by decide +kernel
theorem dX11_forget_16 : decode cX11_forget 16 = .ok (.getfield 335, 3) := by decide +kernel
theorem fl_RX11_335 : Cond.fieldLink RX11 335 RX4 "wells" "I" ∈ gW := gW_t 182 (by decide +kernel) rfl
theorem dX11_forget_19 : decode cX11_forget 19 = .ok (.iadd, 1) := by decide +kernel
theorem dX11_forget_20 : decode cX11_forget 20 = .ok (.istore_n 2, 1) := by decide +kernel
theorem dX11_forget_21 : decode cX11_forget 21 = .ok (.aload_n 1, 1) := by decide +kernel
theorem dX11_forget_22 : decode cX11_forget 22 = .ok (.iconst 0, 1) := by decide +kernel
theorem dX11_forget_23 : decode cX11_forget 23 = .ok (.putfield 329, 3) := by decide +kernel
theorem dX11_forget_26 : decode cX11_forget 26 = .ok (.aload_n 1, 1) := by decide +kernel
theorem dX11_forget_27 : decode cX11_forget 27 = .ok (.iconst 0, 1) := by decide +kernel
theorem dX11_forget_28 : decode cX11_forget 28 = .ok (.putfield 335, 3) := by decide +kernel
theorem dX11_forget_31 : decode cX11_forget 31 = .ok (.iload_n 2, 1) := by decide +kernel
theorem dX11_forget_32 : decode cX11_forget 32 = .ok (.ireturn, 1) := by decide +kernel
def yX11_well : MethodName := ⟨RX11, "well", "(II)I"⟩
abbrev cX11_well : ByteArray := prog_1_method_35_code
theorem dX11_well_0 : decode cX11_well 0 = .ok (.iload_n 1, 1) := by decide +kernel
theorem dX11_well_1 : decode cX11_well 1 = .ok (.bipush 64, 2) := by decide +kernel
theorem dX11_well_3 : decode cX11_well 3 = .ok (.invokestatic 82, 3) := by decide +kernel
theorem dX11_well_6 : decode cX11_well 6 = .ok (.ifCond .eq 11, 3) := by decide +kernel
theorem dX11_well_17 : decode cX11_well 17 = .ok (.aload_n 0, 1) := by decide +kernel
theorem dX11_well_18 : decode cX11_well 18 = .ok (.iconst (-1), 1) := by decide +kernel
theorem dX11_well_19 : decode cX11_well 19 = .ok (.invokevirtual 91, 3) := by decide +kernel
theorem dX11_well_22 : decode cX11_well 22 = .ok (.ireturn, 1) := by decide +kernel
theorem dX11_well_9 : decode cX11_well 9 = .ok (.iload_n 2, 1) := by decide +kernel
theorem dX11_well_10 : decode cX11_well 10 = .ok (.iconst 2, 1) := by decide +kernel
theorem dX11_well_11 : decode cX11_well 11 = .ok (.invokestatic 82, 3) := by decide +kernel
theorem dX11_well_14 : decode cX11_well 14 = .ok (.ifCond .ne 9, 3) := by decide +kernel
theorem dX11_well_23 : decode cX11_well 23 = .ok (.aload_n 0, 1) := by decide +kernel
theorem dX11_well_24 : decode cX11_well 24 = .ok (.getfield 21, 3) := by decide +kernel
theorem dX11_well_27 : decode cX11_well 27 = .ok (.getfield 78, 3) := by decide +kernel
theorem dX11_well_30 : decode cX11_well 30 = .ok (.getfield 156, 3) := by decide +kernel
theorem dX11_well_33 : decode cX11_well 33 = .ok (.astore_n 3, 1) := by decide +kernel
theorem dX11_well_34 : decode cX11_well 34 = .ok (.aload_n 3, 1) := by decide +kernel
theorem dX11_well_35 : decode cX11_well 35 = .ok (.getfield 335, 3) := by decide +kernel
theorem dX11_well_38 : decode cX11_well 38 = .ok (.bipush 10, 2) := by decide +kernel
theorem dX11_well_40 : decode cX11_well 40 = .ok (.if_icmp .lt 10, 3) := by decide +kernel
theorem dX11_well_50 : decode cX11_well 50 = .ok (.aload_n 3, 1) := by decide +kernel
theorem dX11_well_51 : decode cX11_well 51 = .ok (.iload_n 1, 1) := by decide +kernel
theorem dX11_well_52 : decode cX11_well 52 = .ok (.iload_n 2, 1) := by decide +kernel
theorem dX11_well_53 : decode cX11_well 53 = .ok (.invokevirtual 346, 3) := by decide +kernel
theorem lk_RX11_346 : Cond.methodLink RX11 346 yX4_addWell ∈ gW := gW_t 1167 (by decide +kernel) rfl
theorem mI_X4_addWell : Cond.instanceMethod yX4_addWell ∈ gW := gW_t 1168 (by decide +kernel) rfl
theorem mS_X4_addWell : Cond.selects RX4 yX4_addWell yX4_addWell ∈ gW := gW_t 1169 (by decide +kernel) rfl
theorem mC_X4_addWell : Cond.code yX4_addWell cX4_addWell 3 none ∈ gW := gW_t 1170 (by decide +kernel) rfl
theorem ok_X4_addWell : okD yX4_addWell 2 := ⟨by decide +kernel, by decide +kernel, by decide +kernel⟩
theorem dX11_well_56 : decode cX11_well 56 = .ok (.aload_n 0, 1) := by decide +kernel
theorem dX11_well_57 : decode cX11_well 57 = .ok (.aload_n 3, 1) := by decide +kernel
theorem dX11_well_58 : decode cX11_well 58 = .ok (.getfield 335, 3) := by decide +kernel
theorem dX11_well_61 : decode cX11_well 61 = .ok (.invokevirtual 91, 3) := by decide +kernel
theorem dX11_well_64 : decode cX11_well 64 = .ok (.ireturn, 1) := by decide +kernel
def yX11_vein : MethodName := ⟨RX11, "vein", "(II)J"⟩
abbrev cX11_vein : ByteArray := prog_1_method_37_code
theorem dX11_vein_0 : decode cX11_vein 0 = .ok (.aload_n 0, 1) := by decide +kernel
theorem dX11_vein_1 : decode cX11_vein 1 = .ok (.getfield 21, 3) := by decide +kernel
theorem dX11_vein_4 : decode cX11_vein 4 = .ok (.getfield 78, 3) := by decide +kernel
theorem dX11_vein_7 : decode cX11_vein 7 = .ok (.astore_n 3, 1) := by decide +kernel
theorem dX11_vein_8 : decode cX11_vein 8 = .ok (.iload_n 1, 1) := by decide +kernel
theorem dX11_vein_9 : decode cX11_vein 9 = .ok (.bipush 40, 2) := by decide +kernel
theorem dX11_vein_11 : decode cX11_vein 11 = .ok (.invokestatic 82, 3) := by decide +kernel
theorem dX11_vein_14 : decode cX11_vein 14 = .ok (.ifCond .eq 16, 3) := by decide +kernel
theorem dX11_vein_30 : decode cX11_vein 30 = .ok (.ldc2_w 268, 3) := by decide +kernel
theorem dX11_vein_33 : decode cX11_vein 33 = .ok (.lreturn, 1) := by decide +kernel
theorem dX11_vein_17 : decode cX11_vein 17 = .ok (.aload_n 3, 1) := by decide +kernel
theorem dX11_vein_18 : decode cX11_vein 18 = .ok (.getfield 95, 3) := by decide +kernel
theorem dX11_vein_21 : decode cX11_vein 21 = .ok (.getfield 124, 3) := by decide +kernel
theorem dX11_vein_24 : decode cX11_vein 24 = .ok (.iload_n 1, 1) := by decide +kernel
theorem dX11_vein_25 : decode cX11_vein 25 = .ok (.iaload, 1) := by decide +kernel
theorem dX11_vein_26 : decode cX11_vein 26 = .ok (.iconst 3, 1) := by decide +kernel
theorem dX11_vein_27 : decode cX11_vein 27 = .ok (.if_icmp .eq 7, 3) := by decide +kernel
def yX11_time : MethodName := ⟨RX11, "time", "(III)J"⟩
abbrev cX11_time : ByteArray := prog_1_method_38_code
theorem dX11_time_0 : decode cX11_time 0 = .ok (.iload_n 3, 1) := by decide +kernel
theorem dX11_time_1 : decode cX11_time 1 = .ok (.sipush 201, 3) := by decide +kernel
theorem dX11_time_4 : decode cX11_time 4 = .ok (.invokestatic 82, 3) := by decide +kernel
theorem dX11_time_7 : decode cX11_time 7 = .ok (.ifCond .eq 12, 3) := by decide +kernel
theorem dX11_time_19 : decode cX11_time 19 = .ok (.ldc2_w 268, 3) := by decide +kernel
theorem dX11_time_22 : decode cX11_time 22 = .ok (.lreturn, 1) := by decide +kernel
theorem dX11_time_10 : decode cX11_time 10 = .ok (.aload_n 0, 1) := by decide +kernel
theorem dX11_time_11 : decode cX11_time 11 = .ok (.iload_n 1, 1) := by decide +kernel
theorem dX11_time_12 : decode cX11_time 12 = .ok (.iload_n 2, 1) := by decide +kernel
theorem dX11_time_13 : decode cX11_time 13 = .ok (.invokevirtual 293, 3) := by decide +kernel
theorem dX11_time_16 : decode cX11_time 16 = .ok (.ifCond .ne 7, 3) := by decide +kernel
def yX11_seasons : MethodName := ⟨RX11, "seasons", "(II)I"⟩
abbrev cX11_seasons : ByteArray := prog_1_method_40_code
theorem dX11_seasons_0 : decode cX11_seasons 0 = .ok (.iload_n 1, 1) := by decide +kernel
theorem dX11_seasons_1 : decode cX11_seasons 1 = .ok (.ldc_w 370, 3) := by decide +kernel
theorem ct_RX11_370 : Cond.constant RX11 370 1000001 ∈ gW := gW_t 1213 (by decide +kernel) rfl
theorem dX11_seasons_4 : decode cX11_seasons 4 = .ok (.invokestatic 82, 3) := by decide +kernel
theorem dX11_seasons_7 : decode cX11_seasons 7 = .ok (.ifCond .eq 14, 3) := by decide +kernel
theorem dX11_seasons_21 : decode cX11_seasons 21 = .ok (.aload_n 0, 1) := by decide +kernel
theorem dX11_seasons_22 : decode cX11_seasons 22 = .ok (.iconst (-1), 1) := by decide +kernel
theorem dX11_seasons_23 : decode cX11_seasons 23 = .ok (.invokevirtual 91, 3) := by decide +kernel
theorem dX11_seasons_26 : decode cX11_seasons 26 = .ok (.ireturn, 1) := by decide +kernel
theorem dX11_seasons_10 : decode cX11_seasons 10 = .ok (.iload_n 2, 1) := by decide +kernel
theorem dX11_seasons_11 : decode cX11_seasons 11 = .ok (.iconst 1, 1) := by decide +kernel
theorem dX11_seasons_12 : decode cX11_seasons 12 = .ok (.if_icmp .lt 9, 3) := by decide +kernel
theorem dX11_seasons_15 : decode cX11_seasons 15 = .ok (.iload_n 2, 1) := by decide +kernel
theorem dX11_seasons_16 : decode cX11_seasons 16 = .ok (.bipush 60, 2) := by decide +kernel
theorem dX11_seasons_18 : decode cX11_seasons 18 = .ok (.if_icmp .le 9, 3) := by decide +kernel
theorem dX11_seasons_27 : decode cX11_seasons 27 = .ok (.aload_n 0, 1) := by decide +kernel
theorem dX11_seasons_28 : decode cX11_seasons 28 = .ok (.getfield 21, 3) := by decide +kernel
theorem dX11_seasons_31 : decode cX11_seasons 31 = .ok (.getfield 78, 3) := by decide +kernel
theorem dX11_seasons_34 : decode cX11_seasons 34 = .ok (.getfield 134, 3) := by decide +kernel
theorem dX11_seasons_37 : decode cX11_seasons 37 = .ok (.getfield 137, 3) := by decide +kernel
theorem dX11_seasons_40 : decode cX11_seasons 40 = .ok (.ifCond .ne 10, 3) := by decide +kernel
theorem dX11_seasons_43 : decode cX11_seasons 43 = .ok (.aload_n 0, 1) := by decide +kernel
theorem dX11_seasons_44 : decode cX11_seasons 44 = .ok (.bipush (-3), 2) := by decide +kernel
theorem dX11_seasons_46 : decode cX11_seasons 46 = .ok (.invokevirtual 91, 3) := by decide +kernel
theorem dX11_seasons_49 : decode cX11_seasons 49 = .ok (.ireturn, 1) := by decide +kernel
def yX11_drawn : MethodName := ⟨RX11, "drawn", "(II)I"⟩
abbrev cX11_drawn : ByteArray := prog_1_method_41_code
theorem dX11_drawn_0 : decode cX11_drawn 0 = .ok (.aload_n 0, 1) := by decide +kernel
theorem dX11_drawn_1 : decode cX11_drawn 1 = .ok (.getfield 67, 3) := by decide +kernel
theorem fl_RX11_67 : Cond.fieldLink RX11 67 RX11 "drawnDay" "I" ∈ gW := gW_t 455 (by decide +kernel) rfl
theorem dX11_drawn_4 : decode cX11_drawn 4 = .ok (.iconst (-1), 1) := by decide +kernel
theorem dX11_drawn_5 : decode cX11_drawn 5 = .ok (.if_icmp .eq 12, 3) := by decide +kernel
theorem dX11_drawn_17 : decode cX11_drawn 17 = .ok (.iconst (-1), 1) := by decide +kernel
theorem dX11_drawn_18 : decode cX11_drawn 18 = .ok (.ireturn, 1) := by decide +kernel
def yX11_back : MethodName := ⟨RX11, "back", "(I)I"⟩
abbrev cX11_back : ByteArray := prog_1_method_43_code
theorem dX11_back_0 : decode cX11_back 0 = .ok (.iload_n 1, 1) := by decide +kernel
theorem dX11_back_1 : decode cX11_back 1 = .ok (.iconst 2, 1) := by decide +kernel
theorem dX11_back_2 : decode cX11_back 2 = .ok (.invokestatic 82, 3) := by decide +kernel
theorem dX11_back_5 : decode cX11_back 5 = .ok (.ifCond .ne 9, 3) := by decide +kernel
theorem dX11_back_14 : decode cX11_back 14 = .ok (.aload_n 0, 1) := by decide +kernel
theorem dX11_back_15 : decode cX11_back 15 = .ok (.getfield 35, 3) := by decide +kernel
theorem fl_RX11_35 : Cond.fieldLink RX11 35 RX11 "kept" "[Z" ∈ gW := gW_t 450 (by decide +kernel) rfl
theorem dX11_back_18 : decode cX11_back 18 = .ok (.iload_n 1, 1) := by decide +kernel
theorem dX11_back_19 : decode cX11_back 19 = .ok (.baload, 1) := by decide +kernel
theorem dX11_back_20 : decode cX11_back 20 = .ok (.ifCond .ne 10, 3) := by decide +kernel
theorem dX11_back_23 : decode cX11_back 23 = .ok (.aload_n 0, 1) := by decide +kernel
theorem dX11_back_24 : decode cX11_back 24 = .ok (.bipush (-2), 2) := by decide +kernel
theorem dX11_back_26 : decode cX11_back 26 = .ok (.invokevirtual 91, 3) := by decide +kernel
theorem dX11_back_29 : decode cX11_back 29 = .ok (.ireturn, 1) := by decide +kernel
theorem dX11_back_8 : decode cX11_back 8 = .ok (.aload_n 0, 1) := by decide +kernel
theorem dX11_back_9 : decode cX11_back 9 = .ok (.iconst (-1), 1) := by decide +kernel
theorem dX11_back_10 : decode cX11_back 10 = .ok (.invokevirtual 91, 3) := by decide +kernel
theorem dX11_back_13 : decode cX11_back 13 = .ok (.ireturn, 1) := by decide +kernel
def yX11_status : MethodName := ⟨RX11, "status", "()I"⟩
abbrev cX11_status : ByteArray := prog_1_method_45_code
theorem dX11_status_0 : decode cX11_status 0 = .ok (.aload_n 0, 1) := by decide +kernel
theorem dX11_status_1 : decode cX11_status 1 = .ok (.getfield 249, 3) := by decide +kernel
theorem dX11_status_4 : decode cX11_status 4 = .ok (.ireturn, 1) := by decide +kernel
