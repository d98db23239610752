def yX12_put : MethodName := ⟨RX12, "put", "(III)I"⟩
abbrev cX12_put : ByteArray := prog_14_method_24_code
theorem dX12_put_0 : decode cX12_put 0 = .ok (.aload_n 0, 1) := by decide +kernel
theorem dX12_put_1 : decode cX12_put 1 = .ok (.iconst 0, 1) := by decide +kernel
theorem dX12_put_2 : decode cX12_put 2 = .ok (.putfield 156, 3) := by decide +kernel
theorem fl_RX12_156 : Cond.fieldLink RX12 156 RX12 "thrown" "I" ∈ gW := gW_t 1273 (by decide +kernel) rfl
theorem dX12_put_5 : decode cX12_put 5 = .ok (.iload_n 1, 1) := by decide +kernel
theorem dX12_put_6 : decode cX12_put 6 = .ok (.invokestatic 197, 3) := by decide +kernel
theorem lk_RX12_197 : Cond.methodLink RX12 197 yX12_isCell ∈ gW := gW_t 1482 (by decide +kernel) rfl
theorem mT_X12_isCell : Cond.static yX12_isCell ∈ gW := gW_t 1483 (by decide +kernel) rfl
theorem mC_X12_isCell : Cond.code yX12_isCell cX12_isCell 1 (some .boolean) ∈ gW := gW_t 1484 (by decide +kernel) rfl
theorem ok_X12_isCell : okD yX12_isCell 1 := ⟨by decide +kernel, by decide +kernel, by decide +kernel⟩
theorem dX12_put_9 : decode cX12_put 9 = .ok (.ifCond .eq 11, 3) := by decide +kernel
theorem dX12_put_20 : decode cX12_put 20 = .ok (.aload_n 0, 1) := by decide +kernel
theorem dX12_put_21 : decode cX12_put 21 = .ok (.iconst (-1), 1) := by decide +kernel
theorem dX12_put_22 : decode cX12_put 22 = .ok (.invokevirtual 169, 3) := by decide +kernel
theorem dX12_put_25 : decode cX12_put 25 = .ok (.ireturn, 1) := by decide +kernel
theorem dX12_put_12 : decode cX12_put 12 = .ok (.iload_n 2, 1) := by decide +kernel
theorem dX12_put_13 : decode cX12_put 13 = .ok (.iload_n 3, 1) := by decide +kernel
theorem dX12_put_14 : decode cX12_put 14 = .ok (.invokestatic 201, 3) := by decide +kernel
theorem lk_RX12_201 : Cond.methodLink RX12 201 yX12_canBe ∈ gW := gW_t 1486 (by decide +kernel) rfl
theorem mT_X12_canBe : Cond.static yX12_canBe ∈ gW := gW_t 1487 (by decide +kernel) rfl
theorem mC_X12_canBe : Cond.code yX12_canBe cX12_canBe 2 (some .boolean) ∈ gW := gW_t 1488 (by decide +kernel) rfl
theorem ok_X12_canBe : okD yX12_canBe 2 := ⟨by decide +kernel, by decide +kernel, by decide +kernel⟩
theorem dX12_put_17 : decode cX12_put 17 = .ok (.ifCond .ne 9, 3) := by decide +kernel
theorem dX12_put_26 : decode cX12_put 26 = .ok (.iload_n 2, 1) := by decide +kernel
theorem dX12_put_27 : decode cX12_put 27 = .ok (.ifCond .ne 23, 3) := by decide +kernel
theorem dX12_put_50 : decode cX12_put 50 = .ok (.aload_n 0, 1) := by decide +kernel
theorem dX12_put_51 : decode cX12_put 51 = .ok (.iconst 0, 1) := by decide +kernel
theorem dX12_put_52 : decode cX12_put 52 = .ok (.putfield 166, 3) := by decide +kernel
theorem dX12_put_55 : decode cX12_put 55 = .ok (.aload_n 0, 1) := by decide +kernel
theorem dX12_put_56 : decode cX12_put 56 = .ok (.iload_n 2, 1) := by decide +kernel
theorem dX12_put_57 : decode cX12_put 57 = .ok (.invokestatic 205, 3) := by decide +kernel
theorem lk_RX12_205 : Cond.methodLink RX12 205 yX12_placeOf ∈ gW := gW_t 1492 (by decide +kernel) rfl
theorem mT_X12_placeOf : Cond.static yX12_placeOf ∈ gW := gW_t 1493 (by decide +kernel) rfl
theorem mC_X12_placeOf : Cond.code yX12_placeOf cX12_placeOf 1 (some .int) ∈ gW := gW_t 1494 (by decide +kernel) rfl
theorem ok_X12_placeOf : okD yX12_placeOf 1 := ⟨by decide +kernel, by decide +kernel, by decide +kernel⟩
theorem dX12_put_60 : decode cX12_put 60 = .ok (.iload_n 1, 1) := by decide +kernel
theorem dX12_put_61 : decode cX12_put 61 = .ok (.iadd, 1) := by decide +kernel
theorem dX12_put_62 : decode cX12_put 62 = .ok (.iload_n 3, 1) := by decide +kernel
theorem dX12_put_63 : decode cX12_put 63 = .ok (.invokevirtual 208, 3) := by decide +kernel
theorem lk_RX12_208 : Cond.methodLink RX12 208 yX12_change ∈ gW := gW_t 1495 (by decide +kernel) rfl
theorem mI_X12_change : Cond.instanceMethod yX12_change ∈ gW := gW_t 1497 (by decide +kernel) rfl
theorem mS_X12_change : Cond.selects RX12 yX12_change yX12_change ∈ gW := gW_p (q := (yX12_change, 59)) 43 (by decide +kernel)
theorem mC_X12_change : Cond.code yX12_change cX12_change 4 (some .int) ∈ gW := gW_t 1498 (by decide +kernel) rfl
theorem ok_X12_change : okD yX12_change 2 := ⟨by decide +kernel, by decide +kernel, by decide +kernel⟩
theorem dX12_put_66 : decode cX12_put 66 = .ok (.ireturn, 1) := by decide +kernel
theorem dX12_put_30 : decode cX12_put 30 = .ok (.aload_n 0, 1) := by decide +kernel
theorem dX12_put_31 : decode cX12_put 31 = .ok (.getfield 13, 3) := by decide +kernel
theorem dX12_put_34 : decode cX12_put 34 = .ok (.bipush 33, 2) := by decide +kernel
theorem dX12_put_36 : decode cX12_put 36 = .ok (.iload_n 1, 1) := by decide +kernel
theorem dX12_put_37 : decode cX12_put 37 = .ok (.iadd, 1) := by decide +kernel
theorem dX12_put_38 : decode cX12_put 38 = .ok (.iaload, 1) := by decide +kernel
theorem dX12_put_39 : decode cX12_put 39 = .ok (.iconst 1, 1) := by decide +kernel
theorem dX12_put_40 : decode cX12_put 40 = .ok (.if_icmp .ne 10, 3) := by decide +kernel
def yX12_at : MethodName := ⟨RX12, "at", "(II)I"⟩
abbrev cX12_at : ByteArray := prog_14_method_25_code
theorem dX12_at_0 : decode cX12_at 0 = .ok (.aload_n 0, 1) := by decide +kernel
theorem dX12_at_1 : decode cX12_at 1 = .ok (.iconst 0, 1) := by decide +kernel
theorem dX12_at_2 : decode cX12_at 2 = .ok (.putfield 156, 3) := by decide +kernel
theorem dX12_at_5 : decode cX12_at 5 = .ok (.iload_n 1, 1) := by decide +kernel
theorem dX12_at_6 : decode cX12_at 6 = .ok (.invokestatic 197, 3) := by decide +kernel
theorem dX12_at_9 : decode cX12_at 9 = .ok (.ifCond .ne 5, 3) := by decide +kernel
theorem dX12_at_14 : decode cX12_at 14 = .ok (.iload_n 2, 1) := by decide +kernel
theorem dX12_at_15 : decode cX12_at 15 = .ok (.tableswitch 89 0 5 #[37, 37, 37, 49, 59, 74], 37) := by decide +kernel
theorem dX12_at_52 : decode cX12_at 52 = .ok (.aload_n 0, 1) := by decide +kernel
theorem dX12_at_53 : decode cX12_at 53 = .ok (.getfield 13, 3) := by decide +kernel
theorem dX12_at_56 : decode cX12_at 56 = .ok (.iload_n 2, 1) := by decide +kernel
theorem dX12_at_57 : decode cX12_at 57 = .ok (.invokestatic 205, 3) := by decide +kernel
theorem dX12_at_60 : decode cX12_at 60 = .ok (.iload_n 1, 1) := by decide +kernel
theorem dX12_at_61 : decode cX12_at 61 = .ok (.iadd, 1) := by decide +kernel
theorem dX12_at_62 : decode cX12_at 62 = .ok (.iaload, 1) := by decide +kernel
theorem dX12_at_63 : decode cX12_at 63 = .ok (.ireturn, 1) := by decide +kernel
theorem dX12_at_64 : decode cX12_at 64 = .ok (.aload_n 0, 1) := by decide +kernel
theorem dX12_at_65 : decode cX12_at 65 = .ok (.getfield 13, 3) := by decide +kernel
theorem dX12_at_68 : decode cX12_at 68 = .ok (.bipush 33, 2) := by decide +kernel
theorem dX12_at_70 : decode cX12_at 70 = .ok (.iload_n 1, 1) := by decide +kernel
theorem dX12_at_71 : decode cX12_at 71 = .ok (.iadd, 1) := by decide +kernel
theorem dX12_at_72 : decode cX12_at 72 = .ok (.iaload, 1) := by decide +kernel
theorem dX12_at_73 : decode cX12_at 73 = .ok (.ireturn, 1) := by decide +kernel
theorem dX12_at_74 : decode cX12_at 74 = .ok (.aload_n 0, 1) := by decide +kernel
theorem dX12_at_75 : decode cX12_at 75 = .ok (.iload_n 1, 1) := by decide +kernel
theorem dX12_at_76 : decode cX12_at 76 = .ok (.aload_n 0, 1) := by decide +kernel
theorem dX12_at_77 : decode cX12_at 77 = .ok (.getfield 13, 3) := by decide +kernel
theorem dX12_at_80 : decode cX12_at 80 = .ok (.bipush 113, 2) := by decide +kernel
theorem dX12_at_82 : decode cX12_at 82 = .ok (.iload_n 1, 1) := by decide +kernel
theorem dX12_at_83 : decode cX12_at 83 = .ok (.iadd, 1) := by decide +kernel
theorem dX12_at_84 : decode cX12_at 84 = .ok (.iaload, 1) := by decide +kernel
theorem dX12_at_85 : decode cX12_at 85 = .ok (.invokevirtual 212, 3) := by decide +kernel
theorem dX12_at_88 : decode cX12_at 88 = .ok (.ireturn, 1) := by decide +kernel
theorem dX12_at_89 : decode cX12_at 89 = .ok (.aload_n 0, 1) := by decide +kernel
theorem dX12_at_90 : decode cX12_at 90 = .ok (.iload_n 1, 1) := by decide +kernel
theorem dX12_at_91 : decode cX12_at 91 = .ok (.aload_n 0, 1) := by decide +kernel
theorem dX12_at_92 : decode cX12_at 92 = .ok (.getfield 13, 3) := by decide +kernel
theorem dX12_at_95 : decode cX12_at 95 = .ok (.bipush 113, 2) := by decide +kernel
theorem dX12_at_97 : decode cX12_at 97 = .ok (.iload_n 1, 1) := by decide +kernel
theorem dX12_at_98 : decode cX12_at 98 = .ok (.iadd, 1) := by decide +kernel
theorem dX12_at_99 : decode cX12_at 99 = .ok (.iaload, 1) := by decide +kernel
theorem dX12_at_100 : decode cX12_at 100 = .ok (.invokevirtual 215, 3) := by decide +kernel
theorem dX12_at_103 : decode cX12_at 103 = .ok (.ireturn, 1) := by decide +kernel
theorem dX12_at_104 : decode cX12_at 104 = .ok (.iconst (-1), 1) := by decide +kernel
theorem dX12_at_105 : decode cX12_at 105 = .ok (.ireturn, 1) := by decide +kernel
theorem dX12_at_12 : decode cX12_at 12 = .ok (.iconst (-1), 1) := by decide +kernel
theorem dX12_at_13 : decode cX12_at 13 = .ok (.ireturn, 1) := by decide +kernel
def yX12_sink : MethodName := ⟨RX12, "sink", "(I)I"⟩
abbrev cX12_sink : ByteArray := prog_14_method_26_code
theorem dX12_sink_0 : decode cX12_sink 0 = .ok (.aload_n 0, 1) := by decide +kernel
theorem dX12_sink_1 : decode cX12_sink 1 = .ok (.iconst 0, 1) := by decide +kernel
theorem dX12_sink_2 : decode cX12_sink 2 = .ok (.putfield 156, 3) := by decide +kernel
theorem dX12_sink_5 : decode cX12_sink 5 = .ok (.iload_n 1, 1) := by decide +kernel
theorem dX12_sink_6 : decode cX12_sink 6 = .ok (.invokestatic 218, 3) := by decide +kernel
theorem dX12_sink_9 : decode cX12_sink 9 = .ok (.ifCond .ne 9, 3) := by decide +kernel
theorem dX12_sink_18 : decode cX12_sink 18 = .ok (.aload_n 0, 1) := by decide +kernel
theorem dX12_sink_19 : decode cX12_sink 19 = .ok (.getfield 13, 3) := by decide +kernel
theorem dX12_sink_22 : decode cX12_sink 22 = .ok (.bipush 33, 2) := by decide +kernel
theorem dX12_sink_24 : decode cX12_sink 24 = .ok (.iload_n 1, 1) := by decide +kernel
theorem dX12_sink_25 : decode cX12_sink 25 = .ok (.iadd, 1) := by decide +kernel
theorem dX12_sink_26 : decode cX12_sink 26 = .ok (.iaload, 1) := by decide +kernel
theorem dX12_sink_27 : decode cX12_sink 27 = .ok (.iconst 1, 1) := by decide +kernel
theorem dX12_sink_28 : decode cX12_sink 28 = .ok (.if_icmp .eq 16, 3) := by decide +kernel
theorem dX12_sink_31 : decode cX12_sink 31 = .ok (.aload_n 0, 1) := by decide +kernel
theorem dX12_sink_32 : decode cX12_sink 32 = .ok (.getfield 13, 3) := by decide +kernel
theorem dX12_sink_35 : decode cX12_sink 35 = .ok (.bipush 113, 2) := by decide +kernel
theorem dX12_sink_37 : decode cX12_sink 37 = .ok (.iload_n 1, 1) := by decide +kernel
theorem dX12_sink_38 : decode cX12_sink 38 = .ok (.iadd, 1) := by decide +kernel
theorem dX12_sink_39 : decode cX12_sink 39 = .ok (.iaload, 1) := by decide +kernel
theorem dX12_sink_40 : decode cX12_sink 40 = .ok (.iconst 1, 1) := by decide +kernel
theorem dX12_sink_41 : decode cX12_sink 41 = .ok (.if_icmp .ne 10, 3) := by decide +kernel
theorem dX12_sink_51 : decode cX12_sink 51 = .ok (.aload_n 0, 1) := by decide +kernel
theorem dX12_sink_52 : decode cX12_sink 52 = .ok (.getfield 13, 3) := by decide +kernel
theorem dX12_sink_55 : decode cX12_sink 55 = .ok (.iconst 0, 1) := by decide +kernel
theorem dX12_sink_56 : decode cX12_sink 56 = .ok (.iaload, 1) := by decide +kernel
theorem dX12_sink_57 : decode cX12_sink 57 = .ok (.istore_n 2, 1) := by decide +kernel
theorem dX12_sink_58 : decode cX12_sink 58 = .ok (.iload_n 2, 1) := by decide +kernel
theorem dX12_sink_59 : decode cX12_sink 59 = .ok (.bipush 6, 2) := by decide +kernel
theorem dX12_sink_61 : decode cX12_sink 61 = .ok (.if_icmp .ne 10, 3) := by decide +kernel
theorem dX12_sink_71 : decode cX12_sink 71 = .ok (.aload_n 0, 1) := by decide +kernel
theorem dX12_sink_72 : decode cX12_sink 72 = .ok (.getfield 13, 3) := by decide +kernel
theorem dX12_sink_75 : decode cX12_sink 75 = .ok (.bipush 10, 2) := by decide +kernel
theorem dX12_sink_77 : decode cX12_sink 77 = .ok (.iload_n 2, 1) := by decide +kernel
theorem dX12_sink_78 : decode cX12_sink 78 = .ok (.iadd, 1) := by decide +kernel
theorem dX12_sink_79 : decode cX12_sink 79 = .ok (.iload_n 1, 1) := by decide +kernel
theorem dX12_sink_80 : decode cX12_sink 80 = .ok (.iastore, 1) := by decide +kernel
theorem dX12_sink_81 : decode cX12_sink 81 = .ok (.aload_n 0, 1) := by decide +kernel
theorem dX12_sink_82 : decode cX12_sink 82 = .ok (.getfield 13, 3) := by decide +kernel
theorem dX12_sink_85 : decode cX12_sink 85 = .ok (.bipush 16, 2) := by decide +kernel
theorem dX12_sink_87 : decode cX12_sink 87 = .ok (.iload_n 2, 1) := by decide +kernel
theorem dX12_sink_88 : decode cX12_sink 88 = .ok (.iadd, 1) := by decide +kernel
theorem dX12_sink_89 : decode cX12_sink 89 = .ok (.iconst 0, 1) := by decide +kernel
theorem dX12_sink_90 : decode cX12_sink 90 = .ok (.iastore, 1) := by decide +kernel
theorem dX12_sink_91 : decode cX12_sink 91 = .ok (.aload_n 0, 1) := by decide +kernel
theorem dX12_sink_92 : decode cX12_sink 92 = .ok (.getfield 13, 3) := by decide +kernel
theorem dX12_sink_95 : decode cX12_sink 95 = .ok (.bipush 33, 2) := by decide +kernel
theorem dX12_sink_97 : decode cX12_sink 97 = .ok (.iload_n 1, 1) := by decide +kernel
theorem dX12_sink_98 : decode cX12_sink 98 = .ok (.iadd, 1) := by decide +kernel
theorem dX12_sink_99 : decode cX12_sink 99 = .ok (.iconst 1, 1) := by decide +kernel
theorem dX12_sink_100 : decode cX12_sink 100 = .ok (.iastore, 1) := by decide +kernel
theorem dX12_sink_101 : decode cX12_sink 101 = .ok (.aload_n 0, 1) := by decide +kernel
theorem dX12_sink_102 : decode cX12_sink 102 = .ok (.getfield 13, 3) := by decide +kernel
theorem dX12_sink_105 : decode cX12_sink 105 = .ok (.iconst 0, 1) := by decide +kernel
theorem dX12_sink_106 : decode cX12_sink 106 = .ok (.dup2, 1) := by decide +kernel
theorem dX12_sink_107 : decode cX12_sink 107 = .ok (.iaload, 1) := by decide +kernel
theorem dX12_sink_108 : decode cX12_sink 108 = .ok (.iconst 1, 1) := by decide +kernel
theorem dX12_sink_109 : decode cX12_sink 109 = .ok (.iadd, 1) := by decide +kernel
theorem dX12_sink_110 : decode cX12_sink 110 = .ok (.iastore, 1) := by decide +kernel
theorem dX12_sink_111 : decode cX12_sink 111 = .ok (.aload_n 0, 1) := by decide +kernel
theorem dX12_sink_112 : decode cX12_sink 112 = .ok (.iload_n 2, 1) := by decide +kernel
theorem dX12_sink_113 : decode cX12_sink 113 = .ok (.invokevirtual 184, 3) := by decide +kernel
theorem lk_RX12_184 : Cond.methodLink RX12 184 yX12_settled ∈ gW := gW_t 1474 (by decide +kernel) rfl
theorem mI_X12_settled : Cond.instanceMethod yX12_settled ∈ gW := gW_t 1476 (by decide +kernel) rfl
theorem mS_X12_settled : Cond.selects RX12 yX12_settled yX12_settled ∈ gW := gW_p (q := (yX12_settled, 59)) 42 (by decide +kernel)
theorem mC_X12_settled : Cond.code yX12_settled cX12_settled 2 (some .int) ∈ gW := gW_t 1477 (by decide +kernel) rfl
theorem ok_X12_settled : okD yX12_settled 1 := ⟨by decide +kernel, by decide +kernel, by decide +kernel⟩
theorem dX12_sink_116 : decode cX12_sink 116 = .ok (.ireturn, 1) := by decide +kernel
theorem dX12_sink_12 : decode cX12_sink 12 = .ok (.aload_n 0, 1) := by decide +kernel
theorem dX12_sink_13 : decode cX12_sink 13 = .ok (.iconst (-1), 1) := by decide +kernel
theorem dX12_sink_14 : decode cX12_sink 14 = .ok (.invokevirtual 169, 3) := by decide +kernel
theorem dX12_sink_17 : decode cX12_sink 17 = .ok (.ireturn, 1) := by decide +kernel
def yX12_of : MethodName := ⟨RX12, "of", "(II)I"⟩
abbrev cX12_of : ByteArray := prog_14_method_29_code
theorem dX12_of_0 : decode cX12_of 0 = .ok (.aload_n 0, 1) := by decide +kernel
theorem dX12_of_1 : decode cX12_of 1 = .ok (.iconst 0, 1) := by decide +kernel
theorem dX12_of_2 : decode cX12_of 2 = .ok (.putfield 156, 3) := by decide +kernel
theorem dX12_of_5 : decode cX12_of 5 = .ok (.aload_n 0, 1) := by decide +kernel
theorem dX12_of_6 : decode cX12_of 6 = .ok (.iload_n 1, 1) := by decide +kernel
theorem dX12_of_7 : decode cX12_of 7 = .ok (.invokevirtual 221, 3) := by decide +kernel
theorem dX12_of_10 : decode cX12_of 10 = .ok (.ifCond .ne 5, 3) := by decide +kernel
theorem dX12_of_13 : decode cX12_of 13 = .ok (.iconst (-1), 1) := by decide +kernel
theorem dX12_of_14 : decode cX12_of 14 = .ok (.ireturn, 1) := by decide +kernel
def yX12_listener : MethodName := ⟨RX12, "listener", "(II)I"⟩
abbrev cX12_listener : ByteArray := prog_14_method_30_code
theorem dX12_listener_0 : decode cX12_listener 0 = .ok (.aload_n 0, 1) := by decide +kernel
theorem dX12_listener_1 : decode cX12_listener 1 = .ok (.iconst 0, 1) := by decide +kernel
theorem dX12_listener_2 : decode cX12_listener 2 = .ok (.putfield 156, 3) := by decide +kernel
theorem dX12_listener_5 : decode cX12_listener 5 = .ok (.iload_n 1, 1) := by decide +kernel
theorem dX12_listener_6 : decode cX12_listener 6 = .ok (.invokestatic 218, 3) := by decide +kernel
theorem dX12_listener_9 : decode cX12_listener 9 = .ok (.ifCond .eq 15, 3) := by decide +kernel
theorem dX12_listener_24 : decode cX12_listener 24 = .ok (.aload_n 0, 1) := by decide +kernel
theorem dX12_listener_25 : decode cX12_listener 25 = .ok (.iconst (-1), 1) := by decide +kernel
theorem dX12_listener_26 : decode cX12_listener 26 = .ok (.invokevirtual 169, 3) := by decide +kernel
theorem dX12_listener_29 : decode cX12_listener 29 = .ok (.ireturn, 1) := by decide +kernel
theorem dX12_listener_12 : decode cX12_listener 12 = .ok (.iload_n 2, 1) := by decide +kernel
theorem dX12_listener_13 : decode cX12_listener 13 = .ok (.i2l, 1) := by decide +kernel
theorem dX12_listener_14 : decode cX12_listener 14 = .ok (.lconst 0, 1) := by decide +kernel
theorem dX12_listener_15 : decode cX12_listener 15 = .ok (.ldc2_w 233, 3) := by decide +kernel
theorem dX12_listener_18 : decode cX12_listener 18 = .ok (.invokestatic 180, 3) := by decide +kernel
theorem dX12_listener_21 : decode cX12_listener 21 = .ok (.ifCond .ne 9, 3) := by decide +kernel
theorem dX12_listener_30 : decode cX12_listener 30 = .ok (.aload_n 0, 1) := by decide +kernel
theorem dX12_listener_31 : decode cX12_listener 31 = .ok (.getfield 13, 3) := by decide +kernel
theorem dX12_listener_34 : decode cX12_listener 34 = .ok (.iconst 1, 1) := by decide +kernel
theorem dX12_listener_35 : decode cX12_listener 35 = .ok (.iaload, 1) := by decide +kernel
theorem dX12_listener_36 : decode cX12_listener 36 = .ok (.istore_n 3, 1) := by decide +kernel
theorem dX12_listener_37 : decode cX12_listener 37 = .ok (.iload_n 3, 1) := by decide +kernel
theorem dX12_listener_38 : decode cX12_listener 38 = .ok (.iconst 5, 1) := by decide +kernel
theorem dX12_listener_39 : decode cX12_listener 39 = .ok (.if_icmp .ne 10, 3) := by decide +kernel
theorem dX12_listener_49 : decode cX12_listener 49 = .ok (.aload_n 0, 1) := by decide +kernel
theorem dX12_listener_50 : decode cX12_listener 50 = .ok (.getfield 13, 3) := by decide +kernel
theorem dX12_listener_53 : decode cX12_listener 53 = .ok (.bipush 28, 2) := by decide +kernel
theorem dX12_listener_55 : decode cX12_listener 55 = .ok (.iload_n 3, 1) := by decide +kernel
theorem dX12_listener_56 : decode cX12_listener 56 = .ok (.iadd, 1) := by decide +kernel
theorem dX12_listener_57 : decode cX12_listener 57 = .ok (.iload_n 1, 1) := by decide +kernel
theorem dX12_listener_58 : decode cX12_listener 58 = .ok (.iastore, 1) := by decide +kernel
theorem dX12_listener_59 : decode cX12_listener 59 = .ok (.aload_n 0, 1) := by decide +kernel
theorem dX12_listener_60 : decode cX12_listener 60 = .ok (.getfield 13, 3) := by decide +kernel
theorem dX12_listener_63 : decode cX12_listener 63 = .ok (.sipush 193, 3) := by decide +kernel
theorem dX12_listener_66 : decode cX12_listener 66 = .ok (.iload_n 3, 1) := by decide +kernel
theorem dX12_listener_67 : decode cX12_listener 67 = .ok (.iadd, 1) := by decide +kernel
theorem dX12_listener_68 : decode cX12_listener 68 = .ok (.iload_n 2, 1) := by decide +kernel
theorem dX12_listener_69 : decode cX12_listener 69 = .ok (.iastore, 1) := by decide +kernel
theorem dX12_listener_70 : decode cX12_listener 70 = .ok (.aload_n 0, 1) := by decide +kernel
theorem dX12_listener_71 : decode cX12_listener 71 = .ok (.getfield 13, 3) := by decide +kernel
theorem dX12_listener_74 : decode cX12_listener 74 = .ok (.iconst 1, 1) := by decide +kernel
theorem dX12_listener_75 : decode cX12_listener 75 = .ok (.dup2, 1) := by decide +kernel
theorem dX12_listener_76 : decode cX12_listener 76 = .ok (.iaload, 1) := by decide +kernel
theorem dX12_listener_77 : decode cX12_listener 77 = .ok (.iconst 1, 1) := by decide +kernel
theorem dX12_listener_78 : decode cX12_listener 78 = .ok (.iadd, 1) := by decide +kernel
theorem dX12_listener_79 : decode cX12_listener 79 = .ok (.iastore, 1) := by decide +kernel
theorem dX12_listener_80 : decode cX12_listener 80 = .ok (.aload_n 0, 1) := by decide +kernel
theorem dX12_listener_81 : decode cX12_listener 81 = .ok (.iload_n 3, 1) := by decide +kernel
theorem dX12_listener_82 : decode cX12_listener 82 = .ok (.invokevirtual 184, 3) := by decide +kernel
theorem dX12_listener_85 : decode cX12_listener 85 = .ok (.ireturn, 1) := by decide +kernel
def yX12_noise : MethodName := ⟨RX12, "noise", "(II)I"⟩
abbrev cX12_noise : ByteArray := prog_14_method_31_code
theorem dX12_noise_0 : decode cX12_noise 0 = .ok (.aload_n 0, 1) := by decide +kernel
theorem dX12_noise_1 : decode cX12_noise 1 = .ok (.iconst 0, 1) := by decide +kernel
theorem dX12_noise_2 : decode cX12_noise 2 = .ok (.putfield 156, 3) := by decide +kernel
theorem dX12_noise_5 : decode cX12_noise 5 = .ok (.iload_n 1, 1) := by decide +kernel
theorem dX12_noise_6 : decode cX12_noise 6 = .ok (.invokestatic 218, 3) := by decide +kernel
theorem dX12_noise_9 : decode cX12_noise 9 = .ok (.ifCond .eq 15, 3) := by decide +kernel
theorem dX12_noise_24 : decode cX12_noise 24 = .ok (.aload_n 0, 1) := by decide +kernel
theorem dX12_noise_25 : decode cX12_noise 25 = .ok (.iconst (-1), 1) := by decide +kernel
theorem dX12_noise_26 : decode cX12_noise 26 = .ok (.invokevirtual 169, 3) := by decide +kernel
theorem dX12_noise_29 : decode cX12_noise 29 = .ok (.ireturn, 1) := by decide +kernel
theorem dX12_noise_12 : decode cX12_noise 12 = .ok (.iload_n 2, 1) := by decide +kernel
theorem dX12_noise_13 : decode cX12_noise 13 = .ok (.i2l, 1) := by decide +kernel
theorem dX12_noise_14 : decode cX12_noise 14 = .ok (.lconst 0, 1) := by decide +kernel
theorem dX12_noise_15 : decode cX12_noise 15 = .ok (.ldc2_w 233, 3) := by decide +kernel
theorem dX12_noise_18 : decode cX12_noise 18 = .ok (.invokestatic 180, 3) := by decide +kernel
theorem dX12_noise_21 : decode cX12_noise 21 = .ok (.ifCond .ne 9, 3) := by decide +kernel
theorem dX12_noise_30 : decode cX12_noise 30 = .ok (.aload_n 0, 1) := by decide +kernel
theorem dX12_noise_31 : decode cX12_noise 31 = .ok (.getfield 13, 3) := by decide +kernel
theorem dX12_noise_34 : decode cX12_noise 34 = .ok (.iconst 2, 1) := by decide +kernel
theorem dX12_noise_35 : decode cX12_noise 35 = .ok (.iaload, 1) := by decide +kernel
theorem dX12_noise_36 : decode cX12_noise 36 = .ok (.istore_n 3, 1) := by decide +kernel
theorem dX12_noise_37 : decode cX12_noise 37 = .ok (.iload_n 3, 1) := by decide +kernel
theorem dX12_noise_38 : decode cX12_noise 38 = .ok (.bipush 6, 2) := by decide +kernel
theorem dX12_noise_40 : decode cX12_noise 40 = .ok (.if_icmp .ne 10, 3) := by decide +kernel
theorem dX12_noise_50 : decode cX12_noise 50 = .ok (.aload_n 0, 1) := by decide +kernel
theorem dX12_noise_51 : decode cX12_noise 51 = .ok (.getfield 13, 3) := by decide +kernel
theorem dX12_noise_54 : decode cX12_noise 54 = .ok (.sipush 198, 3) := by decide +kernel
theorem dX12_noise_57 : decode cX12_noise 57 = .ok (.iload_n 3, 1) := by decide +kernel
theorem dX12_noise_58 : decode cX12_noise 58 = .ok (.iadd, 1) := by decide +kernel
theorem dX12_noise_59 : decode cX12_noise 59 = .ok (.iload_n 1, 1) := by decide +kernel
theorem dX12_noise_60 : decode cX12_noise 60 = .ok (.iastore, 1) := by decide +kernel
theorem dX12_noise_61 : decode cX12_noise 61 = .ok (.aload_n 0, 1) := by decide +kernel
theorem dX12_noise_62 : decode cX12_noise 62 = .ok (.getfield 13, 3) := by decide +kernel
theorem dX12_noise_65 : decode cX12_noise 65 = .ok (.sipush 204, 3) := by decide +kernel
theorem dX12_noise_68 : decode cX12_noise 68 = .ok (.iload_n 3, 1) := by decide +kernel
theorem dX12_noise_69 : decode cX12_noise 69 = .ok (.iadd, 1) := by decide +kernel
theorem dX12_noise_70 : decode cX12_noise 70 = .ok (.iload_n 2, 1) := by decide +kernel
theorem dX12_noise_71 : decode cX12_noise 71 = .ok (.iastore, 1) := by decide +kernel
theorem dX12_noise_72 : decode cX12_noise 72 = .ok (.aload_n 0, 1) := by decide +kernel
theorem dX12_noise_73 : decode cX12_noise 73 = .ok (.getfield 13, 3) := by decide +kernel
theorem dX12_noise_76 : decode cX12_noise 76 = .ok (.bipush 22, 2) := by decide +kernel
theorem dX12_noise_78 : decode cX12_noise 78 = .ok (.iload_n 3, 1) := by decide +kernel
theorem dX12_noise_79 : decode cX12_noise 79 = .ok (.iadd, 1) := by decide +kernel
theorem dX12_noise_80 : decode cX12_noise 80 = .ok (.iconst 0, 1) := by decide +kernel
theorem dX12_noise_81 : decode cX12_noise 81 = .ok (.iastore, 1) := by decide +kernel
theorem dX12_noise_82 : decode cX12_noise 82 = .ok (.aload_n 0, 1) := by decide +kernel
theorem dX12_noise_83 : decode cX12_noise 83 = .ok (.getfield 13, 3) := by decide +kernel
theorem dX12_noise_86 : decode cX12_noise 86 = .ok (.iconst 2, 1) := by decide +kernel
theorem dX12_noise_87 : decode cX12_noise 87 = .ok (.dup2, 1) := by decide +kernel
theorem dX12_noise_88 : decode cX12_noise 88 = .ok (.iaload, 1) := by decide +kernel
theorem dX12_noise_89 : decode cX12_noise 89 = .ok (.iconst 1, 1) := by decide +kernel
theorem dX12_noise_90 : decode cX12_noise 90 = .ok (.iadd, 1) := by decide +kernel
theorem dX12_noise_91 : decode cX12_noise 91 = .ok (.iastore, 1) := by decide +kernel
theorem dX12_noise_92 : decode cX12_noise 92 = .ok (.aload_n 0, 1) := by decide +kernel
theorem dX12_noise_93 : decode cX12_noise 93 = .ok (.iload_n 3, 1) := by decide +kernel
theorem dX12_noise_94 : decode cX12_noise 94 = .ok (.invokevirtual 184, 3) := by decide +kernel
theorem dX12_noise_97 : decode cX12_noise 97 = .ok (.ireturn, 1) := by decide +kernel
def yX12_who : MethodName := ⟨RX12, "who", "(II)I"⟩
abbrev cX12_who : ByteArray := prog_14_method_32_code
theorem dX12_who_0 : decode cX12_who 0 = .ok (.aload_n 0, 1) := by decide +kernel
theorem dX12_who_1 : decode cX12_who 1 = .ok (.iconst 0, 1) := by decide +kernel
theorem dX12_who_2 : decode cX12_who 2 = .ok (.putfield 156, 3) := by decide +kernel
theorem dX12_who_5 : decode cX12_who 5 = .ok (.iload_n 2, 1) := by decide +kernel
theorem dX12_who_6 : decode cX12_who 6 = .ok (.i2l, 1) := by decide +kernel
theorem dX12_who_7 : decode cX12_who 7 = .ok (.lconst 0, 1) := by decide +kernel
theorem dX12_who_8 : decode cX12_who 8 = .ok (.ldc2_w 235, 3) := by decide +kernel
theorem ct_RX12_235 : Cond.constantLong RX12 235 4 ∈ gW := gW_t 1600 (by decide +kernel) rfl
theorem dX12_who_11 : decode cX12_who 11 = .ok (.invokestatic 180, 3) := by decide +kernel
theorem dX12_who_14 : decode cX12_who 14 = .ok (.ifCond .eq 27, 3) := by decide +kernel
theorem dX12_who_41 : decode cX12_who 41 = .ok (.iconst (-1), 1) := by decide +kernel
theorem dX12_who_42 : decode cX12_who 42 = .ok (.ireturn, 1) := by decide +kernel
theorem dX12_who_17 : decode cX12_who 17 = .ok (.iload_n 2, 1) := by decide +kernel
theorem dX12_who_18 : decode cX12_who 18 = .ok (.iconst 2, 1) := by decide +kernel
theorem dX12_who_19 : decode cX12_who 19 = .ok (.if_icmp .ge 14, 3) := by decide +kernel
theorem dX12_who_33 : decode cX12_who 33 = .ok (.aload_n 0, 1) := by decide +kernel
theorem dX12_who_34 : decode cX12_who 34 = .ok (.iload_n 1, 1) := by decide +kernel
theorem dX12_who_35 : decode cX12_who 35 = .ok (.invokevirtual 240, 3) := by decide +kernel
theorem dX12_who_38 : decode cX12_who 38 = .ok (.ifCond .ne 5, 3) := by decide +kernel
theorem dX12_who_22 : decode cX12_who 22 = .ok (.aload_n 0, 1) := by decide +kernel
theorem dX12_who_23 : decode cX12_who 23 = .ok (.iload_n 1, 1) := by decide +kernel
theorem dX12_who_24 : decode cX12_who 24 = .ok (.invokevirtual 237, 3) := by decide +kernel
theorem dX12_who_27 : decode cX12_who 27 = .ok (.ifCond .ne 16, 3) := by decide +kernel
theorem dX12_who_30 : decode cX12_who 30 = .ok (.goto 11, 3) := by decide +kernel
def yX12_terms : MethodName := ⟨RX12, "terms", "(II)I"⟩
abbrev cX12_terms : ByteArray := prog_14_method_33_code
theorem dX12_terms_0 : decode cX12_terms 0 = .ok (.aload_n 0, 1) := by decide +kernel
theorem dX12_terms_1 : decode cX12_terms 1 = .ok (.iconst 0, 1) := by decide +kernel
theorem dX12_terms_2 : decode cX12_terms 2 = .ok (.putfield 156, 3) := by decide +kernel
theorem dX12_terms_5 : decode cX12_terms 5 = .ok (.iload_n 1, 1) := by decide +kernel
theorem dX12_terms_6 : decode cX12_terms 6 = .ok (.ifCond .ne 15, 3) := by decide +kernel
theorem dX12_terms_21 : decode cX12_terms 21 = .ok (.iload_n 1, 1) := by decide +kernel
theorem dX12_terms_22 : decode cX12_terms 22 = .ok (.iconst 1, 1) := by decide +kernel
theorem dX12_terms_23 : decode cX12_terms 23 = .ok (.if_icmp .ne 15, 3) := by decide +kernel
theorem dX12_terms_38 : decode cX12_terms 38 = .ok (.iload_n 1, 1) := by decide +kernel
theorem dX12_terms_39 : decode cX12_terms 39 = .ok (.iconst 2, 1) := by decide +kernel
theorem dX12_terms_40 : decode cX12_terms 40 = .ok (.if_icmp .ne 19, 3) := by decide +kernel
theorem dX12_terms_59 : decode cX12_terms 59 = .ok (.iconst 0, 1) := by decide +kernel
theorem dX12_terms_60 : decode cX12_terms 60 = .ok (.istore_n 3, 1) := by decide +kernel
theorem dX12_terms_61 : decode cX12_terms 61 = .ok (.iload_n 3, 1) := by decide +kernel
theorem dX12_terms_62 : decode cX12_terms 62 = .ok (.ifCond .ne 9, 3) := by decide +kernel
theorem dX12_terms_65 : decode cX12_terms 65 = .ok (.aload_n 0, 1) := by decide +kernel
theorem dX12_terms_66 : decode cX12_terms 66 = .ok (.iconst (-1), 1) := by decide +kernel
theorem dX12_terms_67 : decode cX12_terms 67 = .ok (.invokevirtual 169, 3) := by decide +kernel
theorem dX12_terms_70 : decode cX12_terms 70 = .ok (.ireturn, 1) := by decide +kernel
theorem dX12_terms_43 : decode cX12_terms 43 = .ok (.iload_n 2, 1) := by decide +kernel
theorem dX12_terms_44 : decode cX12_terms 44 = .ok (.i2l, 1) := by decide +kernel
theorem dX12_terms_45 : decode cX12_terms 45 = .ok (.lconst 0, 1) := by decide +kernel
theorem dX12_terms_46 : decode cX12_terms 46 = .ok (.ldc2_w 193, 3) := by decide +kernel
theorem dX12_terms_49 : decode cX12_terms 49 = .ok (.invokestatic 180, 3) := by decide +kernel
theorem dX12_terms_52 : decode cX12_terms 52 = .ok (.ifCond .eq 7, 3) := by decide +kernel
theorem dX12_terms_55 : decode cX12_terms 55 = .ok (.iconst 1, 1) := by decide +kernel
theorem dX12_terms_56 : decode cX12_terms 56 = .ok (.goto 4, 3) := by decide +kernel
theorem dX12_terms_71 : decode cX12_terms 71 = .ok (.aload_n 0, 1) := by decide +kernel
theorem dX12_terms_72 : decode cX12_terms 72 = .ok (.iconst 0, 1) := by decide +kernel
theorem dX12_terms_73 : decode cX12_terms 73 = .ok (.putfield 166, 3) := by decide +kernel
theorem dX12_terms_76 : decode cX12_terms 76 = .ok (.aload_n 0, 1) := by decide +kernel
theorem dX12_terms_77 : decode cX12_terms 77 = .ok (.bipush 7, 2) := by decide +kernel
theorem dX12_terms_79 : decode cX12_terms 79 = .ok (.iload_n 1, 1) := by decide +kernel
theorem dX12_terms_80 : decode cX12_terms 80 = .ok (.iadd, 1) := by decide +kernel
theorem dX12_terms_81 : decode cX12_terms 81 = .ok (.iload_n 2, 1) := by decide +kernel
theorem dX12_terms_82 : decode cX12_terms 82 = .ok (.invokevirtual 208, 3) := by decide +kernel
theorem dX12_terms_85 : decode cX12_terms 85 = .ok (.ireturn, 1) := by decide +kernel
theorem dX12_terms_26 : decode cX12_terms 26 = .ok (.iload_n 2, 1) := by decide +kernel
theorem dX12_terms_27 : decode cX12_terms 27 = .ok (.i2l, 1) := by decide +kernel
theorem dX12_terms_28 : decode cX12_terms 28 = .ok (.lconst 0, 1) := by decide +kernel
theorem dX12_terms_29 : decode cX12_terms 29 = .ok (.ldc2_w 245, 3) := by decide +kernel
theorem ct_RX12_245 : Cond.constantLong RX12 245 10 ∈ gW := gW_t 1610 (by decide +kernel) rfl
theorem dX12_terms_32 : decode cX12_terms 32 = .ok (.invokestatic 180, 3) := by decide +kernel
theorem dX12_terms_35 : decode cX12_terms 35 = .ok (.goto 25, 3) := by decide +kernel
theorem dX12_terms_9 : decode cX12_terms 9 = .ok (.iload_n 2, 1) := by decide +kernel
theorem dX12_terms_10 : decode cX12_terms 10 = .ok (.i2l, 1) := by decide +kernel
theorem dX12_terms_11 : decode cX12_terms 11 = .ok (.lconst 0, 1) := by decide +kernel
theorem dX12_terms_12 : decode cX12_terms 12 = .ok (.ldc2_w 243, 3) := by decide +kernel
theorem ct_RX12_243 : Cond.constantLong RX12 243 9999 ∈ gW := gW_t 1609 (by decide +kernel) rfl
theorem dX12_terms_15 : decode cX12_terms 15 = .ok (.invokestatic 180, 3) := by decide +kernel
theorem dX12_terms_18 : decode cX12_terms 18 = .ok (.goto 42, 3) := by decide +kernel
def yX12_row : MethodName := ⟨RX12, "row", "()I"⟩
abbrev cX12_row : ByteArray := prog_14_method_34_code
theorem dX12_row_0 : decode cX12_row 0 = .ok (.aload_n 0, 1) := by decide +kernel
theorem dX12_row_1 : decode cX12_row 1 = .ok (.iconst 0, 1) := by decide +kernel
theorem dX12_row_2 : decode cX12_row 2 = .ok (.putfield 156, 3) := by decide +kernel
theorem dX12_row_5 : decode cX12_row 5 = .ok (.aload_n 0, 1) := by decide +kernel
theorem dX12_row_6 : decode cX12_row 6 = .ok (.getfield 247, 3) := by decide +kernel
theorem fl_RX12_247 : Cond.fieldLink RX12 247 RX12 "taped" "I" ∈ gW := gW_t 1286 (by decide +kernel) rfl
theorem dX12_row_9 : decode cX12_row 9 = .ok (.istore_n 1, 1) := by decide +kernel
theorem dX12_row_10 : decode cX12_row 10 = .ok (.aload_n 0, 1) := by decide +kernel
theorem dX12_row_11 : decode cX12_row 11 = .ok (.iconst 0, 1) := by decide +kernel
theorem dX12_row_12 : decode cX12_row 12 = .ok (.putfield 247, 3) := by decide +kernel
theorem dX12_row_15 : decode cX12_row 15 = .ok (.iload_n 1, 1) := by decide +kernel
theorem dX12_row_16 : decode cX12_row 16 = .ok (.ifCond .ne 10, 3) := by decide +kernel
theorem dX12_row_19 : decode cX12_row 19 = .ok (.aload_n 0, 1) := by decide +kernel
theorem dX12_row_20 : decode cX12_row 20 = .ok (.bipush (-6), 2) := by decide +kernel
theorem dX12_row_22 : decode cX12_row 22 = .ok (.invokevirtual 169, 3) := by decide +kernel
theorem dX12_row_25 : decode cX12_row 25 = .ok (.ireturn, 1) := by decide +kernel
def yX12_mud : MethodName := ⟨RX12, "mud", "()I"⟩
abbrev cX12_mud : ByteArray := prog_14_method_35_code
theorem dX12_mud_0 : decode cX12_mud 0 = .ok (.aload_n 0, 1) := by decide +kernel
theorem dX12_mud_1 : decode cX12_mud 1 = .ok (.iconst 0, 1) := by decide +kernel
theorem dX12_mud_2 : decode cX12_mud 2 = .ok (.putfield 156, 3) := by decide +kernel
theorem dX12_mud_5 : decode cX12_mud 5 = .ok (.aload_n 0, 1) := by decide +kernel
theorem dX12_mud_6 : decode cX12_mud 6 = .ok (.getfield 250, 3) := by decide +kernel
theorem fl_RX12_250 : Cond.fieldLink RX12 250 RX12 "mud" "I" ∈ gW := gW_t 1284 (by decide +kernel) rfl
theorem dX12_mud_9 : decode cX12_mud 9 = .ok (.ireturn, 1) := by decide +kernel
def yX12_end : MethodName := ⟨RX12, "end", "(I)I"⟩
abbrev cX12_end : ByteArray := prog_14_method_38_code
theorem dX12_end_0 : decode cX12_end 0 = .ok (.aload_n 0, 1) := by decide +kernel
theorem dX12_end_1 : decode cX12_end 1 = .ok (.iconst 0, 1) := by decide +kernel
theorem dX12_end_2 : decode cX12_end 2 = .ok (.putfield 156, 3) := by decide +kernel
theorem dX12_end_5 : decode cX12_end 5 = .ok (.iload_n 1, 1) := by decide +kernel
theorem dX12_end_6 : decode cX12_end 6 = .ok (.ifCond .lt 11, 3) := by decide +kernel
theorem dX12_end_17 : decode cX12_end 17 = .ok (.iconst (-1), 1) := by decide +kernel
theorem dX12_end_18 : decode cX12_end 18 = .ok (.ireturn, 1) := by decide +kernel
theorem dX12_end_9 : decode cX12_end 9 = .ok (.iload_n 1, 1) := by decide +kernel
theorem dX12_end_10 : decode cX12_end 10 = .ok (.aload_n 0, 1) := by decide +kernel
theorem dX12_end_11 : decode cX12_end 11 = .ok (.getfield 247, 3) := by decide +kernel
theorem dX12_end_14 : decode cX12_end 14 = .ok (.if_icmp .le 5, 3) := by decide +kernel
theorem dX12_end_19 : decode cX12_end 19 = .ok (.aload_n 0, 1) := by decide +kernel
theorem dX12_end_20 : decode cX12_end 20 = .ok (.iload_n 1, 1) := by decide +kernel
theorem dX12_end_21 : decode cX12_end 21 = .ok (.putfield 247, 3) := by decide +kernel
theorem dX12_end_24 : decode cX12_end 24 = .ok (.iload_n 1, 1) := by decide +kernel
theorem dX12_end_25 : decode cX12_end 25 = .ok (.ireturn, 1) := by decide +kernel
def yX12_fault : MethodName := ⟨RX12, "fault", "()I"⟩
abbrev cX12_fault : ByteArray := prog_14_method_47_code
theorem dX12_fault_0 : decode cX12_fault 0 = .ok (.aload_n 0, 1) := by decide +kernel
theorem dX12_fault_1 : decode cX12_fault 1 = .ok (.iconst 0, 1) := by decide +kernel
theorem dX12_fault_2 : decode cX12_fault 2 = .ok (.putfield 156, 3) := by decide +kernel
theorem dX12_fault_5 : decode cX12_fault 5 = .ok (.aload_n 0, 1) := by decide +kernel
theorem dX12_fault_6 : decode cX12_fault 6 = .ok (.getfield 38, 3) := by decide +kernel
theorem fl_RX12_38 : Cond.fieldLink RX12 38 RX12 "fault" "I" ∈ gW := gW_t 1291 (by decide +kernel) rfl
theorem dX12_fault_9 : decode cX12_fault 9 = .ok (.ireturn, 1) := by decide +kernel
def yX12_stopped : MethodName := ⟨RX12, "stopped", "()I"⟩
abbrev cX12_stopped : ByteArray := prog_14_method_132_code
theorem dX12_stopped_0 : decode cX12_stopped 0 = .ok (.aload_n 0, 1) := by decide +kernel
theorem dX12_stopped_1 : decode cX12_stopped 1 = .ok (.iconst 0, 1) := by decide +kernel
theorem dX12_stopped_2 : decode cX12_stopped 2 = .ok (.putfield 156, 3) := by decide +kernel
theorem dX12_stopped_5 : decode cX12_stopped 5 = .ok (.aload_n 0, 1) := by decide +kernel
theorem dX12_stopped_6 : decode cX12_stopped 6 = .ok (.getfield 147, 3) := by decide +kernel
theorem fl_RX12_147 : Cond.fieldLink RX12 147 RX12 "stopped" "I" ∈ gW := gW_t 1326 (by decide +kernel) rfl
theorem dX12_stopped_9 : decode cX12_stopped 9 = .ok (.ireturn, 1) := by decide +kernel
def yX12_status : MethodName := ⟨RX12, "status", "()I"⟩
abbrev cX12_status : ByteArray := prog_14_method_138_code
theorem dX12_status_0 : decode cX12_status 0 = .ok (.aload_n 0, 1) := by decide +kernel
theorem dX12_status_1 : decode cX12_status 1 = .ok (.iconst 0, 1) := by decide +kernel
theorem dX12_status_2 : decode cX12_status 2 = .ok (.putfield 156, 3) := by decide +kernel
theorem dX12_status_5 : decode cX12_status 5 = .ok (.aload_n 0, 1) := by decide +kernel
theorem dX12_status_6 : decode cX12_status 6 = .ok (.getfield 163, 3) := by decide +kernel
theorem dX12_status_9 : decode cX12_status 9 = .ok (.ireturn, 1) := by decide +kernel
def yX12_force : MethodName := ⟨RX12, "force", "(I)I"⟩
abbrev cX12_force : ByteArray := prog_14_method_68_code
theorem dX12_force_0 : decode cX12_force 0 = .ok (.aload_n 0, 1) := by decide +kernel
theorem dX12_force_1 : decode cX12_force 1 = .ok (.iconst 0, 1) := by decide +kernel
theorem dX12_force_2 : decode cX12_force 2 = .ok (.putfield 156, 3) := by decide +kernel
theorem dX12_force_5 : decode cX12_force 5 = .ok (.aload_n 0, 1) := by decide +kernel
theorem dX12_force_6 : decode cX12_force 6 = .ok (.iload_n 1, 1) := by decide +kernel
theorem dX12_force_7 : decode cX12_force 7 = .ok (.invokevirtual 405, 3) := by decide +kernel
theorem lk_RX12_405 : Cond.methodLink RX12 405 yX12_isLaw ∈ gW := gW_t 1757 (by decide +kernel) rfl
theorem mI_X12_isLaw : Cond.instanceMethod yX12_isLaw ∈ gW := gW_t 1759 (by decide +kernel) rfl
theorem mS_X12_isLaw : Cond.selects RX12 yX12_isLaw yX12_isLaw ∈ gW := gW_p (q := (yX12_isLaw, 59)) 83 (by decide +kernel)
theorem mC_X12_isLaw : Cond.code yX12_isLaw cX12_isLaw 2 (some .boolean) ∈ gW := gW_t 1760 (by decide +kernel) rfl
theorem ok_X12_isLaw : okD yX12_isLaw 1 := ⟨by decide +kernel, by decide +kernel, by decide +kernel⟩
theorem dX12_force_10 : decode cX12_force 10 = .ok (.ifCond .eq 13, 3) := by decide +kernel
theorem dX12_force_23 : decode cX12_force 23 = .ok (.aload_n 0, 1) := by decide +kernel
theorem dX12_force_24 : decode cX12_force 24 = .ok (.bipush (-2), 2) := by decide +kernel
theorem dX12_force_26 : decode cX12_force 26 = .ok (.invokevirtual 169, 3) := by decide +kernel
theorem dX12_force_29 : decode cX12_force 29 = .ok (.ireturn, 1) := by decide +kernel
theorem dX12_force_13 : decode cX12_force 13 = .ok (.aload_n 0, 1) := by decide +kernel
theorem dX12_force_14 : decode cX12_force 14 = .ok (.bipush 6, 2) := by decide +kernel
theorem dX12_force_16 : decode cX12_force 16 = .ok (.iload_n 1, 1) := by decide +kernel
theorem dX12_force_17 : decode cX12_force 17 = .ok (.invokevirtual 208, 3) := by decide +kernel
theorem dX12_force_20 : decode cX12_force 20 = .ok (.goto 9, 3) := by decide +kernel
def yX12_asks : MethodName := ⟨RX12, "asks", "(III)I"⟩
abbrev cX12_asks : ByteArray := prog_14_method_78_code
theorem dX12_asks_0 : decode cX12_asks 0 = .ok (.aload_n 0, 1) := by decide +kernel
theorem dX12_asks_1 : decode cX12_asks 1 = .ok (.iconst 0, 1) := by decide +kernel
theorem dX12_asks_2 : decode cX12_asks 2 = .ok (.putfield 156, 3) := by decide +kernel
theorem dX12_asks_5 : decode cX12_asks 5 = .ok (.aload_n 0, 1) := by decide +kernel
theorem dX12_asks_6 : decode cX12_asks 6 = .ok (.iload_n 1, 1) := by decide +kernel
theorem dX12_asks_7 : decode cX12_asks 7 = .ok (.invokevirtual 221, 3) := by decide +kernel
theorem dX12_asks_10 : decode cX12_asks 10 = .ok (.ifCond .eq 22, 3) := by decide +kernel
theorem dX12_asks_32 : decode cX12_asks 32 = .ok (.iconst (-1), 1) := by decide +kernel
theorem dX12_asks_33 : decode cX12_asks 33 = .ok (.ireturn, 1) := by decide +kernel
def yX12_loud : MethodName := ⟨RX12, "loud", "(II)I"⟩
abbrev cX12_loud : ByteArray := prog_14_method_80_code
theorem dX12_loud_0 : decode cX12_loud 0 = .ok (.aload_n 0, 1) := by decide +kernel
theorem dX12_loud_1 : decode cX12_loud 1 = .ok (.iconst 0, 1) := by decide +kernel
theorem dX12_loud_2 : decode cX12_loud 2 = .ok (.putfield 156, 3) := by decide +kernel
theorem dX12_loud_5 : decode cX12_loud 5 = .ok (.iload_n 1, 1) := by decide +kernel
theorem dX12_loud_6 : decode cX12_loud 6 = .ok (.invokestatic 197, 3) := by decide +kernel
theorem dX12_loud_9 : decode cX12_loud 9 = .ok (.ifCond .eq 28, 3) := by decide +kernel
theorem dX12_loud_37 : decode cX12_loud 37 = .ok (.ldc_w 460, 3) := by decide +kernel
theorem ct_RX12_460 : Cond.constant RX12 460 (-100000) ∈ gW := gW_t 1785 (by decide +kernel) rfl
theorem dX12_loud_40 : decode cX12_loud 40 = .ok (.ireturn, 1) := by decide +kernel
theorem dX12_loud_12 : decode cX12_loud 12 = .ok (.iload_n 2, 1) := by decide +kernel
theorem dX12_loud_13 : decode cX12_loud 13 = .ok (.invokestatic 218, 3) := by decide +kernel
theorem dX12_loud_16 : decode cX12_loud 16 = .ok (.ifCond .eq 21, 3) := by decide +kernel
theorem dX12_loud_19 : decode cX12_loud 19 = .ok (.aload_n 0, 1) := by decide +kernel
theorem dX12_loud_20 : decode cX12_loud 20 = .ok (.iload_n 1, 1) := by decide +kernel
theorem dX12_loud_21 : decode cX12_loud 21 = .ok (.aload_n 0, 1) := by decide +kernel
theorem dX12_loud_22 : decode cX12_loud 22 = .ok (.getfield 13, 3) := by decide +kernel
theorem dX12_loud_25 : decode cX12_loud 25 = .ok (.bipush 113, 2) := by decide +kernel
theorem dX12_loud_27 : decode cX12_loud 27 = .ok (.iload_n 1, 1) := by decide +kernel
theorem dX12_loud_28 : decode cX12_loud 28 = .ok (.iadd, 1) := by decide +kernel
theorem dX12_loud_29 : decode cX12_loud 29 = .ok (.iaload, 1) := by decide +kernel
theorem dX12_loud_30 : decode cX12_loud 30 = .ok (.iload_n 2, 1) := by decide +kernel
theorem dX12_loud_31 : decode cX12_loud 31 = .ok (.invokevirtual 456, 3) := by decide +kernel
theorem dX12_loud_34 : decode cX12_loud 34 = .ok (.goto 6, 3) := by decide +kernel
def yX12_din : MethodName := ⟨RX12, "din", "(I)I"⟩
abbrev cX12_din : ByteArray := prog_14_method_82_code
theorem dX12_din_0 : decode cX12_din 0 = .ok (.aload_n 0, 1) := by decide +kernel
theorem dX12_din_1 : decode cX12_din 1 = .ok (.iconst 0, 1) := by decide +kernel
theorem dX12_din_2 : decode cX12_din 2 = .ok (.putfield 156, 3) := by decide +kernel
theorem dX12_din_5 : decode cX12_din 5 = .ok (.iload_n 1, 1) := by decide +kernel
theorem dX12_din_6 : decode cX12_din 6 = .ok (.invokestatic 218, 3) := by decide +kernel
theorem dX12_din_9 : decode cX12_din 9 = .ok (.ifCond .eq 12, 3) := by decide +kernel
theorem dX12_din_21 : decode cX12_din 21 = .ok (.iconst (-1), 1) := by decide +kernel
theorem dX12_din_22 : decode cX12_din 22 = .ok (.ireturn, 1) := by decide +kernel
theorem dX12_din_12 : decode cX12_din 12 = .ok (.aload_n 0, 1) := by decide +kernel
theorem dX12_din_13 : decode cX12_din 13 = .ok (.iload_n 1, 1) := by decide +kernel
theorem dX12_din_14 : decode cX12_din 14 = .ok (.iconst 0, 1) := by decide +kernel
theorem dX12_din_15 : decode cX12_din 15 = .ok (.invokevirtual 461, 3) := by decide +kernel
theorem lk_RX12_461 : Cond.methodLink RX12 461 yX12_dinBut ∈ gW := gW_t 1790 (by decide +kernel) rfl
theorem mI_X12_dinBut : Cond.instanceMethod yX12_dinBut ∈ gW := gW_t 1792 (by decide +kernel) rfl
theorem mS_X12_dinBut : Cond.selects RX12 yX12_dinBut yX12_dinBut ∈ gW := gW_p (q := (yX12_dinBut, 59)) 88 (by decide +kernel)
theorem mC_X12_dinBut : Cond.code yX12_dinBut cX12_dinBut 6 (some .int) ∈ gW := gW_t 1793 (by decide +kernel) rfl
theorem ok_X12_dinBut : okD yX12_dinBut 2 := ⟨by decide +kernel, by decide +kernel, by decide +kernel⟩
theorem dX12_din_18 : decode cX12_din 18 = .ok (.goto 4, 3) := by decide +kernel
def yX12_hears : MethodName := ⟨RX12, "hears", "(I)J"⟩
abbrev cX12_hears : ByteArray := prog_14_method_85_code
theorem dX12_hears_0 : decode cX12_hears 0 = .ok (.aload_n 0, 1) := by decide +kernel
theorem dX12_hears_1 : decode cX12_hears 1 = .ok (.iconst 0, 1) := by decide +kernel
theorem dX12_hears_2 : decode cX12_hears 2 = .ok (.putfield 156, 3) := by decide +kernel
theorem dX12_hears_5 : decode cX12_hears 5 = .ok (.aload_n 0, 1) := by decide +kernel
theorem dX12_hears_6 : decode cX12_hears 6 = .ok (.iload_n 1, 1) := by decide +kernel
theorem dX12_hears_7 : decode cX12_hears 7 = .ok (.invokevirtual 237, 3) := by decide +kernel
theorem dX12_hears_10 : decode cX12_hears 10 = .ok (.ifCond .eq 11, 3) := by decide +kernel
theorem dX12_hears_21 : decode cX12_hears 21 = .ok (.ldc2_w 286, 3) := by decide +kernel
theorem ct_RX12_286 : Cond.constantLong RX12 286 (-1) ∈ gW := gW_t 1528 (by decide +kernel) rfl
theorem dX12_hears_24 : decode cX12_hears 24 = .ok (.lreturn, 1) := by decide +kernel
def yX12_dig : MethodName := ⟨RX12, "dig", "(II)I"⟩
abbrev cX12_dig : ByteArray := prog_14_method_91_code
theorem dX12_dig_0 : decode cX12_dig 0 = .ok (.aload_n 0, 1) := by decide +kernel
theorem dX12_dig_1 : decode cX12_dig 1 = .ok (.iconst 0, 1) := by decide +kernel
theorem dX12_dig_2 : decode cX12_dig 2 = .ok (.putfield 156, 3) := by decide +kernel
theorem dX12_dig_5 : decode cX12_dig 5 = .ok (.aload_n 0, 1) := by decide +kernel
theorem dX12_dig_6 : decode cX12_dig 6 = .ok (.aload_n 0, 1) := by decide +kernel
theorem dX12_dig_7 : decode cX12_dig 7 = .ok (.iload_n 1, 1) := by decide +kernel
theorem dX12_dig_8 : decode cX12_dig 8 = .ok (.iload_n 2, 1) := by decide +kernel
theorem dX12_dig_9 : decode cX12_dig 9 = .ok (.invokevirtual 487, 3) := by decide +kernel
theorem lk_RX12_487 : Cond.methodLink RX12 487 yX12_digNow ∈ gW := gW_t 1810 (by decide +kernel) rfl
theorem mI_X12_digNow : Cond.instanceMethod yX12_digNow ∈ gW := gW_t 1812 (by decide +kernel) rfl
theorem mS_X12_digNow : Cond.selects RX12 yX12_digNow yX12_digNow ∈ gW := gW_p (q := (yX12_digNow, 59)) 91 (by decide +kernel)
theorem mC_X12_digNow : Cond.code yX12_digNow cX12_digNow 3 (some .int) ∈ gW := gW_t 1813 (by decide +kernel) rfl
theorem ok_X12_digNow : okD yX12_digNow 2 := ⟨by decide +kernel, by decide +kernel, by decide +kernel⟩
theorem dX12_dig_12 : decode cX12_dig 12 = .ok (.invokevirtual 169, 3) := by decide +kernel
theorem dX12_dig_15 : decode cX12_dig 15 = .ok (.ireturn, 1) := by decide +kernel
def yX12_haul : MethodName := ⟨RX12, "haul", "(I)I"⟩
abbrev cX12_haul : ByteArray := prog_14_method_95_code
theorem dX12_haul_0 : decode cX12_haul 0 = .ok (.aload_n 0, 1) := by decide +kernel
theorem dX12_haul_1 : decode cX12_haul 1 = .ok (.iconst 0, 1) := by decide +kernel
theorem dX12_haul_2 : decode cX12_haul 2 = .ok (.putfield 156, 3) := by decide +kernel
theorem dX12_haul_5 : decode cX12_haul 5 = .ok (.aload_n 0, 1) := by decide +kernel
theorem dX12_haul_6 : decode cX12_haul 6 = .ok (.aload_n 0, 1) := by decide +kernel
theorem dX12_haul_7 : decode cX12_haul 7 = .ok (.iload_n 1, 1) := by decide +kernel
theorem dX12_haul_8 : decode cX12_haul 8 = .ok (.invokevirtual 496, 3) := by decide +kernel
theorem lk_RX12_496 : Cond.methodLink RX12 496 yX12_haulNow ∈ gW := gW_t 1841 (by decide +kernel) rfl
theorem mI_X12_haulNow : Cond.instanceMethod yX12_haulNow ∈ gW := gW_t 1843 (by decide +kernel) rfl
theorem mS_X12_haulNow : Cond.selects RX12 yX12_haulNow yX12_haulNow ∈ gW := gW_p (q := (yX12_haulNow, 59)) 97 (by decide +kernel)
theorem mC_X12_haulNow : Cond.code yX12_haulNow cX12_haulNow 2 (some .int) ∈ gW := gW_t 1844 (by decide +kernel) rfl
theorem ok_X12_haulNow : okD yX12_haulNow 1 := ⟨by decide +kernel, by decide +kernel, by decide +kernel⟩
theorem dX12_haul_11 : decode cX12_haul 11 = .ok (.invokevirtual 169, 3) := by decide +kernel
theorem dX12_haul_14 : decode cX12_haul 14 = .ok (.ireturn, 1) := by decide +kernel
def yX12_hush : MethodName := ⟨RX12, "hush", "(I)I"⟩
abbrev cX12_hush : ByteArray := prog_14_method_97_code
theorem dX12_hush_0 : decode cX12_hush 0 = .ok (.aload_n 0, 1) := by decide +kernel
theorem dX12_hush_1 : decode cX12_hush 1 = .ok (.iconst 0, 1) := by decide +kernel
theorem dX12_hush_2 : decode cX12_hush 2 = .ok (.putfield 156, 3) := by decide +kernel
theorem dX12_hush_5 : decode cX12_hush 5 = .ok (.aload_n 0, 1) := by decide +kernel
theorem dX12_hush_6 : decode cX12_hush 6 = .ok (.aload_n 0, 1) := by decide +kernel
theorem dX12_hush_7 : decode cX12_hush 7 = .ok (.iload_n 1, 1) := by decide +kernel
theorem dX12_hush_8 : decode cX12_hush 8 = .ok (.invokevirtual 499, 3) := by decide +kernel
theorem lk_RX12_499 : Cond.methodLink RX12 499 yX12_hushNow ∈ gW := gW_t 1857 (by decide +kernel) rfl
theorem mI_X12_hushNow : Cond.instanceMethod yX12_hushNow ∈ gW := gW_t 1859 (by decide +kernel) rfl
theorem mS_X12_hushNow : Cond.selects RX12 yX12_hushNow yX12_hushNow ∈ gW := gW_p (q := (yX12_hushNow, 59)) 100 (by decide +kernel)
theorem mC_X12_hushNow : Cond.code yX12_hushNow cX12_hushNow 2 (some .int) ∈ gW := gW_t 1860 (by decide +kernel) rfl
theorem ok_X12_hushNow : okD yX12_hushNow 1 := ⟨by decide +kernel, by decide +kernel, by decide +kernel⟩
theorem dX12_hush_11 : decode cX12_hush 11 = .ok (.invokevirtual 169, 3) := by decide +kernel
theorem dX12_hush_14 : decode cX12_hush 14 = .ok (.ireturn, 1) := by decide +kernel
def yX12_lie : MethodName := ⟨RX12, "lie", "(II)I"⟩
abbrev cX12_lie : ByteArray := prog_14_method_99_code
theorem dX12_lie_0 : decode cX12_lie 0 = .ok (.aload_n 0, 1) := by decide +kernel
theorem dX12_lie_1 : decode cX12_lie 1 = .ok (.iconst 0, 1) := by decide +kernel
theorem dX12_lie_2 : decode cX12_lie 2 = .ok (.putfield 156, 3) := by decide +kernel
theorem dX12_lie_5 : decode cX12_lie 5 = .ok (.aload_n 0, 1) := by decide +kernel
theorem dX12_lie_6 : decode cX12_lie 6 = .ok (.aload_n 0, 1) := by decide +kernel
theorem dX12_lie_7 : decode cX12_lie 7 = .ok (.iload_n 1, 1) := by decide +kernel
theorem dX12_lie_8 : decode cX12_lie 8 = .ok (.iload_n 2, 1) := by decide +kernel
theorem dX12_lie_9 : decode cX12_lie 9 = .ok (.invokevirtual 502, 3) := by decide +kernel
theorem lk_RX12_502 : Cond.methodLink RX12 502 yX12_lieNow ∈ gW := gW_t 1865 (by decide +kernel) rfl
theorem mI_X12_lieNow : Cond.instanceMethod yX12_lieNow ∈ gW := gW_t 1867 (by decide +kernel) rfl
theorem mS_X12_lieNow : Cond.selects RX12 yX12_lieNow yX12_lieNow ∈ gW := gW_p (q := (yX12_lieNow, 59)) 101 (by decide +kernel)
theorem mC_X12_lieNow : Cond.code yX12_lieNow cX12_lieNow 4 (some .int) ∈ gW := gW_t 1868 (by decide +kernel) rfl
theorem ok_X12_lieNow : okD yX12_lieNow 2 := ⟨by decide +kernel, by decide +kernel, by decide +kernel⟩
theorem dX12_lie_12 : decode cX12_lie 12 = .ok (.invokevirtual 169, 3) := by decide +kernel
theorem dX12_lie_15 : decode cX12_lie 15 = .ok (.ireturn, 1) := by decide +kernel
def yX12_undo : MethodName := ⟨RX12, "undo", "()I"⟩
abbrev cX12_undo : ByteArray := prog_14_method_13_code
theorem dX12_undo_0 : decode cX12_undo 0 = .ok (.aload_n 0, 1) := by decide +kernel
theorem dX12_undo_1 : decode cX12_undo 1 = .ok (.iconst 0, 1) := by decide +kernel
theorem dX12_undo_2 : decode cX12_undo 2 = .ok (.putfield 156, 3) := by decide +kernel
theorem dX12_undo_5 : decode cX12_undo 5 = .ok (.aload_n 0, 1) := by decide +kernel
theorem dX12_undo_6 : decode cX12_undo 6 = .ok (.getfield 166, 3) := by decide +kernel
theorem dX12_undo_9 : decode cX12_undo 9 = .ok (.ifCond .ne 10, 3) := by decide +kernel
theorem dX12_undo_12 : decode cX12_undo 12 = .ok (.aload_n 0, 1) := by decide +kernel
theorem dX12_undo_13 : decode cX12_undo 13 = .ok (.bipush (-3), 2) := by decide +kernel
theorem dX12_undo_15 : decode cX12_undo 15 = .ok (.invokevirtual 169, 3) := by decide +kernel
theorem dX12_undo_18 : decode cX12_undo 18 = .ok (.ireturn, 1) := by decide +kernel
def yX12_down : MethodName := ⟨RX12, "down", "(III)I"⟩
abbrev cX12_down : ByteArray := prog_14_method_103_code
theorem dX12_down_0 : decode cX12_down 0 = .ok (.aload_n 0, 1) := by decide +kernel
theorem dX12_down_1 : decode cX12_down 1 = .ok (.iconst 0, 1) := by decide +kernel
theorem dX12_down_2 : decode cX12_down 2 = .ok (.putfield 156, 3) := by decide +kernel
theorem dX12_down_5 : decode cX12_down 5 = .ok (.aload_n 0, 1) := by decide +kernel
theorem dX12_down_6 : decode cX12_down 6 = .ok (.iload_n 1, 1) := by decide +kernel
theorem dX12_down_7 : decode cX12_down 7 = .ok (.invokevirtual 221, 3) := by decide +kernel
theorem dX12_down_10 : decode cX12_down 10 = .ok (.ifCond .eq 14, 3) := by decide +kernel
theorem dX12_down_24 : decode cX12_down 24 = .ok (.iconst (-1), 1) := by decide +kernel
theorem dX12_down_25 : decode cX12_down 25 = .ok (.ireturn, 1) := by decide +kernel
def yX12_quiet : MethodName := ⟨RX12, "quiet", "(III)I"⟩
abbrev cX12_quiet : ByteArray := prog_14_method_108_code
theorem dX12_quiet_0 : decode cX12_quiet 0 = .ok (.aload_n 0, 1) := by decide +kernel
theorem dX12_quiet_1 : decode cX12_quiet 1 = .ok (.iconst 0, 1) := by decide +kernel
theorem dX12_quiet_2 : decode cX12_quiet 2 = .ok (.putfield 156, 3) := by decide +kernel
theorem dX12_quiet_5 : decode cX12_quiet 5 = .ok (.iload_n 1, 1) := by decide +kernel
theorem dX12_quiet_6 : decode cX12_quiet 6 = .ok (.i2l, 1) := by decide +kernel
theorem dX12_quiet_7 : decode cX12_quiet 7 = .ok (.lconst 0, 1) := by decide +kernel
theorem dX12_quiet_8 : decode cX12_quiet 8 = .ok (.lconst 1, 1) := by decide +kernel
theorem dX12_quiet_9 : decode cX12_quiet 9 = .ok (.aload_n 0, 1) := by decide +kernel
theorem dX12_quiet_10 : decode cX12_quiet 10 = .ok (.getfield 13, 3) := by decide +kernel
theorem dX12_quiet_13 : decode cX12_quiet 13 = .ok (.iconst 1, 1) := by decide +kernel
theorem dX12_quiet_14 : decode cX12_quiet 14 = .ok (.iaload, 1) := by decide +kernel
theorem dX12_quiet_15 : decode cX12_quiet 15 = .ok (.lshl, 1) := by decide +kernel
theorem dX12_quiet_16 : decode cX12_quiet 16 = .ok (.lconst 1, 1) := by decide +kernel
theorem dX12_quiet_17 : decode cX12_quiet 17 = .ok (.lsub, 1) := by decide +kernel
theorem dX12_quiet_18 : decode cX12_quiet 18 = .ok (.invokestatic 180, 3) := by decide +kernel
theorem dX12_quiet_21 : decode cX12_quiet 21 = .ok (.ifCond .eq 33, 3) := by decide +kernel
theorem dX12_quiet_54 : decode cX12_quiet 54 = .ok (.iconst (-1), 1) := by decide +kernel
theorem dX12_quiet_55 : decode cX12_quiet 55 = .ok (.ireturn, 1) := by decide +kernel
theorem dX12_quiet_24 : decode cX12_quiet 24 = .ok (.iload_n 2, 1) := by decide +kernel
theorem dX12_quiet_25 : decode cX12_quiet 25 = .ok (.invokestatic 197, 3) := by decide +kernel
theorem dX12_quiet_28 : decode cX12_quiet 28 = .ok (.ifCond .eq 26, 3) := by decide +kernel
theorem dX12_quiet_31 : decode cX12_quiet 31 = .ok (.aload_n 0, 1) := by decide +kernel
theorem dX12_quiet_32 : decode cX12_quiet 32 = .ok (.getfield 13, 3) := by decide +kernel
theorem dX12_quiet_35 : decode cX12_quiet 35 = .ok (.bipush 113, 2) := by decide +kernel
theorem dX12_quiet_37 : decode cX12_quiet 37 = .ok (.iload_n 2, 1) := by decide +kernel
theorem dX12_quiet_38 : decode cX12_quiet 38 = .ok (.iadd, 1) := by decide +kernel
theorem dX12_quiet_39 : decode cX12_quiet 39 = .ok (.iaload, 1) := by decide +kernel
theorem dX12_quiet_40 : decode cX12_quiet 40 = .ok (.iconst 3, 1) := by decide +kernel
theorem dX12_quiet_41 : decode cX12_quiet 41 = .ok (.if_icmp .ne 13, 3) := by decide +kernel
def yX12_heard : MethodName := ⟨RX12, "heard", "(II)I"⟩
abbrev cX12_heard : ByteArray := prog_14_method_109_code
theorem dX12_heard_0 : decode cX12_heard 0 = .ok (.aload_n 0, 1) := by decide +kernel
theorem dX12_heard_1 : decode cX12_heard 1 = .ok (.iconst 0, 1) := by decide +kernel
theorem dX12_heard_2 : decode cX12_heard 2 = .ok (.putfield 156, 3) := by decide +kernel
theorem dX12_heard_5 : decode cX12_heard 5 = .ok (.iload_n 1, 1) := by decide +kernel
theorem dX12_heard_6 : decode cX12_heard 6 = .ok (.invokestatic 218, 3) := by decide +kernel
theorem dX12_heard_9 : decode cX12_heard 9 = .ok (.ifCond .eq 15, 3) := by decide +kernel
theorem dX12_heard_24 : decode cX12_heard 24 = .ok (.aload_n 0, 1) := by decide +kernel
theorem dX12_heard_25 : decode cX12_heard 25 = .ok (.iconst (-1), 1) := by decide +kernel
theorem dX12_heard_26 : decode cX12_heard 26 = .ok (.invokevirtual 169, 3) := by decide +kernel
theorem dX12_heard_29 : decode cX12_heard 29 = .ok (.ireturn, 1) := by decide +kernel
theorem dX12_heard_12 : decode cX12_heard 12 = .ok (.iload_n 2, 1) := by decide +kernel
theorem dX12_heard_13 : decode cX12_heard 13 = .ok (.i2l, 1) := by decide +kernel
theorem dX12_heard_14 : decode cX12_heard 14 = .ok (.lconst 0, 1) := by decide +kernel
theorem dX12_heard_15 : decode cX12_heard 15 = .ok (.ldc2_w 195, 3) := by decide +kernel
theorem dX12_heard_18 : decode cX12_heard 18 = .ok (.invokestatic 180, 3) := by decide +kernel
theorem dX12_heard_21 : decode cX12_heard 21 = .ok (.ifCond .ne 9, 3) := by decide +kernel
theorem dX12_heard_30 : decode cX12_heard 30 = .ok (.aload_n 0, 1) := by decide +kernel
theorem dX12_heard_31 : decode cX12_heard 31 = .ok (.getfield 13, 3) := by decide +kernel
theorem dX12_heard_34 : decode cX12_heard 34 = .ok (.iconst 3, 1) := by decide +kernel
theorem dX12_heard_35 : decode cX12_heard 35 = .ok (.iaload, 1) := by decide +kernel
theorem dX12_heard_36 : decode cX12_heard 36 = .ok (.istore_n 3, 1) := by decide +kernel
theorem dX12_heard_37 : decode cX12_heard 37 = .ok (.iload_n 3, 1) := by decide +kernel
theorem dX12_heard_38 : decode cX12_heard 38 = .ok (.bipush 8, 2) := by decide +kernel
theorem dX12_heard_40 : decode cX12_heard 40 = .ok (.if_icmp .ne 10, 3) := by decide +kernel
theorem dX12_heard_50 : decode cX12_heard 50 = .ok (.aload_n 0, 1) := by decide +kernel
theorem dX12_heard_51 : decode cX12_heard 51 = .ok (.getfield 13, 3) := by decide +kernel
theorem dX12_heard_54 : decode cX12_heard 54 = .ok (.sipush 210, 3) := by decide +kernel
theorem dX12_heard_57 : decode cX12_heard 57 = .ok (.iconst 2, 1) := by decide +kernel
theorem dX12_heard_58 : decode cX12_heard 58 = .ok (.iload_n 3, 1) := by decide +kernel
theorem dX12_heard_59 : decode cX12_heard 59 = .ok (.imul, 1) := by decide +kernel
theorem dX12_heard_60 : decode cX12_heard 60 = .ok (.iadd, 1) := by decide +kernel
theorem dX12_heard_61 : decode cX12_heard 61 = .ok (.iload_n 1, 1) := by decide +kernel
theorem dX12_heard_62 : decode cX12_heard 62 = .ok (.iastore, 1) := by decide +kernel
theorem dX12_heard_63 : decode cX12_heard 63 = .ok (.aload_n 0, 1) := by decide +kernel
theorem dX12_heard_64 : decode cX12_heard 64 = .ok (.getfield 13, 3) := by decide +kernel
theorem dX12_heard_67 : decode cX12_heard 67 = .ok (.sipush 210, 3) := by decide +kernel
theorem dX12_heard_70 : decode cX12_heard 70 = .ok (.iconst 2, 1) := by decide +kernel
theorem dX12_heard_71 : decode cX12_heard 71 = .ok (.iload_n 3, 1) := by decide +kernel
theorem dX12_heard_72 : decode cX12_heard 72 = .ok (.imul, 1) := by decide +kernel
theorem dX12_heard_73 : decode cX12_heard 73 = .ok (.iadd, 1) := by decide +kernel
theorem dX12_heard_74 : decode cX12_heard 74 = .ok (.iconst 1, 1) := by decide +kernel
theorem dX12_heard_75 : decode cX12_heard 75 = .ok (.iadd, 1) := by decide +kernel
theorem dX12_heard_76 : decode cX12_heard 76 = .ok (.iload_n 2, 1) := by decide +kernel
theorem dX12_heard_77 : decode cX12_heard 77 = .ok (.iastore, 1) := by decide +kernel
theorem dX12_heard_78 : decode cX12_heard 78 = .ok (.aload_n 0, 1) := by decide +kernel
theorem dX12_heard_79 : decode cX12_heard 79 = .ok (.getfield 13, 3) := by decide +kernel
theorem dX12_heard_82 : decode cX12_heard 82 = .ok (.iconst 3, 1) := by decide +kernel
theorem dX12_heard_83 : decode cX12_heard 83 = .ok (.dup2, 1) := by decide +kernel
theorem dX12_heard_84 : decode cX12_heard 84 = .ok (.iaload, 1) := by decide +kernel
theorem dX12_heard_85 : decode cX12_heard 85 = .ok (.iconst 1, 1) := by decide +kernel
theorem dX12_heard_86 : decode cX12_heard 86 = .ok (.iadd, 1) := by decide +kernel
theorem dX12_heard_87 : decode cX12_heard 87 = .ok (.iastore, 1) := by decide +kernel
theorem dX12_heard_88 : decode cX12_heard 88 = .ok (.aload_n 0, 1) := by decide +kernel
theorem dX12_heard_89 : decode cX12_heard 89 = .ok (.iload_n 3, 1) := by decide +kernel
theorem dX12_heard_90 : decode cX12_heard 90 = .ok (.iconst 1, 1) := by decide +kernel
theorem dX12_heard_91 : decode cX12_heard 91 = .ok (.iadd, 1) := by decide +kernel
theorem dX12_heard_92 : decode cX12_heard 92 = .ok (.invokevirtual 169, 3) := by decide +kernel
theorem dX12_heard_95 : decode cX12_heard 95 = .ok (.ireturn, 1) := by decide +kernel
def yX12_forget : MethodName := ⟨RX12, "forget", "()I"⟩
abbrev cX12_forget : ByteArray := prog_14_method_110_code
theorem dX12_forget_0 : decode cX12_forget 0 = .ok (.aload_n 0, 1) := by decide +kernel
theorem dX12_forget_1 : decode cX12_forget 1 = .ok (.iconst 0, 1) := by decide +kernel
theorem dX12_forget_2 : decode cX12_forget 2 = .ok (.putfield 156, 3) := by decide +kernel
theorem dX12_forget_5 : decode cX12_forget 5 = .ok (.aload_n 0, 1) := by decide +kernel
theorem dX12_forget_6 : decode cX12_forget 6 = .ok (.getfield 13, 3) := by decide +kernel
theorem dX12_forget_9 : decode cX12_forget 9 = .ok (.iconst 3, 1) := by decide +kernel
theorem dX12_forget_10 : decode cX12_forget 10 = .ok (.iaload, 1) := by decide +kernel
theorem dX12_forget_11 : decode cX12_forget 11 = .ok (.aload_n 0, 1) := by decide +kernel
theorem dX12_forget_12 : decode cX12_forget 12 = .ok (.getfield 13, 3) := by decide +kernel
theorem dX12_forget_15 : decode cX12_forget 15 = .ok (.iconst 4, 1) := by decide +kernel
theorem dX12_forget_16 : decode cX12_forget 16 = .ok (.iaload, 1) := by decide +kernel
theorem dX12_forget_17 : decode cX12_forget 17 = .ok (.iadd, 1) := by decide +kernel
theorem dX12_forget_18 : decode cX12_forget 18 = .ok (.istore_n 1, 1) := by decide +kernel
theorem dX12_forget_19 : decode cX12_forget 19 = .ok (.aload_n 0, 1) := by decide +kernel
theorem dX12_forget_20 : decode cX12_forget 20 = .ok (.getfield 13, 3) := by decide +kernel
theorem dX12_forget_23 : decode cX12_forget 23 = .ok (.iconst 3, 1) := by decide +kernel
theorem dX12_forget_24 : decode cX12_forget 24 = .ok (.iconst 0, 1) := by decide +kernel
theorem dX12_forget_25 : decode cX12_forget 25 = .ok (.iastore, 1) := by decide +kernel
theorem dX12_forget_26 : decode cX12_forget 26 = .ok (.aload_n 0, 1) := by decide +kernel
theorem dX12_forget_27 : decode cX12_forget 27 = .ok (.getfield 13, 3) := by decide +kernel
theorem dX12_forget_30 : decode cX12_forget 30 = .ok (.iconst 4, 1) := by decide +kernel
theorem dX12_forget_31 : decode cX12_forget 31 = .ok (.iconst 0, 1) := by decide +kernel
theorem dX12_forget_32 : decode cX12_forget 32 = .ok (.iastore, 1) := by decide +kernel
theorem dX12_forget_33 : decode cX12_forget 33 = .ok (.iload_n 1, 1) := by decide +kernel
theorem dX12_forget_34 : decode cX12_forget 34 = .ok (.ireturn, 1) := by decide +kernel
def yX12_well : MethodName := ⟨RX12, "well", "(II)I"⟩
abbrev cX12_well : ByteArray := prog_14_method_115_code
theorem dX12_well_0 : decode cX12_well 0 = .ok (.aload_n 0, 1) := by decide +kernel
theorem dX12_well_1 : decode cX12_well 1 = .ok (.iconst 0, 1) := by decide +kernel
theorem dX12_well_2 : decode cX12_well 2 = .ok (.putfield 156, 3) := by decide +kernel
theorem dX12_well_5 : decode cX12_well 5 = .ok (.iload_n 1, 1) := by decide +kernel
theorem dX12_well_6 : decode cX12_well 6 = .ok (.i2l, 1) := by decide +kernel
theorem dX12_well_7 : decode cX12_well 7 = .ok (.lconst 0, 1) := by decide +kernel
theorem dX12_well_8 : decode cX12_well 8 = .ok (.ldc2_w 540, 3) := by decide +kernel
theorem ct_RX12_540 : Cond.constantLong RX12 540 63 ∈ gW := gW_t 1938 (by decide +kernel) rfl
theorem dX12_well_11 : decode cX12_well 11 = .ok (.invokestatic 180, 3) := by decide +kernel
theorem dX12_well_14 : decode cX12_well 14 = .ok (.ifCond .eq 13, 3) := by decide +kernel
theorem dX12_well_27 : decode cX12_well 27 = .ok (.aload_n 0, 1) := by decide +kernel
theorem dX12_well_28 : decode cX12_well 28 = .ok (.iconst (-1), 1) := by decide +kernel
theorem dX12_well_29 : decode cX12_well 29 = .ok (.invokevirtual 169, 3) := by decide +kernel
theorem dX12_well_32 : decode cX12_well 32 = .ok (.ireturn, 1) := by decide +kernel
theorem dX12_well_17 : decode cX12_well 17 = .ok (.iload_n 2, 1) := by decide +kernel
theorem dX12_well_18 : decode cX12_well 18 = .ok (.i2l, 1) := by decide +kernel
theorem dX12_well_19 : decode cX12_well 19 = .ok (.lconst 0, 1) := by decide +kernel
theorem dX12_well_20 : decode cX12_well 20 = .ok (.lconst 1, 1) := by decide +kernel
theorem dX12_well_21 : decode cX12_well 21 = .ok (.invokestatic 180, 3) := by decide +kernel
theorem dX12_well_24 : decode cX12_well 24 = .ok (.ifCond .ne 9, 3) := by decide +kernel
theorem dX12_well_33 : decode cX12_well 33 = .ok (.aload_n 0, 1) := by decide +kernel
theorem dX12_well_34 : decode cX12_well 34 = .ok (.getfield 13, 3) := by decide +kernel
theorem dX12_well_37 : decode cX12_well 37 = .ok (.iconst 4, 1) := by decide +kernel
theorem dX12_well_38 : decode cX12_well 38 = .ok (.iaload, 1) := by decide +kernel
theorem dX12_well_39 : decode cX12_well 39 = .ok (.istore_n 3, 1) := by decide +kernel
theorem dX12_well_40 : decode cX12_well 40 = .ok (.iload_n 3, 1) := by decide +kernel
theorem dX12_well_41 : decode cX12_well 41 = .ok (.bipush 10, 2) := by decide +kernel
theorem dX12_well_43 : decode cX12_well 43 = .ok (.if_icmp .ne 10, 3) := by decide +kernel
theorem dX12_well_53 : decode cX12_well 53 = .ok (.aload_n 0, 1) := by decide +kernel
theorem dX12_well_54 : decode cX12_well 54 = .ok (.getfield 13, 3) := by decide +kernel
theorem dX12_well_57 : decode cX12_well 57 = .ok (.sipush 226, 3) := by decide +kernel
theorem dX12_well_60 : decode cX12_well 60 = .ok (.iconst 2, 1) := by decide +kernel
theorem dX12_well_61 : decode cX12_well 61 = .ok (.iload_n 3, 1) := by decide +kernel
theorem dX12_well_62 : decode cX12_well 62 = .ok (.imul, 1) := by decide +kernel
theorem dX12_well_63 : decode cX12_well 63 = .ok (.iadd, 1) := by decide +kernel
theorem dX12_well_64 : decode cX12_well 64 = .ok (.iload_n 1, 1) := by decide +kernel
theorem dX12_well_65 : decode cX12_well 65 = .ok (.iastore, 1) := by decide +kernel
theorem dX12_well_66 : decode cX12_well 66 = .ok (.aload_n 0, 1) := by decide +kernel
theorem dX12_well_67 : decode cX12_well 67 = .ok (.getfield 13, 3) := by decide +kernel
theorem dX12_well_70 : decode cX12_well 70 = .ok (.sipush 226, 3) := by decide +kernel
theorem dX12_well_73 : decode cX12_well 73 = .ok (.iconst 2, 1) := by decide +kernel
theorem dX12_well_74 : decode cX12_well 74 = .ok (.iload_n 3, 1) := by decide +kernel
theorem dX12_well_75 : decode cX12_well 75 = .ok (.imul, 1) := by decide +kernel
theorem dX12_well_76 : decode cX12_well 76 = .ok (.iadd, 1) := by decide +kernel
theorem dX12_well_77 : decode cX12_well 77 = .ok (.iconst 1, 1) := by decide +kernel
theorem dX12_well_78 : decode cX12_well 78 = .ok (.iadd, 1) := by decide +kernel
theorem dX12_well_79 : decode cX12_well 79 = .ok (.iload_n 2, 1) := by decide +kernel
theorem dX12_well_80 : decode cX12_well 80 = .ok (.iastore, 1) := by decide +kernel
theorem dX12_well_81 : decode cX12_well 81 = .ok (.aload_n 0, 1) := by decide +kernel
theorem dX12_well_82 : decode cX12_well 82 = .ok (.getfield 13, 3) := by decide +kernel
theorem dX12_well_85 : decode cX12_well 85 = .ok (.iconst 4, 1) := by decide +kernel
theorem dX12_well_86 : decode cX12_well 86 = .ok (.dup2, 1) := by decide +kernel
theorem dX12_well_87 : decode cX12_well 87 = .ok (.iaload, 1) := by decide +kernel
theorem dX12_well_88 : decode cX12_well 88 = .ok (.iconst 1, 1) := by decide +kernel
theorem dX12_well_89 : decode cX12_well 89 = .ok (.iadd, 1) := by decide +kernel
theorem dX12_well_90 : decode cX12_well 90 = .ok (.iastore, 1) := by decide +kernel
theorem dX12_well_91 : decode cX12_well 91 = .ok (.aload_n 0, 1) := by decide +kernel
theorem dX12_well_92 : decode cX12_well 92 = .ok (.iload_n 3, 1) := by decide +kernel
theorem dX12_well_93 : decode cX12_well 93 = .ok (.iconst 1, 1) := by decide +kernel
theorem dX12_well_94 : decode cX12_well 94 = .ok (.iadd, 1) := by decide +kernel
theorem dX12_well_95 : decode cX12_well 95 = .ok (.invokevirtual 169, 3) := by decide +kernel
theorem dX12_well_98 : decode cX12_well 98 = .ok (.ireturn, 1) := by decide +kernel
def yX12_vein : MethodName := ⟨RX12, "vein", "(II)J"⟩
abbrev cX12_vein : ByteArray := prog_14_method_122_code
theorem dX12_vein_0 : decode cX12_vein 0 = .ok (.aload_n 0, 1) := by decide +kernel
theorem dX12_vein_1 : decode cX12_vein 1 = .ok (.iconst 0, 1) := by decide +kernel
theorem dX12_vein_2 : decode cX12_vein 2 = .ok (.putfield 156, 3) := by decide +kernel
theorem dX12_vein_5 : decode cX12_vein 5 = .ok (.iload_n 1, 1) := by decide +kernel
theorem dX12_vein_6 : decode cX12_vein 6 = .ok (.invokestatic 197, 3) := by decide +kernel
theorem dX12_vein_9 : decode cX12_vein 9 = .ok (.ifCond .eq 28, 3) := by decide +kernel
theorem dX12_vein_37 : decode cX12_vein 37 = .ok (.ldc2_w 286, 3) := by decide +kernel
theorem dX12_vein_40 : decode cX12_vein 40 = .ok (.lreturn, 1) := by decide +kernel
theorem dX12_vein_12 : decode cX12_vein 12 = .ok (.aload_n 0, 1) := by decide +kernel
theorem dX12_vein_13 : decode cX12_vein 13 = .ok (.getfield 13, 3) := by decide +kernel
theorem dX12_vein_16 : decode cX12_vein 16 = .ok (.bipush 113, 2) := by decide +kernel
theorem dX12_vein_18 : decode cX12_vein 18 = .ok (.iload_n 1, 1) := by decide +kernel
theorem dX12_vein_19 : decode cX12_vein 19 = .ok (.iadd, 1) := by decide +kernel
theorem dX12_vein_20 : decode cX12_vein 20 = .ok (.iaload, 1) := by decide +kernel
theorem dX12_vein_21 : decode cX12_vein 21 = .ok (.iconst 3, 1) := by decide +kernel
theorem dX12_vein_22 : decode cX12_vein 22 = .ok (.if_icmp .ne 15, 3) := by decide +kernel
def yX12_time : MethodName := ⟨RX12, "time", "(III)J"⟩
abbrev cX12_time : ByteArray := prog_14_method_123_code
theorem dX12_time_0 : decode cX12_time 0 = .ok (.aload_n 0, 1) := by decide +kernel
theorem dX12_time_1 : decode cX12_time 1 = .ok (.iconst 0, 1) := by decide +kernel
theorem dX12_time_2 : decode cX12_time 2 = .ok (.putfield 156, 3) := by decide +kernel
theorem dX12_time_5 : decode cX12_time 5 = .ok (.aload_n 0, 1) := by decide +kernel
theorem dX12_time_6 : decode cX12_time 6 = .ok (.iload_n 1, 1) := by decide +kernel
theorem dX12_time_7 : decode cX12_time 7 = .ok (.invokevirtual 221, 3) := by decide +kernel
theorem dX12_time_10 : decode cX12_time 10 = .ok (.ifCond .eq 22, 3) := by decide +kernel
theorem dX12_time_32 : decode cX12_time 32 = .ok (.ldc2_w 286, 3) := by decide +kernel
theorem dX12_time_35 : decode cX12_time 35 = .ok (.lreturn, 1) := by decide +kernel
def yX12_compare : MethodName := ⟨RX12, "compare", "(I)I"⟩
abbrev cX12_compare : ByteArray := prog_14_method_124_code
theorem dX12_compare_0 : decode cX12_compare 0 = .ok (.aload_n 0, 1) := by decide +kernel
theorem dX12_compare_1 : decode cX12_compare 1 = .ok (.iconst 0, 1) := by decide +kernel
theorem dX12_compare_2 : decode cX12_compare 2 = .ok (.putfield 156, 3) := by decide +kernel
theorem dX12_compare_5 : decode cX12_compare 5 = .ok (.aload_n 0, 1) := by decide +kernel
theorem dX12_compare_6 : decode cX12_compare 6 = .ok (.iload_n 1, 1) := by decide +kernel
theorem dX12_compare_7 : decode cX12_compare 7 = .ok (.invokevirtual 405, 3) := by decide +kernel
theorem dX12_compare_10 : decode cX12_compare 10 = .ok (.ifCond .ne 5, 3) := by decide +kernel
theorem dX12_compare_15 : decode cX12_compare 15 = .ok (.aload_n 0, 1) := by decide +kernel
theorem dX12_compare_16 : decode cX12_compare 16 = .ok (.getfield 13, 3) := by decide +kernel
theorem dX12_compare_19 : decode cX12_compare 19 = .ok (.bipush 6, 2) := by decide +kernel
theorem dX12_compare_21 : decode cX12_compare 21 = .ok (.iaload, 1) := by decide +kernel
theorem dX12_compare_22 : decode cX12_compare 22 = .ok (.istore_n 2, 1) := by decide +kernel
theorem dX12_compare_23 : decode cX12_compare 23 = .ok (.aload_n 0, 1) := by decide +kernel
theorem dX12_compare_24 : decode cX12_compare 24 = .ok (.getfield 13, 3) := by decide +kernel
theorem dX12_compare_27 : decode cX12_compare 27 = .ok (.bipush 6, 2) := by decide +kernel
theorem dX12_compare_29 : decode cX12_compare 29 = .ok (.iload_n 1, 1) := by decide +kernel
theorem dX12_compare_30 : decode cX12_compare 30 = .ok (.iastore, 1) := by decide +kernel
theorem dX12_compare_31 : decode cX12_compare 31 = .ok (.iconst 0, 1) := by decide +kernel
theorem dX12_compare_32 : decode cX12_compare 32 = .ok (.istore_n 3, 1) := by decide +kernel
theorem dX12_compare_33 : decode cX12_compare 33 = .ok (.iconst 0, 1) := by decide +kernel
theorem dX12_compare_34 : decode cX12_compare 34 = .ok (.istore 4, 2) := by decide +kernel
theorem dX12_compare_36 : decode cX12_compare 36 = .ok (.iload 4, 2) := by decide +kernel
theorem dX12_compare_38 : decode cX12_compare 38 = .ok (.aload_n 0, 1) := by decide +kernel
theorem dX12_compare_39 : decode cX12_compare 39 = .ok (.getfield 13, 3) := by decide +kernel
theorem dX12_compare_42 : decode cX12_compare 42 = .ok (.iconst 1, 1) := by decide +kernel
theorem dX12_compare_43 : decode cX12_compare 43 = .ok (.iaload, 1) := by decide +kernel
theorem dX12_compare_44 : decode cX12_compare 44 = .ok (.if_icmp .ge 21, 3) := by decide +kernel
theorem dX12_compare_65 : decode cX12_compare 65 = .ok (.aload_n 0, 1) := by decide +kernel
theorem dX12_compare_66 : decode cX12_compare 66 = .ok (.getfield 13, 3) := by decide +kernel
theorem dX12_compare_69 : decode cX12_compare 69 = .ok (.bipush 6, 2) := by decide +kernel
theorem dX12_compare_71 : decode cX12_compare 71 = .ok (.iload_n 2, 1) := by decide +kernel
theorem dX12_compare_72 : decode cX12_compare 72 = .ok (.iastore, 1) := by decide +kernel
theorem dX12_compare_73 : decode cX12_compare 73 = .ok (.iload_n 3, 1) := by decide +kernel
theorem dX12_compare_74 : decode cX12_compare 74 = .ok (.ireturn, 1) := by decide +kernel
theorem dX12_compare_13 : decode cX12_compare 13 = .ok (.iconst (-1), 1) := by decide +kernel
theorem dX12_compare_14 : decode cX12_compare 14 = .ok (.ireturn, 1) := by decide +kernel
def yX12_seasons : MethodName := ⟨RX12, "seasons", "(II)I"⟩
abbrev cX12_seasons : ByteArray := prog_14_method_134_code
theorem dX12_seasons_0 : decode cX12_seasons 0 = .ok (.aload_n 0, 1) := by decide +kernel
theorem dX12_seasons_1 : decode cX12_seasons 1 = .ok (.iconst 0, 1) := by decide +kernel
theorem dX12_seasons_2 : decode cX12_seasons 2 = .ok (.putfield 156, 3) := by decide +kernel
theorem dX12_seasons_5 : decode cX12_seasons 5 = .ok (.iload_n 1, 1) := by decide +kernel
theorem dX12_seasons_6 : decode cX12_seasons 6 = .ok (.i2l, 1) := by decide +kernel
theorem dX12_seasons_7 : decode cX12_seasons 7 = .ok (.lconst 0, 1) := by decide +kernel
theorem dX12_seasons_8 : decode cX12_seasons 8 = .ok (.ldc2_w 288, 3) := by decide +kernel
theorem ct_RX12_288 : Cond.constantLong RX12 288 1000000 ∈ gW := gW_t 1659 (by decide +kernel) rfl
theorem dX12_seasons_11 : decode cX12_seasons 11 = .ok (.invokestatic 180, 3) := by decide +kernel
theorem dX12_seasons_14 : decode cX12_seasons 14 = .ok (.ifCond .eq 15, 3) := by decide +kernel
theorem dX12_seasons_29 : decode cX12_seasons 29 = .ok (.aload_n 0, 1) := by decide +kernel
theorem dX12_seasons_30 : decode cX12_seasons 30 = .ok (.iconst (-1), 1) := by decide +kernel
theorem dX12_seasons_31 : decode cX12_seasons 31 = .ok (.invokevirtual 169, 3) := by decide +kernel
theorem dX12_seasons_34 : decode cX12_seasons 34 = .ok (.ireturn, 1) := by decide +kernel
theorem dX12_seasons_17 : decode cX12_seasons 17 = .ok (.iload_n 2, 1) := by decide +kernel
theorem dX12_seasons_18 : decode cX12_seasons 18 = .ok (.i2l, 1) := by decide +kernel
theorem dX12_seasons_19 : decode cX12_seasons 19 = .ok (.lconst 1, 1) := by decide +kernel
theorem dX12_seasons_20 : decode cX12_seasons 20 = .ok (.ldc2_w 600, 3) := by decide +kernel
theorem ct_RX12_600 : Cond.constantLong RX12 600 60 ∈ gW := gW_t 1996 (by decide +kernel) rfl
theorem dX12_seasons_23 : decode cX12_seasons 23 = .ok (.invokestatic 180, 3) := by decide +kernel
theorem dX12_seasons_26 : decode cX12_seasons 26 = .ok (.ifCond .ne 9, 3) := by decide +kernel
theorem dX12_seasons_35 : decode cX12_seasons 35 = .ok (.aload_n 0, 1) := by decide +kernel
theorem dX12_seasons_36 : decode cX12_seasons 36 = .ok (.getfield 13, 3) := by decide +kernel
theorem dX12_seasons_39 : decode cX12_seasons 39 = .ok (.iconst 0, 1) := by decide +kernel
theorem dX12_seasons_40 : decode cX12_seasons 40 = .ok (.iaload, 1) := by decide +kernel
theorem dX12_seasons_41 : decode cX12_seasons 41 = .ok (.ifCond .ne 10, 3) := by decide +kernel
theorem dX12_seasons_44 : decode cX12_seasons 44 = .ok (.aload_n 0, 1) := by decide +kernel
theorem dX12_seasons_45 : decode cX12_seasons 45 = .ok (.bipush (-3), 2) := by decide +kernel
theorem dX12_seasons_47 : decode cX12_seasons 47 = .ok (.invokevirtual 169, 3) := by decide +kernel
theorem dX12_seasons_50 : decode cX12_seasons 50 = .ok (.ireturn, 1) := by decide +kernel
def yX12_drawn : MethodName := ⟨RX12, "drawn", "(II)I"⟩
abbrev cX12_drawn : ByteArray := prog_14_method_135_code
theorem dX12_drawn_0 : decode cX12_drawn 0 = .ok (.aload_n 0, 1) := by decide +kernel
theorem dX12_drawn_1 : decode cX12_drawn 1 = .ok (.iconst 0, 1) := by decide +kernel
theorem dX12_drawn_2 : decode cX12_drawn 2 = .ok (.putfield 156, 3) := by decide +kernel
theorem dX12_drawn_5 : decode cX12_drawn 5 = .ok (.aload_n 0, 1) := by decide +kernel
theorem dX12_drawn_6 : decode cX12_drawn 6 = .ok (.getfield 153, 3) := by decide +kernel
theorem fl_RX12_153 : Cond.fieldLink RX12 153 RX12 "nDrawn" "I" ∈ gW := gW_t 1331 (by decide +kernel) rfl
theorem dX12_drawn_9 : decode cX12_drawn 9 = .ok (.iconst (-1), 1) := by decide +kernel
theorem dX12_drawn_10 : decode cX12_drawn 10 = .ok (.if_icmp .eq 36, 3) := by decide +kernel
theorem dX12_drawn_46 : decode cX12_drawn 46 = .ok (.iconst (-1), 1) := by decide +kernel
theorem dX12_drawn_47 : decode cX12_drawn 47 = .ok (.ireturn, 1) := by decide +kernel
def yX12_back : MethodName := ⟨RX12, "back", "(I)I"⟩
abbrev cX12_back : ByteArray := prog_14_method_15_code
theorem dX12_back_0 : decode cX12_back 0 = .ok (.aload_n 0, 1) := by decide +kernel
theorem dX12_back_1 : decode cX12_back 1 = .ok (.iconst 0, 1) := by decide +kernel
theorem dX12_back_2 : decode cX12_back 2 = .ok (.putfield 156, 3) := by decide +kernel
theorem dX12_back_5 : decode cX12_back 5 = .ok (.iload_n 1, 1) := by decide +kernel
theorem dX12_back_6 : decode cX12_back 6 = .ok (.i2l, 1) := by decide +kernel
theorem dX12_back_7 : decode cX12_back 7 = .ok (.lconst 0, 1) := by decide +kernel
theorem dX12_back_8 : decode cX12_back 8 = .ok (.lconst 1, 1) := by decide +kernel
theorem dX12_back_9 : decode cX12_back 9 = .ok (.invokestatic 180, 3) := by decide +kernel
theorem dX12_back_12 : decode cX12_back 12 = .ok (.ifCond .ne 9, 3) := by decide +kernel
theorem dX12_back_21 : decode cX12_back 21 = .ok (.aload_n 0, 1) := by decide +kernel
theorem dX12_back_22 : decode cX12_back 22 = .ok (.getfield 19, 3) := by decide +kernel
theorem fl_RX12_19 : Cond.fieldLink RX12 19 RX12 "isKept" "[Z" ∈ gW := gW_t 1278 (by decide +kernel) rfl
theorem dX12_back_25 : decode cX12_back 25 = .ok (.iload_n 1, 1) := by decide +kernel
theorem dX12_back_26 : decode cX12_back 26 = .ok (.baload, 1) := by decide +kernel
theorem dX12_back_27 : decode cX12_back 27 = .ok (.ifCond .ne 10, 3) := by decide +kernel
theorem dX12_back_30 : decode cX12_back 30 = .ok (.aload_n 0, 1) := by decide +kernel
theorem dX12_back_31 : decode cX12_back 31 = .ok (.bipush (-2), 2) := by decide +kernel
theorem dX12_back_33 : decode cX12_back 33 = .ok (.invokevirtual 169, 3) := by decide +kernel
theorem dX12_back_36 : decode cX12_back 36 = .ok (.ireturn, 1) := by decide +kernel
theorem dX12_back_15 : decode cX12_back 15 = .ok (.aload_n 0, 1) := by decide +kernel
theorem dX12_back_16 : decode cX12_back 16 = .ok (.iconst (-1), 1) := by decide +kernel
theorem dX12_back_17 : decode cX12_back 17 = .ok (.invokevirtual 169, 3) := by decide +kernel
theorem dX12_back_20 : decode cX12_back 20 = .ok (.ireturn, 1) := by decide +kernel
def yX12_hidden : MethodName := ⟨RX12, "hidden", "()J"⟩
abbrev cX12_hidden : ByteArray := prog_14_method_113_code
theorem dX12_hidden_0 : decode cX12_hidden 0 = .ok (.aload_n 0, 1) := by decide +kernel
theorem dX12_hidden_1 : decode cX12_hidden 1 = .ok (.iconst 0, 1) := by decide +kernel
theorem dX12_hidden_2 : decode cX12_hidden 2 = .ok (.putfield 156, 3) := by decide +kernel
theorem dX12_hidden_5 : decode cX12_hidden 5 = .ok (.lconst 0, 1) := by decide +kernel
theorem dX12_hidden_6 : decode cX12_hidden 6 = .ok (.lstore_n 1, 1) := by decide +kernel
theorem dX12_hidden_7 : decode cX12_hidden 7 = .ok (.iconst 0, 1) := by decide +kernel
theorem dX12_hidden_8 : decode cX12_hidden 8 = .ok (.istore_n 3, 1) := by decide +kernel
theorem dX12_hidden_9 : decode cX12_hidden 9 = .ok (.iload_n 3, 1) := by decide +kernel
theorem dX12_hidden_10 : decode cX12_hidden 10 = .ok (.bipush 40, 2) := by decide +kernel
theorem dX12_hidden_12 : decode cX12_hidden 12 = .ok (.if_icmp .ge 27, 3) := by decide +kernel
theorem dX12_hidden_15 : decode cX12_hidden 15 = .ok (.lload_n 1, 1) := by decide +kernel
theorem dX12_hidden_16 : decode cX12_hidden 16 = .ok (.aload_n 0, 1) := by decide +kernel
theorem dX12_hidden_17 : decode cX12_hidden 17 = .ok (.iload_n 3, 1) := by decide +kernel
theorem dX12_hidden_18 : decode cX12_hidden 18 = .ok (.invokevirtual 537, 3) := by decide +kernel
theorem lk_RX12_537 : Cond.methodLink RX12 537 yX12_isHidden ∈ gW := gW_t 1922 (by decide +kernel) rfl
theorem mI_X12_isHidden : Cond.instanceMethod yX12_isHidden ∈ gW := gW_t 1924 (by decide +kernel) rfl
theorem mS_X12_isHidden : Cond.selects RX12 yX12_isHidden yX12_isHidden ∈ gW := gW_p (q := (yX12_isHidden, 59)) 108 (by decide +kernel)
theorem mC_X12_isHidden : Cond.code yX12_isHidden cX12_isHidden 4 (some .boolean) ∈ gW := gW_t 1925 (by decide +kernel) rfl
theorem ok_X12_isHidden : okD yX12_isHidden 1 := ⟨by decide +kernel, by decide +kernel, by decide +kernel⟩
theorem dX12_hidden_21 : decode cX12_hidden 21 = .ok (.ifCond .eq 9, 3) := by decide +kernel
theorem dX12_hidden_24 : decode cX12_hidden 24 = .ok (.lconst 1, 1) := by decide +kernel
theorem dX12_hidden_25 : decode cX12_hidden 25 = .ok (.iload_n 3, 1) := by decide +kernel
theorem dX12_hidden_26 : decode cX12_hidden 26 = .ok (.lshl, 1) := by decide +kernel
theorem dX12_hidden_27 : decode cX12_hidden 27 = .ok (.goto 4, 3) := by decide +kernel
theorem dX12_hidden_31 : decode cX12_hidden 31 = .ok (.lor, 1) := by decide +kernel
theorem dX12_hidden_32 : decode cX12_hidden 32 = .ok (.lstore_n 1, 1) := by decide +kernel
theorem dX12_hidden_33 : decode cX12_hidden 33 = .ok (.iinc 3 1, 3) := by decide +kernel
theorem dX12_hidden_36 : decode cX12_hidden 36 = .ok (.goto (-27), 3) := by decide +kernel
theorem dX12_hidden_39 : decode cX12_hidden 39 = .ok (.lload_n 1, 1) := by decide +kernel
theorem dX12_hidden_40 : decode cX12_hidden 40 = .ok (.lreturn, 1) := by decide +kernel
def yX12_count : MethodName := ⟨RX12, "count", "(I)I"⟩
abbrev cX12_count : ByteArray := prog_14_method_137_code
theorem dX12_count_0 : decode cX12_count 0 = .ok (.aload_n 0, 1) := by decide +kernel
theorem dX12_count_1 : decode cX12_count 1 = .ok (.iconst 0, 1) := by decide +kernel
theorem dX12_count_2 : decode cX12_count 2 = .ok (.putfield 156, 3) := by decide +kernel
theorem dX12_count_5 : decode cX12_count 5 = .ok (.iload_n 1, 1) := by decide +kernel
theorem dX12_count_6 : decode cX12_count 6 = .ok (.tableswitch 175 0 14 #[74, 81, 88, 95, 100, 107, 114, 121, 126, 131, 138, 145, 152, 159, 167], 74) := by decide +kernel
theorem dX12_count_80 : decode cX12_count 80 = .ok (.aload_n 0, 1) := by decide +kernel
theorem dX12_count_81 : decode cX12_count 81 = .ok (.getfield 13, 3) := by decide +kernel
theorem dX12_count_84 : decode cX12_count 84 = .ok (.iconst 0, 1) := by decide +kernel
theorem dX12_count_85 : decode cX12_count 85 = .ok (.iaload, 1) := by decide +kernel
theorem dX12_count_86 : decode cX12_count 86 = .ok (.ireturn, 1) := by decide +kernel
theorem dX12_count_87 : decode cX12_count 87 = .ok (.aload_n 0, 1) := by decide +kernel
theorem dX12_count_88 : decode cX12_count 88 = .ok (.getfield 13, 3) := by decide +kernel
theorem dX12_count_91 : decode cX12_count 91 = .ok (.iconst 1, 1) := by decide +kernel
theorem dX12_count_92 : decode cX12_count 92 = .ok (.iaload, 1) := by decide +kernel
theorem dX12_count_93 : decode cX12_count 93 = .ok (.ireturn, 1) := by decide +kernel
theorem dX12_count_94 : decode cX12_count 94 = .ok (.aload_n 0, 1) := by decide +kernel
theorem dX12_count_95 : decode cX12_count 95 = .ok (.getfield 13, 3) := by decide +kernel
theorem dX12_count_98 : decode cX12_count 98 = .ok (.iconst 2, 1) := by decide +kernel
theorem dX12_count_99 : decode cX12_count 99 = .ok (.iaload, 1) := by decide +kernel
theorem dX12_count_100 : decode cX12_count 100 = .ok (.ireturn, 1) := by decide +kernel
theorem dX12_count_101 : decode cX12_count 101 = .ok (.aload_n 0, 1) := by decide +kernel
theorem dX12_count_102 : decode cX12_count 102 = .ok (.invokevirtual 608, 3) := by decide +kernel
theorem lk_RX12_608 : Cond.methodLink RX12 608 yX12_dugCells ∈ gW := gW_t 2012 (by decide +kernel) rfl
theorem mI_X12_dugCells : Cond.instanceMethod yX12_dugCells ∈ gW := gW_t 2014 (by decide +kernel) rfl
theorem mS_X12_dugCells : Cond.selects RX12 yX12_dugCells yX12_dugCells ∈ gW := gW_p (q := (yX12_dugCells, 59)) 117 (by decide +kernel)
theorem mC_X12_dugCells : Cond.code yX12_dugCells cX12_dugCells 3 (some .int) ∈ gW := gW_t 2015 (by decide +kernel) rfl
theorem ok_X12_dugCells : okD yX12_dugCells 0 := ⟨by decide +kernel, by decide +kernel, by decide +kernel⟩
theorem dX12_count_105 : decode cX12_count 105 = .ok (.ireturn, 1) := by decide +kernel
theorem dX12_count_106 : decode cX12_count 106 = .ok (.aload_n 0, 1) := by decide +kernel
theorem dX12_count_107 : decode cX12_count 107 = .ok (.getfield 13, 3) := by decide +kernel
theorem dX12_count_110 : decode cX12_count 110 = .ok (.iconst 3, 1) := by decide +kernel
theorem dX12_count_111 : decode cX12_count 111 = .ok (.iaload, 1) := by decide +kernel
theorem dX12_count_112 : decode cX12_count 112 = .ok (.ireturn, 1) := by decide +kernel
theorem dX12_count_113 : decode cX12_count 113 = .ok (.aload_n 0, 1) := by decide +kernel
theorem dX12_count_114 : decode cX12_count 114 = .ok (.getfield 13, 3) := by decide +kernel
theorem dX12_count_117 : decode cX12_count 117 = .ok (.iconst 4, 1) := by decide +kernel
theorem dX12_count_118 : decode cX12_count 118 = .ok (.iaload, 1) := by decide +kernel
theorem dX12_count_119 : decode cX12_count 119 = .ok (.ireturn, 1) := by decide +kernel
theorem dX12_count_120 : decode cX12_count 120 = .ok (.aload_n 0, 1) := by decide +kernel
theorem dX12_count_121 : decode cX12_count 121 = .ok (.getfield 13, 3) := by decide +kernel
theorem dX12_count_124 : decode cX12_count 124 = .ok (.iconst 5, 1) := by decide +kernel
theorem dX12_count_125 : decode cX12_count 125 = .ok (.iaload, 1) := by decide +kernel
theorem dX12_count_126 : decode cX12_count 126 = .ok (.ireturn, 1) := by decide +kernel
theorem dX12_count_127 : decode cX12_count 127 = .ok (.aload_n 0, 1) := by decide +kernel
theorem dX12_count_128 : decode cX12_count 128 = .ok (.getfield 166, 3) := by decide +kernel
theorem dX12_count_131 : decode cX12_count 131 = .ok (.ireturn, 1) := by decide +kernel
theorem dX12_count_132 : decode cX12_count 132 = .ok (.aload_n 0, 1) := by decide +kernel
theorem dX12_count_133 : decode cX12_count 133 = .ok (.getfield 247, 3) := by decide +kernel
theorem dX12_count_136 : decode cX12_count 136 = .ok (.ireturn, 1) := by decide +kernel
theorem dX12_count_137 : decode cX12_count 137 = .ok (.aload_n 0, 1) := by decide +kernel
theorem dX12_count_138 : decode cX12_count 138 = .ok (.getfield 7, 3) := by decide +kernel
theorem dX12_count_141 : decode cX12_count 141 = .ok (.iconst 1, 1) := by decide +kernel
theorem dX12_count_142 : decode cX12_count 142 = .ok (.iaload, 1) := by decide +kernel
theorem dX12_count_143 : decode cX12_count 143 = .ok (.ireturn, 1) := by decide +kernel
theorem dX12_count_144 : decode cX12_count 144 = .ok (.aload_n 0, 1) := by decide +kernel
theorem dX12_count_145 : decode cX12_count 145 = .ok (.getfield 7, 3) := by decide +kernel
theorem dX12_count_148 : decode cX12_count 148 = .ok (.iconst 2, 1) := by decide +kernel
theorem dX12_count_149 : decode cX12_count 149 = .ok (.iaload, 1) := by decide +kernel
theorem dX12_count_150 : decode cX12_count 150 = .ok (.ireturn, 1) := by decide +kernel
theorem dX12_count_151 : decode cX12_count 151 = .ok (.aload_n 0, 1) := by decide +kernel
theorem dX12_count_152 : decode cX12_count 152 = .ok (.getfield 7, 3) := by decide +kernel
theorem dX12_count_155 : decode cX12_count 155 = .ok (.iconst 3, 1) := by decide +kernel
theorem dX12_count_156 : decode cX12_count 156 = .ok (.iaload, 1) := by decide +kernel
theorem dX12_count_157 : decode cX12_count 157 = .ok (.ireturn, 1) := by decide +kernel
theorem dX12_count_158 : decode cX12_count 158 = .ok (.aload_n 0, 1) := by decide +kernel
theorem dX12_count_159 : decode cX12_count 159 = .ok (.getfield 7, 3) := by decide +kernel
theorem dX12_count_162 : decode cX12_count 162 = .ok (.iconst 5, 1) := by decide +kernel
theorem dX12_count_163 : decode cX12_count 163 = .ok (.iaload, 1) := by decide +kernel
theorem dX12_count_164 : decode cX12_count 164 = .ok (.ireturn, 1) := by decide +kernel
theorem dX12_count_165 : decode cX12_count 165 = .ok (.aload_n 0, 1) := by decide +kernel
theorem dX12_count_166 : decode cX12_count 166 = .ok (.getfield 7, 3) := by decide +kernel
theorem dX12_count_169 : decode cX12_count 169 = .ok (.bipush 6, 2) := by decide +kernel
theorem dX12_count_171 : decode cX12_count 171 = .ok (.iaload, 1) := by decide +kernel
theorem dX12_count_172 : decode cX12_count 172 = .ok (.ireturn, 1) := by decide +kernel
theorem dX12_count_173 : decode cX12_count 173 = .ok (.aload_n 0, 1) := by decide +kernel
theorem dX12_count_174 : decode cX12_count 174 = .ok (.getfield 13, 3) := by decide +kernel
theorem dX12_count_177 : decode cX12_count 177 = .ok (.bipush 6, 2) := by decide +kernel
theorem dX12_count_179 : decode cX12_count 179 = .ok (.iaload, 1) := by decide +kernel
theorem dX12_count_180 : decode cX12_count 180 = .ok (.ireturn, 1) := by decide +kernel
theorem dX12_count_181 : decode cX12_count 181 = .ok (.iload_n 1, 1) := by decide +kernel
theorem dX12_count_182 : decode cX12_count 182 = .ok (.i2l, 1) := by decide +kernel
theorem dX12_count_183 : decode cX12_count 183 = .ok (.ldc2_w 611, 3) := by decide +kernel
theorem ct_RX12_611 : Cond.constantLong RX12 611 15 ∈ gW := gW_t 2016 (by decide +kernel) rfl
theorem dX12_count_186 : decode cX12_count 186 = .ok (.ldc2_w 613, 3) := by decide +kernel
theorem ct_RX12_613 : Cond.constantLong RX12 613 17 ∈ gW := gW_t 2017 (by decide +kernel) rfl
theorem dX12_count_189 : decode cX12_count 189 = .ok (.invokestatic 180, 3) := by decide +kernel
theorem dX12_count_192 : decode cX12_count 192 = .ok (.ifCond .eq 18, 3) := by decide +kernel
theorem dX12_count_210 : decode cX12_count 210 = .ok (.iconst (-1), 1) := by decide +kernel
theorem dX12_count_211 : decode cX12_count 211 = .ok (.ireturn, 1) := by decide +kernel
theorem dX12_count_195 : decode cX12_count 195 = .ok (.aload_n 0, 1) := by decide +kernel
theorem dX12_count_196 : decode cX12_count 196 = .ok (.getfield 13, 3) := by decide +kernel
theorem dX12_count_199 : decode cX12_count 199 = .ok (.bipush 7, 2) := by decide +kernel
theorem dX12_count_201 : decode cX12_count 201 = .ok (.iload_n 1, 1) := by decide +kernel
theorem dX12_count_202 : decode cX12_count 202 = .ok (.iadd, 1) := by decide +kernel
theorem dX12_count_203 : decode cX12_count 203 = .ok (.bipush 15, 2) := by decide +kernel
theorem dX12_count_205 : decode cX12_count 205 = .ok (.isub, 1) := by decide +kernel
theorem dX12_count_206 : decode cX12_count 206 = .ok (.iaload, 1) := by decide +kernel
theorem dX12_count_207 : decode cX12_count 207 = .ok (.goto 4, 3) := by decide +kernel
