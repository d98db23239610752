def yX10_lawInForce : MethodName := ⟨RX10, "lawInForce", "()LListenWells$Text;"⟩
abbrev cX10_lawInForce : ByteArray := prog_12_method_5_code
theorem dX10_lawInForce_0 : decode cX10_lawInForce 0 = .ok (.aload_n 0, 1) := by decide +kernel
theorem dX10_lawInForce_1 : decode cX10_lawInForce 1 = .ok (.aload_n 0, 1) := by decide +kernel
theorem dX10_lawInForce_2 : decode cX10_lawInForce 2 = .ok (.getfield 42, 3) := by decide +kernel
theorem fl_RX10_42 : Cond.fieldLink RX10 42 RX10 "force" "I" ∈ gW := gW_u tb_1 236 (by rfl) (by decide +kernel)
theorem dX10_lawInForce_5 : decode cX10_lawInForce 5 = .ok (.invokevirtual 49, 3) := by decide +kernel
theorem lk_RX10_49 : Cond.methodLink RX10 49 yX10_lawOf ∈ gW := gW_u tb_3 43 (by rfl) (by decide +kernel)
theorem mI_X10_lawOf : Cond.instanceMethod yX10_lawOf ∈ gW := gW_u tb_3 44 (by rfl) (by decide +kernel)
theorem mS_X10_lawOf : Cond.selects RX10 yX10_lawOf yX10_lawOf ∈ gW := gW_u tb_3 45 (by rfl) (by decide +kernel)
theorem mC_X10_lawOf : Cond.code yX10_lawOf cX10_lawOf 2 (some (.object "ListenWells$Text")) ∈ gW := gW_u tb_3 46 (by rfl) (by decide +kernel)
theorem ok_X10_lawOf : okD yX10_lawOf 1 := ⟨by decide +kernel, by decide +kernel, by decide +kernel⟩
theorem dX10_lawInForce_8 : decode cX10_lawInForce 8 = .ok (.areturn, 1) := by decide +kernel
def yX10_mayBeDugOn : MethodName := ⟨RX10, "mayBeDugOn", "(I)Z"⟩
abbrev cX10_mayBeDugOn : ByteArray := prog_12_method_6_code
theorem dX10_mayBeDugOn_0 : decode cX10_mayBeDugOn 0 = .ok (.aload_n 0, 1) := by decide +kernel
theorem dX10_mayBeDugOn_1 : decode cX10_mayBeDugOn 1 = .ok (.getfield 12, 3) := by decide +kernel
theorem fl_RX10_12 : Cond.fieldLink RX10 12 RX10 "rock" "LListenWells$Rock;" ∈ gW := gW_u tb_1 212 (by rfl) (by decide +kernel)
theorem dX10_mayBeDugOn_4 : decode cX10_mayBeDugOn 4 = .ok (.aload_n 0, 1) := by decide +kernel
theorem dX10_mayBeDugOn_5 : decode cX10_mayBeDugOn 5 = .ok (.getfield 21, 3) := by decide +kernel
theorem fl_RX10_21 : Cond.fieldLink RX10 21 RX10 "crew" "LListenWells$Crew;" ∈ gW := gW_u tb_1 218 (by rfl) (by decide +kernel)
theorem dX10_mayBeDugOn_8 : decode cX10_mayBeDugOn 8 = .ok (.getfield 53, 3) := by decide +kernel
theorem fl_RX10_53 : Cond.fieldLink RX10 53 RX1 "cell" "[I" ∈ gW := gW_u tb_1 121 (by rfl) (by decide +kernel)
theorem dX10_mayBeDugOn_11 : decode cX10_mayBeDugOn 11 = .ok (.iload_n 1, 1) := by decide +kernel
theorem dX10_mayBeDugOn_12 : decode cX10_mayBeDugOn 12 = .ok (.iaload, 1) := by decide +kernel
theorem dX10_mayBeDugOn_13 : decode cX10_mayBeDugOn 13 = .ok (.invokevirtual 56, 3) := by decide +kernel
theorem lk_RX10_56 : Cond.methodLink RX10 56 yX6_endsAWay ∈ gW := gW_u tb_4 207 (by rfl) (by decide +kernel)
theorem mI_X6_endsAWay : Cond.instanceMethod yX6_endsAWay ∈ gW := gW_u tb_4 208 (by rfl) (by decide +kernel)
theorem mS_X6_endsAWay : Cond.selects RX6 yX6_endsAWay yX6_endsAWay ∈ gW := gW_u tb_4 209 (by rfl) (by decide +kernel)
theorem mC_X6_endsAWay : Cond.code yX6_endsAWay cX6_endsAWay 2 (some .boolean) ∈ gW := gW_u tb_4 210 (by rfl) (by decide +kernel)
theorem ok_X6_endsAWay : okD yX6_endsAWay 1 := ⟨by decide +kernel, by decide +kernel, by decide +kernel⟩
theorem dX10_mayBeDugOn_16 : decode cX10_mayBeDugOn 16 = .ok (.ifCond .ne 7, 3) := by decide +kernel
theorem dX10_mayBeDugOn_23 : decode cX10_mayBeDugOn 23 = .ok (.iconst 0, 1) := by decide +kernel
theorem dX10_mayBeDugOn_24 : decode cX10_mayBeDugOn 24 = .ok (.ireturn, 1) := by decide +kernel
theorem dX10_mayBeDugOn_19 : decode cX10_mayBeDugOn 19 = .ok (.iconst 1, 1) := by decide +kernel
theorem dX10_mayBeDugOn_20 : decode cX10_mayBeDugOn 20 = .ok (.goto 4, 3) := by decide +kernel
def yX10_shareOf : MethodName := ⟨RX10, "shareOf", "(I)I"⟩
abbrev cX10_shareOf : ByteArray := prog_12_method_7_code
theorem dX10_shareOf_0 : decode cX10_shareOf 0 = .ok (.aload_n 0, 1) := by decide +kernel
theorem dX10_shareOf_1 : decode cX10_shareOf 1 = .ok (.getfield 12, 3) := by decide +kernel
theorem dX10_shareOf_4 : decode cX10_shareOf 4 = .ok (.iload_n 1, 1) := by decide +kernel
theorem dX10_shareOf_5 : decode cX10_shareOf 5 = .ok (.invokevirtual 60, 3) := by decide +kernel
theorem lk_RX10_60 : Cond.methodLink RX10 60 yX6_veinOf ∈ gW := gW_u tb_3 112 (by rfl) (by decide +kernel)
theorem mI_X6_veinOf : Cond.instanceMethod yX6_veinOf ∈ gW := gW_u tb_3 113 (by rfl) (by decide +kernel)
theorem mS_X6_veinOf : Cond.selects RX6 yX6_veinOf yX6_veinOf ∈ gW := gW_u tb_3 114 (by rfl) (by decide +kernel)
theorem mC_X6_veinOf : Cond.code yX6_veinOf cX6_veinOf 13 (some .long) ∈ gW := gW_u tb_3 115 (by rfl) (by decide +kernel)
theorem ok_X6_veinOf : okD yX6_veinOf 1 := ⟨by decide +kernel, by decide +kernel, by decide +kernel⟩
theorem dX10_shareOf_8 : decode cX10_shareOf 8 = .ok (.lstore_n 2, 1) := by decide +kernel
theorem dX10_shareOf_9 : decode cX10_shareOf 9 = .ok (.aload_n 0, 1) := by decide +kernel
theorem dX10_shareOf_10 : decode cX10_shareOf 10 = .ok (.getfield 21, 3) := by decide +kernel
theorem dX10_shareOf_13 : decode cX10_shareOf 13 = .ok (.lload_n 2, 1) := by decide +kernel
theorem dX10_shareOf_14 : decode cX10_shareOf 14 = .ok (.invokevirtual 64, 3) := by decide +kernel
theorem lk_RX10_64 : Cond.methodLink RX10 64 yX1_countIn ∈ gW := gW_u tb_3 118 (by rfl) (by decide +kernel)
theorem mI_X1_countIn : Cond.instanceMethod yX1_countIn ∈ gW := gW_u tb_3 119 (by rfl) (by decide +kernel)
theorem mS_X1_countIn : Cond.selects RX1 yX1_countIn yX1_countIn ∈ gW := gW_u tb_3 120 (by rfl) (by decide +kernel)
theorem mC_X1_countIn : Cond.code yX1_countIn cX1_countIn 5 (some .int) ∈ gW := gW_u tb_3 121 (by rfl) (by decide +kernel)
theorem ok_X1_countIn : okD yX1_countIn 1 := ⟨by decide +kernel, by decide +kernel, by decide +kernel⟩
theorem dX10_shareOf_17 : decode cX10_shareOf 17 = .ok (.istore 4, 2) := by decide +kernel
theorem dX10_shareOf_19 : decode cX10_shareOf 19 = .ok (.iload 4, 2) := by decide +kernel
theorem dX10_shareOf_21 : decode cX10_shareOf 21 = .ok (.ifCond .ne 7, 3) := by decide +kernel
theorem dX10_shareOf_28 : decode cX10_shareOf 28 = .ok (.aload_n 0, 1) := by decide +kernel
theorem dX10_shareOf_29 : decode cX10_shareOf 29 = .ok (.getfield 12, 3) := by decide +kernel
theorem dX10_shareOf_32 : decode cX10_shareOf 32 = .ok (.lload_n 2, 1) := by decide +kernel
theorem dX10_shareOf_33 : decode cX10_shareOf 33 = .ok (.invokevirtual 68, 3) := by decide +kernel
theorem lk_RX10_68 : Cond.methodLink RX10 68 yX6_waterIn ∈ gW := gW_u tb_3 122 (by rfl) (by decide +kernel)
theorem mI_X6_waterIn : Cond.instanceMethod yX6_waterIn ∈ gW := gW_u tb_3 123 (by rfl) (by decide +kernel)
theorem mS_X6_waterIn : Cond.selects RX6 yX6_waterIn yX6_waterIn ∈ gW := gW_u tb_3 124 (by rfl) (by decide +kernel)
theorem mC_X6_waterIn : Cond.code yX6_waterIn cX6_waterIn 5 (some .int) ∈ gW := gW_u tb_3 125 (by rfl) (by decide +kernel)
theorem ok_X6_waterIn : okD yX6_waterIn 1 := ⟨by decide +kernel, by decide +kernel, by decide +kernel⟩
theorem dX10_shareOf_36 : decode cX10_shareOf 36 = .ok (.iload 4, 2) := by decide +kernel
theorem dX10_shareOf_38 : decode cX10_shareOf 38 = .ok (.idiv, 1) := by decide +kernel
theorem dX10_shareOf_39 : decode cX10_shareOf 39 = .ok (.ireturn, 1) := by decide +kernel
theorem dX10_shareOf_24 : decode cX10_shareOf 24 = .ok (.iconst 0, 1) := by decide +kernel
theorem dX10_shareOf_25 : decode cX10_shareOf 25 = .ok (.goto 14, 3) := by decide +kernel
def yX10_copyFrom : MethodName := ⟨RX10, "copyFrom", "(LListenWells$World;)V"⟩
abbrev cX10_copyFrom : ByteArray := prog_12_method_8_code
theorem dX10_copyFrom_0 : decode cX10_copyFrom 0 = .ok (.aload_n 0, 1) := by decide +kernel
theorem dX10_copyFrom_1 : decode cX10_copyFrom 1 = .ok (.getfield 12, 3) := by decide +kernel
theorem dX10_copyFrom_4 : decode cX10_copyFrom 4 = .ok (.aload_n 1, 1) := by decide +kernel
theorem dX10_copyFrom_5 : decode cX10_copyFrom 5 = .ok (.getfield 12, 3) := by decide +kernel
theorem dX10_copyFrom_8 : decode cX10_copyFrom 8 = .ok (.invokevirtual 71, 3) := by decide +kernel
theorem lk_RX10_71 : Cond.methodLink RX10 71 yX6_copyFrom ∈ gW := gW_u tb_4 123 (by rfl) (by decide +kernel)
theorem mI_X6_copyFrom : Cond.instanceMethod yX6_copyFrom ∈ gW := gW_u tb_4 124 (by rfl) (by decide +kernel)
theorem mS_X6_copyFrom : Cond.selects RX6 yX6_copyFrom yX6_copyFrom ∈ gW := gW_u tb_4 125 (by rfl) (by decide +kernel)
theorem mC_X6_copyFrom : Cond.code yX6_copyFrom cX6_copyFrom 2 none ∈ gW := gW_u tb_4 126 (by rfl) (by decide +kernel)
theorem ok_X6_copyFrom : okD yX6_copyFrom 1 := ⟨by decide +kernel, by decide +kernel, by decide +kernel⟩
theorem dX10_copyFrom_11 : decode cX10_copyFrom 11 = .ok (.aload_n 0, 1) := by decide +kernel
theorem dX10_copyFrom_12 : decode cX10_copyFrom 12 = .ok (.getfield 21, 3) := by decide +kernel
theorem dX10_copyFrom_15 : decode cX10_copyFrom 15 = .ok (.aload_n 1, 1) := by decide +kernel
theorem dX10_copyFrom_16 : decode cX10_copyFrom 16 = .ok (.getfield 21, 3) := by decide +kernel
theorem dX10_copyFrom_19 : decode cX10_copyFrom 19 = .ok (.invokevirtual 75, 3) := by decide +kernel
theorem lk_RX10_75 : Cond.methodLink RX10 75 yX1_copyFrom ∈ gW := gW_u tb_4 128 (by rfl) (by decide +kernel)
theorem mI_X1_copyFrom : Cond.instanceMethod yX1_copyFrom ∈ gW := gW_u tb_4 129 (by rfl) (by decide +kernel)
theorem mS_X1_copyFrom : Cond.selects RX1 yX1_copyFrom yX1_copyFrom ∈ gW := gW_u tb_4 130 (by rfl) (by decide +kernel)
theorem mC_X1_copyFrom : Cond.code yX1_copyFrom cX1_copyFrom 2 none ∈ gW := gW_u tb_4 131 (by rfl) (by decide +kernel)
theorem ok_X1_copyFrom : okD yX1_copyFrom 1 := ⟨by decide +kernel, by decide +kernel, by decide +kernel⟩
theorem dX10_copyFrom_22 : decode cX10_copyFrom 22 = .ok (.aload_n 0, 1) := by decide +kernel
theorem dX10_copyFrom_23 : decode cX10_copyFrom 23 = .ok (.getfield 28, 3) := by decide +kernel
theorem fl_RX10_28 : Cond.fieldLink RX10 28 RX10 "folk" "LListenWells$Folk;" ∈ gW := gW_u tb_1 223 (by rfl) (by decide +kernel)
theorem dX10_copyFrom_26 : decode cX10_copyFrom 26 = .ok (.aload_n 1, 1) := by decide +kernel
theorem dX10_copyFrom_27 : decode cX10_copyFrom 27 = .ok (.getfield 28, 3) := by decide +kernel
theorem dX10_copyFrom_30 : decode cX10_copyFrom 30 = .ok (.invokevirtual 78, 3) := by decide +kernel
theorem lk_RX10_78 : Cond.methodLink RX10 78 yX4_copyFrom ∈ gW := gW_u tb_4 133 (by rfl) (by decide +kernel)
theorem mI_X4_copyFrom : Cond.instanceMethod yX4_copyFrom ∈ gW := gW_u tb_4 134 (by rfl) (by decide +kernel)
theorem mS_X4_copyFrom : Cond.selects RX4 yX4_copyFrom yX4_copyFrom ∈ gW := gW_u tb_4 135 (by rfl) (by decide +kernel)
theorem mC_X4_copyFrom : Cond.code yX4_copyFrom cX4_copyFrom 2 none ∈ gW := gW_u tb_4 136 (by rfl) (by decide +kernel)
theorem ok_X4_copyFrom : okD yX4_copyFrom 1 := ⟨by decide +kernel, by decide +kernel, by decide +kernel⟩
theorem dX10_copyFrom_33 : decode cX10_copyFrom 33 = .ok (.aload_n 1, 1) := by decide +kernel
theorem dX10_copyFrom_34 : decode cX10_copyFrom 34 = .ok (.getfield 32, 3) := by decide +kernel
theorem fl_RX10_32 : Cond.fieldLink RX10 32 RX10 "term" "[I" ∈ gW := gW_u tb_1 228 (by rfl) (by decide +kernel)
theorem dX10_copyFrom_37 : decode cX10_copyFrom 37 = .ok (.iconst 0, 1) := by decide +kernel
theorem dX10_copyFrom_38 : decode cX10_copyFrom 38 = .ok (.aload_n 0, 1) := by decide +kernel
theorem dX10_copyFrom_39 : decode cX10_copyFrom 39 = .ok (.getfield 32, 3) := by decide +kernel
theorem dX10_copyFrom_42 : decode cX10_copyFrom 42 = .ok (.iconst 0, 1) := by decide +kernel
theorem dX10_copyFrom_43 : decode cX10_copyFrom 43 = .ok (.aload_n 0, 1) := by decide +kernel
theorem dX10_copyFrom_44 : decode cX10_copyFrom 44 = .ok (.getfield 32, 3) := by decide +kernel
theorem dX10_copyFrom_47 : decode cX10_copyFrom 47 = .ok (.arraylength, 1) := by decide +kernel
theorem dX10_copyFrom_48 : decode cX10_copyFrom 48 = .ok (.invokestatic 81, 3) := by decide +kernel
theorem lk_RX10_81 : Cond.methodLink RX10 81 arraycopyName ∈ gW := gW_u tb_4 138 (by rfl) (by decide +kernel)
theorem dX10_copyFrom_51 : decode cX10_copyFrom 51 = .ok (.iconst 0, 1) := by decide +kernel
theorem dX10_copyFrom_52 : decode cX10_copyFrom 52 = .ok (.istore_n 2, 1) := by decide +kernel
theorem dX10_copyFrom_53 : decode cX10_copyFrom 53 = .ok (.iload_n 2, 1) := by decide +kernel
theorem dX10_copyFrom_54 : decode cX10_copyFrom 54 = .ok (.bipush 6, 2) := by decide +kernel
theorem dX10_copyFrom_56 : decode cX10_copyFrom 56 = .ok (.if_icmp .ge 21, 3) := by decide +kernel
theorem dX10_copyFrom_59 : decode cX10_copyFrom 59 = .ok (.aload_n 0, 1) := by decide +kernel
theorem dX10_copyFrom_60 : decode cX10_copyFrom 60 = .ok (.getfield 38, 3) := by decide +kernel
theorem dX10_copyFrom_63 : decode cX10_copyFrom 63 = .ok (.iload_n 2, 1) := by decide +kernel
theorem dX10_copyFrom_64 : decode cX10_copyFrom 64 = .ok (.aload_n 1, 1) := by decide +kernel
theorem dX10_copyFrom_65 : decode cX10_copyFrom 65 = .ok (.getfield 38, 3) := by decide +kernel
theorem dX10_copyFrom_68 : decode cX10_copyFrom 68 = .ok (.iload_n 2, 1) := by decide +kernel
theorem dX10_copyFrom_69 : decode cX10_copyFrom 69 = .ok (.aaload, 1) := by decide +kernel
theorem dX10_copyFrom_70 : decode cX10_copyFrom 70 = .ok (.aastore, 1) := by decide +kernel
theorem dX10_copyFrom_71 : decode cX10_copyFrom 71 = .ok (.iinc 2 1, 3) := by decide +kernel
theorem dX10_copyFrom_74 : decode cX10_copyFrom 74 = .ok (.goto (-21), 3) := by decide +kernel
theorem dX10_copyFrom_77 : decode cX10_copyFrom 77 = .ok (.aload_n 0, 1) := by decide +kernel
theorem dX10_copyFrom_78 : decode cX10_copyFrom 78 = .ok (.aload_n 1, 1) := by decide +kernel
theorem dX10_copyFrom_79 : decode cX10_copyFrom 79 = .ok (.getfield 46, 3) := by decide +kernel
theorem dX10_copyFrom_82 : decode cX10_copyFrom 82 = .ok (.putfield 46, 3) := by decide +kernel
theorem dX10_copyFrom_85 : decode cX10_copyFrom 85 = .ok (.aload_n 0, 1) := by decide +kernel
theorem dX10_copyFrom_86 : decode cX10_copyFrom 86 = .ok (.aload_n 1, 1) := by decide +kernel
theorem dX10_copyFrom_87 : decode cX10_copyFrom 87 = .ok (.getfield 42, 3) := by decide +kernel
theorem dX10_copyFrom_90 : decode cX10_copyFrom 90 = .ok (.putfield 42, 3) := by decide +kernel
theorem dX10_copyFrom_93 : decode cX10_copyFrom 93 = .ok (.return_, 1) := by decide +kernel
def yX11_of : MethodName := ⟨RX11, "of", "(II)I"⟩
abbrev cX11_of : ByteArray := prog_1_method_5_code
theorem dX11_of_0 : decode cX11_of 0 = .ok (.aload_n 0, 1) := by decide +kernel
theorem dX11_of_1 : decode cX11_of 1 = .ok (.getfield 21, 3) := by decide +kernel
theorem dX11_of_4 : decode cX11_of 4 = .ok (.getfield 78, 3) := by decide +kernel
theorem dX11_of_7 : decode cX11_of 7 = .ok (.astore_n 3, 1) := by decide +kernel
theorem dX11_of_8 : decode cX11_of 8 = .ok (.iload_n 1, 1) := by decide +kernel
theorem dX11_of_9 : decode cX11_of 9 = .ok (.aload_n 3, 1) := by decide +kernel
theorem dX11_of_10 : decode cX11_of 10 = .ok (.getfield 134, 3) := by decide +kernel
theorem dX11_of_13 : decode cX11_of 13 = .ok (.getfield 137, 3) := by decide +kernel
theorem dX11_of_16 : decode cX11_of 16 = .ok (.invokestatic 82, 3) := by decide +kernel
theorem dX11_of_19 : decode cX11_of 19 = .ok (.ifCond .ne 5, 3) := by decide +kernel
theorem dX11_of_24 : decode cX11_of 24 = .ok (.aload_n 3, 1) := by decide +kernel
theorem dX11_of_25 : decode cX11_of 25 = .ok (.getfield 134, 3) := by decide +kernel
theorem dX11_of_28 : decode cX11_of 28 = .ok (.getfield 147, 3) := by decide +kernel
theorem fl_RX11_147 : Cond.fieldLink RX11 147 RX1 "cell" "[I" ∈ gW := gW_u tb_1 120 (by rfl) (by decide +kernel)
theorem dX11_of_31 : decode cX11_of 31 = .ok (.iload_n 1, 1) := by decide +kernel
theorem dX11_of_32 : decode cX11_of 32 = .ok (.iaload, 1) := by decide +kernel
theorem dX11_of_33 : decode cX11_of 33 = .ok (.istore 4, 2) := by decide +kernel
theorem dX11_of_35 : decode cX11_of 35 = .ok (.iload_n 2, 1) := by decide +kernel
theorem dX11_of_36 : decode cX11_of 36 = .ok (.tableswitch 96 0 4 #[36, 39, 49, 69, 89], 36) := by decide +kernel
theorem dX11_of_72 : decode cX11_of 72 = .ok (.iload 4, 2) := by decide +kernel
theorem dX11_of_74 : decode cX11_of 74 = .ok (.ireturn, 1) := by decide +kernel
theorem dX11_of_75 : decode cX11_of 75 = .ok (.aload_n 3, 1) := by decide +kernel
theorem dX11_of_76 : decode cX11_of 76 = .ok (.getfield 134, 3) := by decide +kernel
theorem dX11_of_79 : decode cX11_of 79 = .ok (.getfield 150, 3) := by decide +kernel
theorem fl_RX11_150 : Cond.fieldLink RX11 150 RX1 "buckets" "[I" ∈ gW := gW_u tb_1 125 (by rfl) (by decide +kernel)
theorem dX11_of_82 : decode cX11_of 82 = .ok (.iload_n 1, 1) := by decide +kernel
theorem dX11_of_83 : decode cX11_of 83 = .ok (.iaload, 1) := by decide +kernel
theorem dX11_of_84 : decode cX11_of 84 = .ok (.ireturn, 1) := by decide +kernel
theorem dX11_of_85 : decode cX11_of 85 = .ok (.aload_n 3, 1) := by decide +kernel
theorem dX11_of_86 : decode cX11_of 86 = .ok (.getfield 95, 3) := by decide +kernel
theorem dX11_of_89 : decode cX11_of 89 = .ok (.getfield 124, 3) := by decide +kernel
theorem dX11_of_92 : decode cX11_of 92 = .ok (.iload 4, 2) := by decide +kernel
theorem dX11_of_94 : decode cX11_of 94 = .ok (.iaload, 1) := by decide +kernel
theorem dX11_of_95 : decode cX11_of 95 = .ok (.iconst 2, 1) := by decide +kernel
theorem dX11_of_96 : decode cX11_of 96 = .ok (.if_icmp .ne 7, 3) := by decide +kernel
theorem dX11_of_103 : decode cX11_of 103 = .ok (.iconst 0, 1) := by decide +kernel
theorem dX11_of_104 : decode cX11_of 104 = .ok (.ireturn, 1) := by decide +kernel
theorem dX11_of_99 : decode cX11_of 99 = .ok (.iconst 1, 1) := by decide +kernel
theorem dX11_of_100 : decode cX11_of 100 = .ok (.goto 4, 3) := by decide +kernel
theorem dX11_of_105 : decode cX11_of 105 = .ok (.aload_n 3, 1) := by decide +kernel
theorem dX11_of_106 : decode cX11_of 106 = .ok (.getfield 95, 3) := by decide +kernel
theorem dX11_of_109 : decode cX11_of 109 = .ok (.getfield 124, 3) := by decide +kernel
theorem dX11_of_112 : decode cX11_of 112 = .ok (.iload 4, 2) := by decide +kernel
theorem dX11_of_114 : decode cX11_of 114 = .ok (.iaload, 1) := by decide +kernel
theorem dX11_of_115 : decode cX11_of 115 = .ok (.iconst 3, 1) := by decide +kernel
theorem dX11_of_116 : decode cX11_of 116 = .ok (.if_icmp .ne 7, 3) := by decide +kernel
theorem dX11_of_123 : decode cX11_of 123 = .ok (.iconst 0, 1) := by decide +kernel
theorem dX11_of_124 : decode cX11_of 124 = .ok (.ireturn, 1) := by decide +kernel
theorem dX11_of_119 : decode cX11_of 119 = .ok (.iconst 1, 1) := by decide +kernel
theorem dX11_of_120 : decode cX11_of 120 = .ok (.goto 4, 3) := by decide +kernel
theorem dX11_of_125 : decode cX11_of 125 = .ok (.aload_n 3, 1) := by decide +kernel
theorem dX11_of_126 : decode cX11_of 126 = .ok (.iload 4, 2) := by decide +kernel
theorem dX11_of_128 : decode cX11_of 128 = .ok (.invokevirtual 153, 3) := by decide +kernel
theorem lk_RX11_153 : Cond.methodLink RX11 153 yX10_shareOf ∈ gW := gW_u tb_3 108 (by rfl) (by decide +kernel)
theorem mI_X10_shareOf : Cond.instanceMethod yX10_shareOf ∈ gW := gW_u tb_3 109 (by rfl) (by decide +kernel)
theorem mS_X10_shareOf : Cond.selects RX10 yX10_shareOf yX10_shareOf ∈ gW := gW_u tb_3 110 (by rfl) (by decide +kernel)
theorem mC_X10_shareOf : Cond.code yX10_shareOf cX10_shareOf 5 (some .int) ∈ gW := gW_u tb_3 111 (by rfl) (by decide +kernel)
theorem ok_X10_shareOf : okD yX10_shareOf 1 := ⟨by decide +kernel, by decide +kernel, by decide +kernel⟩
theorem dX11_of_131 : decode cX11_of 131 = .ok (.ireturn, 1) := by decide +kernel
theorem dX11_of_132 : decode cX11_of 132 = .ok (.iconst (-1), 1) := by decide +kernel
theorem dX11_of_133 : decode cX11_of 133 = .ok (.ireturn, 1) := by decide +kernel
theorem dX11_of_22 : decode cX11_of 22 = .ok (.iconst (-1), 1) := by decide +kernel
theorem dX11_of_23 : decode cX11_of 23 = .ok (.ireturn, 1) := by decide +kernel
def yX11_listener : MethodName := ⟨RX11, "listener", "(II)I"⟩
abbrev cX11_listener : ByteArray := prog_1_method_6_code
theorem dX11_listener_0 : decode cX11_listener 0 = .ok (.iload_n 1, 1) := by decide +kernel
theorem dX11_listener_1 : decode cX11_listener 1 = .ok (.bipush 8, 2) := by decide +kernel
theorem dX11_listener_3 : decode cX11_listener 3 = .ok (.invokestatic 82, 3) := by decide +kernel
theorem dX11_listener_6 : decode cX11_listener 6 = .ok (.ifCond .eq 12, 3) := by decide +kernel
theorem dX11_listener_18 : decode cX11_listener 18 = .ok (.aload_n 0, 1) := by decide +kernel
theorem dX11_listener_19 : decode cX11_listener 19 = .ok (.iconst (-1), 1) := by decide +kernel
theorem dX11_listener_20 : decode cX11_listener 20 = .ok (.invokevirtual 91, 3) := by decide +kernel
theorem dX11_listener_23 : decode cX11_listener 23 = .ok (.ireturn, 1) := by decide +kernel
theorem dX11_listener_9 : decode cX11_listener 9 = .ok (.iload_n 2, 1) := by decide +kernel
theorem dX11_listener_10 : decode cX11_listener 10 = .ok (.bipush 21, 2) := by decide +kernel
theorem dX11_listener_12 : decode cX11_listener 12 = .ok (.invokestatic 82, 3) := by decide +kernel
theorem dX11_listener_15 : decode cX11_listener 15 = .ok (.ifCond .ne 9, 3) := by decide +kernel
theorem dX11_listener_24 : decode cX11_listener 24 = .ok (.aload_n 0, 1) := by decide +kernel
theorem dX11_listener_25 : decode cX11_listener 25 = .ok (.getfield 21, 3) := by decide +kernel
theorem dX11_listener_28 : decode cX11_listener 28 = .ok (.getfield 78, 3) := by decide +kernel
theorem dX11_listener_31 : decode cX11_listener 31 = .ok (.getfield 156, 3) := by decide +kernel
theorem dX11_listener_34 : decode cX11_listener 34 = .ok (.astore_n 3, 1) := by decide +kernel
theorem dX11_listener_35 : decode cX11_listener 35 = .ok (.aload_n 3, 1) := by decide +kernel
theorem dX11_listener_36 : decode cX11_listener 36 = .ok (.getfield 160, 3) := by decide +kernel
theorem fl_RX11_160 : Cond.fieldLink RX11 160 RX4 "listeners" "I" ∈ gW := gW_u tb_1 155 (by rfl) (by decide +kernel)
theorem dX11_listener_39 : decode cX11_listener 39 = .ok (.iconst 5, 1) := by decide +kernel
theorem dX11_listener_40 : decode cX11_listener 40 = .ok (.if_icmp .lt 10, 3) := by decide +kernel
theorem dX11_listener_50 : decode cX11_listener 50 = .ok (.aload_n 3, 1) := by decide +kernel
theorem dX11_listener_51 : decode cX11_listener 51 = .ok (.iload_n 1, 1) := by decide +kernel
theorem dX11_listener_52 : decode cX11_listener 52 = .ok (.iload_n 2, 1) := by decide +kernel
theorem dX11_listener_53 : decode cX11_listener 53 = .ok (.invokevirtual 165, 3) := by decide +kernel
theorem lk_RX11_165 : Cond.methodLink RX11 165 yX4_addListener ∈ gW := gW_u tb_3 130 (by rfl) (by decide +kernel)
theorem mI_X4_addListener : Cond.instanceMethod yX4_addListener ∈ gW := gW_u tb_3 131 (by rfl) (by decide +kernel)
theorem mS_X4_addListener : Cond.selects RX4 yX4_addListener yX4_addListener ∈ gW := gW_u tb_3 132 (by rfl) (by decide +kernel)
theorem mC_X4_addListener : Cond.code yX4_addListener cX4_addListener 3 none ∈ gW := gW_u tb_3 133 (by rfl) (by decide +kernel)
theorem ok_X4_addListener : okD yX4_addListener 2 := ⟨by decide +kernel, by decide +kernel, by decide +kernel⟩
theorem dX11_listener_56 : decode cX11_listener 56 = .ok (.aload_n 0, 1) := by decide +kernel
theorem dX11_listener_57 : decode cX11_listener 57 = .ok (.getfield 21, 3) := by decide +kernel
theorem dX11_listener_60 : decode cX11_listener 60 = .ok (.getfield 107, 3) := by decide +kernel
theorem dX11_listener_63 : decode cX11_listener 63 = .ok (.invokevirtual 111, 3) := by decide +kernel
theorem dX11_listener_66 : decode cX11_listener 66 = .ok (.aload_n 0, 1) := by decide +kernel
theorem dX11_listener_67 : decode cX11_listener 67 = .ok (.aload_n 3, 1) := by decide +kernel
theorem dX11_listener_68 : decode cX11_listener 68 = .ok (.getfield 160, 3) := by decide +kernel
theorem dX11_listener_71 : decode cX11_listener 71 = .ok (.iconst 1, 1) := by decide +kernel
theorem dX11_listener_72 : decode cX11_listener 72 = .ok (.isub, 1) := by decide +kernel
theorem dX11_listener_73 : decode cX11_listener 73 = .ok (.invokevirtual 91, 3) := by decide +kernel
theorem dX11_listener_76 : decode cX11_listener 76 = .ok (.ireturn, 1) := by decide +kernel
theorem dX11_listener_43 : decode cX11_listener 43 = .ok (.aload_n 0, 1) := by decide +kernel
theorem dX11_listener_44 : decode cX11_listener 44 = .ok (.bipush (-5), 2) := by decide +kernel
theorem dX11_listener_46 : decode cX11_listener 46 = .ok (.invokevirtual 91, 3) := by decide +kernel
theorem dX11_listener_49 : decode cX11_listener 49 = .ok (.ireturn, 1) := by decide +kernel
def yX11_noise : MethodName := ⟨RX11, "noise", "(II)I"⟩
abbrev cX11_noise : ByteArray := prog_1_method_7_code
theorem dX11_noise_0 : decode cX11_noise 0 = .ok (.iload_n 1, 1) := by decide +kernel
theorem dX11_noise_1 : decode cX11_noise 1 = .ok (.bipush 8, 2) := by decide +kernel
theorem dX11_noise_3 : decode cX11_noise 3 = .ok (.invokestatic 82, 3) := by decide +kernel
theorem dX11_noise_6 : decode cX11_noise 6 = .ok (.ifCond .eq 12, 3) := by decide +kernel
theorem dX11_noise_18 : decode cX11_noise 18 = .ok (.aload_n 0, 1) := by decide +kernel
theorem dX11_noise_19 : decode cX11_noise 19 = .ok (.iconst (-1), 1) := by decide +kernel
theorem dX11_noise_20 : decode cX11_noise 20 = .ok (.invokevirtual 91, 3) := by decide +kernel
theorem dX11_noise_23 : decode cX11_noise 23 = .ok (.ireturn, 1) := by decide +kernel
theorem dX11_noise_9 : decode cX11_noise 9 = .ok (.iload_n 2, 1) := by decide +kernel
theorem dX11_noise_10 : decode cX11_noise 10 = .ok (.bipush 21, 2) := by decide +kernel
theorem dX11_noise_12 : decode cX11_noise 12 = .ok (.invokestatic 82, 3) := by decide +kernel
theorem dX11_noise_15 : decode cX11_noise 15 = .ok (.ifCond .ne 9, 3) := by decide +kernel
theorem dX11_noise_24 : decode cX11_noise 24 = .ok (.aload_n 0, 1) := by decide +kernel
theorem dX11_noise_25 : decode cX11_noise 25 = .ok (.getfield 21, 3) := by decide +kernel
theorem dX11_noise_28 : decode cX11_noise 28 = .ok (.getfield 78, 3) := by decide +kernel
theorem dX11_noise_31 : decode cX11_noise 31 = .ok (.getfield 156, 3) := by decide +kernel
theorem dX11_noise_34 : decode cX11_noise 34 = .ok (.astore_n 3, 1) := by decide +kernel
theorem dX11_noise_35 : decode cX11_noise 35 = .ok (.aload_n 3, 1) := by decide +kernel
theorem dX11_noise_36 : decode cX11_noise 36 = .ok (.getfield 169, 3) := by decide +kernel
theorem fl_RX11_169 : Cond.fieldLink RX11 169 RX4 "noises" "I" ∈ gW := gW_u tb_1 167 (by rfl) (by decide +kernel)
theorem dX11_noise_39 : decode cX11_noise 39 = .ok (.bipush 6, 2) := by decide +kernel
theorem dX11_noise_41 : decode cX11_noise 41 = .ok (.if_icmp .lt 10, 3) := by decide +kernel
theorem dX11_noise_51 : decode cX11_noise 51 = .ok (.aload_n 3, 1) := by decide +kernel
theorem dX11_noise_52 : decode cX11_noise 52 = .ok (.iload_n 1, 1) := by decide +kernel
theorem dX11_noise_53 : decode cX11_noise 53 = .ok (.iload_n 2, 1) := by decide +kernel
theorem dX11_noise_54 : decode cX11_noise 54 = .ok (.invokevirtual 172, 3) := by decide +kernel
theorem lk_RX11_172 : Cond.methodLink RX11 172 yX4_addNoise ∈ gW := gW_u tb_3 138 (by rfl) (by decide +kernel)
theorem mI_X4_addNoise : Cond.instanceMethod yX4_addNoise ∈ gW := gW_u tb_3 139 (by rfl) (by decide +kernel)
theorem mS_X4_addNoise : Cond.selects RX4 yX4_addNoise yX4_addNoise ∈ gW := gW_u tb_3 140 (by rfl) (by decide +kernel)
theorem mC_X4_addNoise : Cond.code yX4_addNoise cX4_addNoise 3 none ∈ gW := gW_u tb_3 141 (by rfl) (by decide +kernel)
theorem ok_X4_addNoise : okD yX4_addNoise 2 := ⟨by decide +kernel, by decide +kernel, by decide +kernel⟩
theorem dX11_noise_57 : decode cX11_noise 57 = .ok (.aload_n 0, 1) := by decide +kernel
theorem dX11_noise_58 : decode cX11_noise 58 = .ok (.getfield 21, 3) := by decide +kernel
theorem dX11_noise_61 : decode cX11_noise 61 = .ok (.getfield 107, 3) := by decide +kernel
theorem dX11_noise_64 : decode cX11_noise 64 = .ok (.invokevirtual 111, 3) := by decide +kernel
theorem dX11_noise_67 : decode cX11_noise 67 = .ok (.aload_n 0, 1) := by decide +kernel
theorem dX11_noise_68 : decode cX11_noise 68 = .ok (.aload_n 3, 1) := by decide +kernel
theorem dX11_noise_69 : decode cX11_noise 69 = .ok (.getfield 169, 3) := by decide +kernel
theorem dX11_noise_72 : decode cX11_noise 72 = .ok (.iconst 1, 1) := by decide +kernel
theorem dX11_noise_73 : decode cX11_noise 73 = .ok (.isub, 1) := by decide +kernel
theorem dX11_noise_74 : decode cX11_noise 74 = .ok (.invokevirtual 91, 3) := by decide +kernel
theorem dX11_noise_77 : decode cX11_noise 77 = .ok (.ireturn, 1) := by decide +kernel
theorem dX11_noise_44 : decode cX11_noise 44 = .ok (.aload_n 0, 1) := by decide +kernel
theorem dX11_noise_45 : decode cX11_noise 45 = .ok (.bipush (-5), 2) := by decide +kernel
theorem dX11_noise_47 : decode cX11_noise 47 = .ok (.invokevirtual 91, 3) := by decide +kernel
theorem dX11_noise_50 : decode cX11_noise 50 = .ok (.ireturn, 1) := by decide +kernel
def yX11_who : MethodName := ⟨RX11, "who", "(II)I"⟩
abbrev cX11_who : ByteArray := prog_1_method_8_code
theorem dX11_who_0 : decode cX11_who 0 = .ok (.aload_n 0, 1) := by decide +kernel
theorem dX11_who_1 : decode cX11_who 1 = .ok (.getfield 21, 3) := by decide +kernel
theorem dX11_who_4 : decode cX11_who 4 = .ok (.getfield 78, 3) := by decide +kernel
theorem dX11_who_7 : decode cX11_who 7 = .ok (.getfield 156, 3) := by decide +kernel
theorem dX11_who_10 : decode cX11_who 10 = .ok (.astore_n 3, 1) := by decide +kernel
theorem dX11_who_11 : decode cX11_who 11 = .ok (.iload_n 2, 1) := by decide +kernel
theorem dX11_who_12 : decode cX11_who 12 = .ok (.ifCond .eq 8, 3) := by decide +kernel
theorem dX11_who_20 : decode cX11_who 20 = .ok (.iconst 1, 1) := by decide +kernel
theorem dX11_who_21 : decode cX11_who 21 = .ok (.goto 4, 3) := by decide +kernel
theorem dX11_who_15 : decode cX11_who 15 = .ok (.iload_n 2, 1) := by decide +kernel
theorem dX11_who_16 : decode cX11_who 16 = .ok (.iconst 1, 1) := by decide +kernel
theorem dX11_who_17 : decode cX11_who 17 = .ok (.if_icmp .ne 7, 3) := by decide +kernel
theorem dX11_who_24 : decode cX11_who 24 = .ok (.iconst 0, 1) := by decide +kernel
theorem dX11_who_25 : decode cX11_who 25 = .ok (.istore 4, 2) := by decide +kernel
theorem dX11_who_27 : decode cX11_who 27 = .ok (.iload_n 1, 1) := by decide +kernel
theorem dX11_who_28 : decode cX11_who 28 = .ok (.iload 4, 2) := by decide +kernel
theorem dX11_who_30 : decode cX11_who 30 = .ok (.ifCond .eq 10, 3) := by decide +kernel
theorem dX11_who_40 : decode cX11_who 40 = .ok (.aload_n 3, 1) := by decide +kernel
theorem dX11_who_41 : decode cX11_who 41 = .ok (.getfield 169, 3) := by decide +kernel
theorem dX11_who_33 : decode cX11_who 33 = .ok (.aload_n 3, 1) := by decide +kernel
theorem dX11_who_34 : decode cX11_who 34 = .ok (.getfield 160, 3) := by decide +kernel
theorem dX11_who_37 : decode cX11_who 37 = .ok (.goto 7, 3) := by decide +kernel
theorem dX11_who_44 : decode cX11_who 44 = .ok (.invokestatic 82, 3) := by decide +kernel
theorem dX11_who_47 : decode cX11_who 47 = .ok (.ifCond .ne 5, 3) := by decide +kernel
theorem dX11_who_52 : decode cX11_who 52 = .ok (.iload_n 2, 1) := by decide +kernel
theorem dX11_who_53 : decode cX11_who 53 = .ok (.tableswitch 72 0 4 #[35, 42, 49, 56, 63], 35) := by decide +kernel
theorem dX11_who_88 : decode cX11_who 88 = .ok (.aload_n 3, 1) := by decide +kernel
theorem dX11_who_89 : decode cX11_who 89 = .ok (.getfield 175, 3) := by decide +kernel
theorem fl_RX11_175 : Cond.fieldLink RX11 175 RX4 "column" "[I" ∈ gW := gW_u tb_1 149 (by rfl) (by decide +kernel)
theorem dX11_who_92 : decode cX11_who 92 = .ok (.iload_n 1, 1) := by decide +kernel
theorem dX11_who_93 : decode cX11_who 93 = .ok (.iaload, 1) := by decide +kernel
theorem dX11_who_94 : decode cX11_who 94 = .ok (.ireturn, 1) := by decide +kernel
theorem dX11_who_95 : decode cX11_who 95 = .ok (.aload_n 3, 1) := by decide +kernel
theorem dX11_who_96 : decode cX11_who 96 = .ok (.getfield 178, 3) := by decide +kernel
theorem fl_RX11_178 : Cond.fieldLink RX11 178 RX4 "ear" "[I" ∈ gW := gW_u tb_1 153 (by rfl) (by decide +kernel)
theorem dX11_who_99 : decode cX11_who 99 = .ok (.iload_n 1, 1) := by decide +kernel
theorem dX11_who_100 : decode cX11_who 100 = .ok (.iaload, 1) := by decide +kernel
theorem dX11_who_101 : decode cX11_who 101 = .ok (.ireturn, 1) := by decide +kernel
theorem dX11_who_102 : decode cX11_who 102 = .ok (.aload_n 3, 1) := by decide +kernel
theorem dX11_who_103 : decode cX11_who 103 = .ok (.getfield 181, 3) := by decide +kernel
theorem fl_RX11_181 : Cond.fieldLink RX11 181 RX4 "noiseColumn" "[I" ∈ gW := gW_u tb_1 161 (by rfl) (by decide +kernel)
theorem dX11_who_106 : decode cX11_who 106 = .ok (.iload_n 1, 1) := by decide +kernel
theorem dX11_who_107 : decode cX11_who 107 = .ok (.iaload, 1) := by decide +kernel
theorem dX11_who_108 : decode cX11_who 108 = .ok (.ireturn, 1) := by decide +kernel
theorem dX11_who_109 : decode cX11_who 109 = .ok (.aload_n 3, 1) := by decide +kernel
theorem dX11_who_110 : decode cX11_who 110 = .ok (.getfield 184, 3) := by decide +kernel
theorem fl_RX11_184 : Cond.fieldLink RX11 184 RX4 "noiseLoud" "[I" ∈ gW := gW_u tb_1 163 (by rfl) (by decide +kernel)
theorem dX11_who_113 : decode cX11_who 113 = .ok (.iload_n 1, 1) := by decide +kernel
theorem dX11_who_114 : decode cX11_who 114 = .ok (.iaload, 1) := by decide +kernel
theorem dX11_who_115 : decode cX11_who 115 = .ok (.ireturn, 1) := by decide +kernel
theorem dX11_who_116 : decode cX11_who 116 = .ok (.aload_n 3, 1) := by decide +kernel
theorem dX11_who_117 : decode cX11_who 117 = .ok (.getfield 187, 3) := by decide +kernel
theorem fl_RX11_187 : Cond.fieldLink RX11 187 RX4 "hushed" "I" ∈ gW := gW_u tb_1 171 (by rfl) (by decide +kernel)
theorem dX11_who_120 : decode cX11_who 120 = .ok (.iload_n 1, 1) := by decide +kernel
theorem dX11_who_121 : decode cX11_who 121 = .ok (.ishr, 1) := by decide +kernel
theorem dX11_who_122 : decode cX11_who 122 = .ok (.iconst 1, 1) := by decide +kernel
theorem dX11_who_123 : decode cX11_who 123 = .ok (.iand, 1) := by decide +kernel
theorem dX11_who_124 : decode cX11_who 124 = .ok (.ireturn, 1) := by decide +kernel
theorem dX11_who_125 : decode cX11_who 125 = .ok (.iconst (-1), 1) := by decide +kernel
theorem dX11_who_126 : decode cX11_who 126 = .ok (.ireturn, 1) := by decide +kernel
theorem dX11_who_50 : decode cX11_who 50 = .ok (.iconst (-1), 1) := by decide +kernel
theorem dX11_who_51 : decode cX11_who 51 = .ok (.ireturn, 1) := by decide +kernel
def yX11_feed : MethodName := ⟨RX11, "feed", "(IIIII)I"⟩
abbrev cX11_feed : ByteArray := prog_1_method_10_code
theorem dX11_feed_0 : decode cX11_feed 0 = .ok (.aload_n 0, 1) := by decide +kernel
theorem dX11_feed_1 : decode cX11_feed 1 = .ok (.getfield 42, 3) := by decide +kernel
theorem fl_RX11_42 : Cond.fieldLink RX11 42 RX11 "reader" "LListenWells$Reader;" ∈ gW := gW_u tb_2 211 (by rfl) (by decide +kernel)
theorem dX11_feed_4 : decode cX11_feed 4 = .ok (.getfield 196, 3) := by decide +kernel
theorem fl_RX11_196 : Cond.fieldLink RX11 196 RX5 "length" "I" ∈ gW := gW_u tb_2 109 (by rfl) (by decide +kernel)
theorem dX11_feed_7 : decode cX11_feed 7 = .ok (.bipush 20, 2) := by decide +kernel
theorem dX11_feed_9 : decode cX11_feed 9 = .ok (.iadd, 1) := by decide +kernel
theorem dX11_feed_10 : decode cX11_feed 10 = .ok (.sipush 400, 3) := by decide +kernel
theorem dX11_feed_13 : decode cX11_feed 13 = .ok (.if_icmp .le 5, 3) := by decide +kernel
theorem dX11_feed_18 : decode cX11_feed 18 = .ok (.aload_n 0, 1) := by decide +kernel
theorem dX11_feed_19 : decode cX11_feed 19 = .ok (.getfield 42, 3) := by decide +kernel
theorem dX11_feed_22 : decode cX11_feed 22 = .ok (.iload_n 1, 1) := by decide +kernel
theorem dX11_feed_23 : decode cX11_feed 23 = .ok (.invokevirtual 199, 3) := by decide +kernel
theorem lk_RX11_199 : Cond.methodLink RX11 199 yX5_addFour ∈ gW := gW_u tb_3 157 (by rfl) (by decide +kernel)
theorem mI_X5_addFour : Cond.instanceMethod yX5_addFour ∈ gW := gW_u tb_3 158 (by rfl) (by decide +kernel)
theorem mS_X5_addFour : Cond.selects RX5 yX5_addFour yX5_addFour ∈ gW := gW_u tb_3 159 (by rfl) (by decide +kernel)
theorem mN_RX5 : Cond.initialized RX5 ∈ gW := gW_u tb_1 10 (by rfl) (by decide +kernel)
theorem mC_X5_addFour : Cond.code yX5_addFour cX5_addFour 3 none ∈ gW := gW_u tb_3 160 (by rfl) (by decide +kernel)
theorem ok_X5_addFour : okD yX5_addFour 1 := ⟨by decide +kernel, by decide +kernel, by decide +kernel⟩
theorem dX11_feed_26 : decode cX11_feed 26 = .ok (.aload_n 0, 1) := by decide +kernel
theorem dX11_feed_27 : decode cX11_feed 27 = .ok (.getfield 42, 3) := by decide +kernel
theorem dX11_feed_30 : decode cX11_feed 30 = .ok (.iload_n 2, 1) := by decide +kernel
theorem dX11_feed_31 : decode cX11_feed 31 = .ok (.invokevirtual 199, 3) := by decide +kernel
theorem dX11_feed_34 : decode cX11_feed 34 = .ok (.aload_n 0, 1) := by decide +kernel
theorem dX11_feed_35 : decode cX11_feed 35 = .ok (.getfield 42, 3) := by decide +kernel
theorem dX11_feed_38 : decode cX11_feed 38 = .ok (.iload_n 3, 1) := by decide +kernel
theorem dX11_feed_39 : decode cX11_feed 39 = .ok (.invokevirtual 199, 3) := by decide +kernel
theorem dX11_feed_42 : decode cX11_feed 42 = .ok (.aload_n 0, 1) := by decide +kernel
theorem dX11_feed_43 : decode cX11_feed 43 = .ok (.getfield 42, 3) := by decide +kernel
theorem dX11_feed_46 : decode cX11_feed 46 = .ok (.iload 4, 2) := by decide +kernel
theorem dX11_feed_48 : decode cX11_feed 48 = .ok (.invokevirtual 199, 3) := by decide +kernel
theorem dX11_feed_51 : decode cX11_feed 51 = .ok (.aload_n 0, 1) := by decide +kernel
theorem dX11_feed_52 : decode cX11_feed 52 = .ok (.getfield 42, 3) := by decide +kernel
theorem dX11_feed_55 : decode cX11_feed 55 = .ok (.iload 5, 2) := by decide +kernel
theorem dX11_feed_57 : decode cX11_feed 57 = .ok (.invokevirtual 199, 3) := by decide +kernel
theorem dX11_feed_60 : decode cX11_feed 60 = .ok (.aload_n 0, 1) := by decide +kernel
theorem dX11_feed_61 : decode cX11_feed 61 = .ok (.getfield 42, 3) := by decide +kernel
theorem dX11_feed_64 : decode cX11_feed 64 = .ok (.getfield 196, 3) := by decide +kernel
theorem dX11_feed_67 : decode cX11_feed 67 = .ok (.ireturn, 1) := by decide +kernel
theorem dX11_feed_16 : decode cX11_feed 16 = .ok (.iconst (-1), 1) := by decide +kernel
theorem dX11_feed_17 : decode cX11_feed 17 = .ok (.ireturn, 1) := by decide +kernel
def yX11_end : MethodName := ⟨RX11, "end", "(I)I"⟩
abbrev cX11_end : ByteArray := prog_1_method_11_code
theorem dX11_end_0 : decode cX11_end 0 = .ok (.iload_n 1, 1) := by decide +kernel
theorem dX11_end_1 : decode cX11_end 1 = .ok (.ifCond .lt 14, 3) := by decide +kernel
theorem dX11_end_15 : decode cX11_end 15 = .ok (.iconst (-1), 1) := by decide +kernel
theorem dX11_end_16 : decode cX11_end 16 = .ok (.ireturn, 1) := by decide +kernel
theorem dX11_end_4 : decode cX11_end 4 = .ok (.iload_n 1, 1) := by decide +kernel
theorem dX11_end_5 : decode cX11_end 5 = .ok (.aload_n 0, 1) := by decide +kernel
theorem dX11_end_6 : decode cX11_end 6 = .ok (.getfield 42, 3) := by decide +kernel
theorem dX11_end_9 : decode cX11_end 9 = .ok (.getfield 196, 3) := by decide +kernel
theorem dX11_end_12 : decode cX11_end 12 = .ok (.if_icmp .le 5, 3) := by decide +kernel
theorem dX11_end_17 : decode cX11_end 17 = .ok (.aload_n 0, 1) := by decide +kernel
theorem dX11_end_18 : decode cX11_end 18 = .ok (.getfield 42, 3) := by decide +kernel
theorem dX11_end_21 : decode cX11_end 21 = .ok (.iload_n 1, 1) := by decide +kernel
theorem dX11_end_22 : decode cX11_end 22 = .ok (.putfield 196, 3) := by decide +kernel
theorem dX11_end_25 : decode cX11_end 25 = .ok (.iload_n 1, 1) := by decide +kernel
theorem dX11_end_26 : decode cX11_end 26 = .ok (.ireturn, 1) := by decide +kernel
def yX11_row : MethodName := ⟨RX11, "row", "()I"⟩
abbrev cX11_row : ByteArray := prog_1_method_12_code
theorem dX11_row_0 : decode cX11_row 0 = .ok (.aload_n 0, 1) := by decide +kernel
theorem dX11_row_1 : decode cX11_row 1 = .ok (.getfield 42, 3) := by decide +kernel
theorem dX11_row_4 : decode cX11_row 4 = .ok (.getfield 196, 3) := by decide +kernel
theorem dX11_row_7 : decode cX11_row 7 = .ok (.ifCond .ne 10, 3) := by decide +kernel
theorem dX11_row_17 : decode cX11_row 17 = .ok (.aload_n 0, 1) := by decide +kernel
theorem dX11_row_18 : decode cX11_row 18 = .ok (.getfield 42, 3) := by decide +kernel
theorem dX11_row_21 : decode cX11_row 21 = .ok (.getfield 196, 3) := by decide +kernel
theorem dX11_row_24 : decode cX11_row 24 = .ok (.iconst 2, 1) := by decide +kernel
theorem dX11_row_25 : decode cX11_row 25 = .ok (.iadd, 1) := by decide +kernel
theorem dX11_row_26 : decode cX11_row 26 = .ok (.iconst 3, 1) := by decide +kernel
theorem dX11_row_27 : decode cX11_row 27 = .ok (.idiv, 1) := by decide +kernel
theorem dX11_row_28 : decode cX11_row 28 = .ok (.istore_n 1, 1) := by decide +kernel
theorem dX11_row_29 : decode cX11_row 29 = .ok (.iconst 0, 1) := by decide +kernel
theorem dX11_row_30 : decode cX11_row 30 = .ok (.istore_n 2, 1) := by decide +kernel
theorem dX11_row_31 : decode cX11_row 31 = .ok (.iconst 0, 1) := by decide +kernel
theorem dX11_row_32 : decode cX11_row 32 = .ok (.istore_n 3, 1) := by decide +kernel
theorem dX11_row_33 : decode cX11_row 33 = .ok (.iload_n 3, 1) := by decide +kernel
theorem dX11_row_34 : decode cX11_row 34 = .ok (.iload_n 1, 1) := by decide +kernel
theorem dX11_row_35 : decode cX11_row 35 = .ok (.if_icmp .ge 33, 3) := by decide +kernel
theorem dX11_row_38 : decode cX11_row 38 = .ok (.aload_n 0, 1) := by decide +kernel
theorem dX11_row_39 : decode cX11_row 39 = .ok (.getfield 42, 3) := by decide +kernel
theorem dX11_row_42 : decode cX11_row 42 = .ok (.aload_n 0, 1) := by decide +kernel
theorem dX11_row_43 : decode cX11_row 43 = .ok (.getfield 21, 3) := by decide +kernel
theorem dX11_row_46 : decode cX11_row 46 = .ok (.getfield 78, 3) := by decide +kernel
theorem dX11_row_49 : decode cX11_row 49 = .ok (.getfield 95, 3) := by decide +kernel
theorem dX11_row_52 : decode cX11_row 52 = .ok (.iload_n 3, 1) := by decide +kernel
theorem dX11_row_53 : decode cX11_row 53 = .ok (.invokevirtual 202, 3) := by decide +kernel
theorem lk_RX11_202 : Cond.methodLink RX11 202 yX5_tellCell ∈ gW := gW_u tb_3 169 (by rfl) (by decide +kernel)
theorem mI_X5_tellCell : Cond.instanceMethod yX5_tellCell ∈ gW := gW_u tb_3 170 (by rfl) (by decide +kernel)
theorem mS_X5_tellCell : Cond.selects RX5 yX5_tellCell yX5_tellCell ∈ gW := gW_u tb_3 171 (by rfl) (by decide +kernel)
theorem mC_X5_tellCell : Cond.code yX5_tellCell cX5_tellCell 7 (some .boolean) ∈ gW := gW_u tb_3 172 (by rfl) (by decide +kernel)
theorem ok_X5_tellCell : okD yX5_tellCell 2 := ⟨by decide +kernel, by decide +kernel, by decide +kernel⟩
theorem dX11_row_56 : decode cX11_row 56 = .ok (.ifCond .eq 6, 3) := by decide +kernel
theorem dX11_row_62 : decode cX11_row 62 = .ok (.iinc 3 1, 3) := by decide +kernel
theorem dX11_row_65 : decode cX11_row 65 = .ok (.goto (-32), 3) := by decide +kernel
theorem dX11_row_59 : decode cX11_row 59 = .ok (.iinc 2 1, 3) := by decide +kernel
theorem dX11_row_68 : decode cX11_row 68 = .ok (.aload_n 0, 1) := by decide +kernel
theorem dX11_row_69 : decode cX11_row 69 = .ok (.iload_n 1, 1) := by decide +kernel
theorem dX11_row_70 : decode cX11_row 70 = .ok (.iload_n 2, 1) := by decide +kernel
theorem dX11_row_71 : decode cX11_row 71 = .ok (.isub, 1) := by decide +kernel
theorem dX11_row_72 : decode cX11_row 72 = .ok (.putfield 206, 3) := by decide +kernel
theorem fl_RX11_206 : Cond.fieldLink RX11 206 RX11 "latestMud" "I" ∈ gW := gW_u tb_2 216 (by rfl) (by decide +kernel)
theorem dX11_row_75 : decode cX11_row 75 = .ok (.aload_n 0, 1) := by decide +kernel
theorem dX11_row_76 : decode cX11_row 76 = .ok (.getfield 42, 3) := by decide +kernel
theorem dX11_row_79 : decode cX11_row 79 = .ok (.iconst 0, 1) := by decide +kernel
theorem dX11_row_80 : decode cX11_row 80 = .ok (.putfield 196, 3) := by decide +kernel
theorem dX11_row_83 : decode cX11_row 83 = .ok (.aload_n 0, 1) := by decide +kernel
theorem dX11_row_84 : decode cX11_row 84 = .ok (.getfield 21, 3) := by decide +kernel
theorem dX11_row_87 : decode cX11_row 87 = .ok (.getfield 107, 3) := by decide +kernel
theorem dX11_row_90 : decode cX11_row 90 = .ok (.invokevirtual 111, 3) := by decide +kernel
theorem dX11_row_93 : decode cX11_row 93 = .ok (.aload_n 0, 1) := by decide +kernel
theorem dX11_row_94 : decode cX11_row 94 = .ok (.iload_n 2, 1) := by decide +kernel
theorem dX11_row_95 : decode cX11_row 95 = .ok (.invokevirtual 91, 3) := by decide +kernel
theorem dX11_row_98 : decode cX11_row 98 = .ok (.ireturn, 1) := by decide +kernel
theorem dX11_row_10 : decode cX11_row 10 = .ok (.aload_n 0, 1) := by decide +kernel
theorem dX11_row_11 : decode cX11_row 11 = .ok (.bipush (-6), 2) := by decide +kernel
theorem dX11_row_13 : decode cX11_row 13 = .ok (.invokevirtual 91, 3) := by decide +kernel
theorem dX11_row_16 : decode cX11_row 16 = .ok (.ireturn, 1) := by decide +kernel
def yX11_mud : MethodName := ⟨RX11, "mud", "()I"⟩
abbrev cX11_mud : ByteArray := prog_1_method_13_code
theorem dX11_mud_0 : decode cX11_mud 0 = .ok (.aload_n 0, 1) := by decide +kernel
theorem dX11_mud_1 : decode cX11_mud 1 = .ok (.getfield 206, 3) := by decide +kernel
theorem dX11_mud_4 : decode cX11_mud 4 = .ok (.ireturn, 1) := by decide +kernel
def yX11_fault : MethodName := ⟨RX11, "fault", "()I"⟩
abbrev cX11_fault : ByteArray := prog_1_method_16_code
theorem dX11_fault_0 : decode cX11_fault 0 = .ok (.aload_n 0, 1) := by decide +kernel
theorem dX11_fault_1 : decode cX11_fault 1 = .ok (.getfield 42, 3) := by decide +kernel
theorem dX11_fault_4 : decode cX11_fault 4 = .ok (.getfield 240, 3) := by decide +kernel
theorem fl_RX11_240 : Cond.fieldLink RX11 240 RX5 "faultPlace" "I" ∈ gW := gW_u tb_2 117 (by rfl) (by decide +kernel)
theorem dX11_fault_7 : decode cX11_fault 7 = .ok (.ireturn, 1) := by decide +kernel
def yX11_stopped : MethodName := ⟨RX11, "stopped", "()I"⟩
abbrev cX11_stopped : ByteArray := prog_1_method_17_code
theorem dX11_stopped_0 : decode cX11_stopped 0 = .ok (.aload_n 0, 1) := by decide +kernel
theorem dX11_stopped_1 : decode cX11_stopped 1 = .ok (.getfield 71, 3) := by decide +kernel
theorem fl_RX11_71 : Cond.fieldLink RX11 71 RX11 "stoppedAt" "I" ∈ gW := gW_u tb_2 217 (by rfl) (by decide +kernel)
theorem dX11_stopped_4 : decode cX11_stopped 4 = .ok (.ireturn, 1) := by decide +kernel
def yX11_force : MethodName := ⟨RX11, "force", "(I)I"⟩
abbrev cX11_force : ByteArray := prog_1_method_18_code
theorem dX11_force_0 : decode cX11_force 0 = .ok (.aload_n 0, 1) := by decide +kernel
theorem dX11_force_1 : decode cX11_force 1 = .ok (.getfield 21, 3) := by decide +kernel
theorem dX11_force_4 : decode cX11_force 4 = .ok (.getfield 78, 3) := by decide +kernel
theorem dX11_force_7 : decode cX11_force 7 = .ok (.astore_n 2, 1) := by decide +kernel
theorem dX11_force_8 : decode cX11_force 8 = .ok (.aload_n 2, 1) := by decide +kernel
theorem dX11_force_9 : decode cX11_force 9 = .ok (.iload_n 1, 1) := by decide +kernel
theorem dX11_force_10 : decode cX11_force 10 = .ok (.invokevirtual 243, 3) := by decide +kernel
theorem lk_RX11_243 : Cond.methodLink RX11 243 yX10_hasLaw ∈ gW := gW_u tb_4 233 (by rfl) (by decide +kernel)
theorem mI_X10_hasLaw : Cond.instanceMethod yX10_hasLaw ∈ gW := gW_u tb_4 234 (by rfl) (by decide +kernel)
theorem mS_X10_hasLaw : Cond.selects RX10 yX10_hasLaw yX10_hasLaw ∈ gW := gW_u tb_4 235 (by rfl) (by decide +kernel)
theorem mC_X10_hasLaw : Cond.code yX10_hasLaw cX10_hasLaw 2 (some .boolean) ∈ gW := gW_u tb_4 236 (by rfl) (by decide +kernel)
theorem ok_X10_hasLaw : okD yX10_hasLaw 1 := ⟨by decide +kernel, by decide +kernel, by decide +kernel⟩
theorem dX11_force_13 : decode cX11_force 13 = .ok (.ifCond .ne 10, 3) := by decide +kernel
theorem dX11_force_23 : decode cX11_force 23 = .ok (.aload_n 2, 1) := by decide +kernel
theorem dX11_force_24 : decode cX11_force 24 = .ok (.getfield 246, 3) := by decide +kernel
theorem fl_RX11_246 : Cond.fieldLink RX11 246 RX10 "force" "I" ∈ gW := gW_u tb_1 237 (by rfl) (by decide +kernel)
theorem dX11_force_27 : decode cX11_force 27 = .ok (.istore_n 3, 1) := by decide +kernel
theorem dX11_force_28 : decode cX11_force 28 = .ok (.aload_n 2, 1) := by decide +kernel
theorem dX11_force_29 : decode cX11_force 29 = .ok (.iload_n 1, 1) := by decide +kernel
theorem dX11_force_30 : decode cX11_force 30 = .ok (.putfield 246, 3) := by decide +kernel
theorem dX11_force_33 : decode cX11_force 33 = .ok (.aload_n 0, 1) := by decide +kernel
theorem dX11_force_34 : decode cX11_force 34 = .ok (.iconst 0, 1) := by decide +kernel
theorem dX11_force_35 : decode cX11_force 35 = .ok (.putfield 249, 3) := by decide +kernel
theorem dX11_force_38 : decode cX11_force 38 = .ok (.iload_n 3, 1) := by decide +kernel
theorem dX11_force_39 : decode cX11_force 39 = .ok (.ireturn, 1) := by decide +kernel
theorem dX11_force_16 : decode cX11_force 16 = .ok (.aload_n 0, 1) := by decide +kernel
theorem dX11_force_17 : decode cX11_force 17 = .ok (.bipush (-2), 2) := by decide +kernel
theorem dX11_force_19 : decode cX11_force 19 = .ok (.invokevirtual 91, 3) := by decide +kernel
theorem dX11_force_22 : decode cX11_force 22 = .ok (.ireturn, 1) := by decide +kernel
def yX11_din : MethodName := ⟨RX11, "din", "(I)I"⟩
abbrev cX11_din : ByteArray := prog_1_method_21_code
theorem dX11_din_0 : decode cX11_din 0 = .ok (.iload_n 1, 1) := by decide +kernel
theorem dX11_din_1 : decode cX11_din 1 = .ok (.bipush 8, 2) := by decide +kernel
theorem dX11_din_3 : decode cX11_din 3 = .ok (.invokestatic 82, 3) := by decide +kernel
theorem dX11_din_6 : decode cX11_din 6 = .ok (.ifCond .eq 21, 3) := by decide +kernel
theorem dX11_din_27 : decode cX11_din 27 = .ok (.iconst (-1), 1) := by decide +kernel
theorem dX11_din_28 : decode cX11_din 28 = .ok (.ireturn, 1) := by decide +kernel
theorem dX11_din_9 : decode cX11_din 9 = .ok (.aload_n 0, 1) := by decide +kernel
theorem dX11_din_10 : decode cX11_din 10 = .ok (.getfield 21, 3) := by decide +kernel
theorem dX11_din_13 : decode cX11_din 13 = .ok (.getfield 78, 3) := by decide +kernel
theorem dX11_din_16 : decode cX11_din 16 = .ok (.getfield 156, 3) := by decide +kernel
theorem dX11_din_19 : decode cX11_din 19 = .ok (.iload_n 1, 1) := by decide +kernel
theorem dX11_din_20 : decode cX11_din 20 = .ok (.iconst 0, 1) := by decide +kernel
theorem dX11_din_21 : decode cX11_din 21 = .ok (.invokevirtual 265, 3) := by decide +kernel
theorem lk_RX11_265 : Cond.methodLink RX11 265 yX4_noiseIn ∈ gW := gW_u tb_5 17 (by rfl) (by decide +kernel)
theorem dX11_din_24 : decode cX11_din 24 = .ok (.goto 4, 3) := by decide +kernel
def yX11_hush : MethodName := ⟨RX11, "hush", "(I)I"⟩
abbrev cX11_hush : ByteArray := prog_1_method_25_code
theorem dX11_hush_0 : decode cX11_hush 0 = .ok (.aload_n 0, 1) := by decide +kernel
theorem dX11_hush_1 : decode cX11_hush 1 = .ok (.aload_n 0, 1) := by decide +kernel
theorem dX11_hush_2 : decode cX11_hush 2 = .ok (.getfield 21, 3) := by decide +kernel
theorem dX11_hush_5 : decode cX11_hush 5 = .ok (.iload_n 1, 1) := by decide +kernel
theorem dX11_hush_6 : decode cX11_hush 6 = .ok (.invokevirtual 283, 3) := by decide +kernel
theorem lk_RX11_283 : Cond.methodLink RX11 283 yX7_tryHush ∈ gW := gW_u tb_5 58 (by rfl) (by decide +kernel)
theorem mI_X7_tryHush : Cond.instanceMethod yX7_tryHush ∈ gW := gW_u tb_4 163 (by rfl) (by decide +kernel)
theorem mS_X7_tryHush : Cond.selects RX7 yX7_tryHush yX7_tryHush ∈ gW := gW_u tb_4 164 (by rfl) (by decide +kernel)
theorem mN_RX7 : Cond.initialized RX7 ∈ gW := gW_u tb_1 3 (by rfl) (by decide +kernel)
theorem mC_X7_tryHush : Cond.code yX7_tryHush cX7_tryHush 3 (some .int) ∈ gW := gW_u tb_4 165 (by rfl) (by decide +kernel)
theorem ok_X7_tryHush : okD yX7_tryHush 1 := ⟨by decide +kernel, by decide +kernel, by decide +kernel⟩
theorem dX11_hush_9 : decode cX11_hush 9 = .ok (.invokevirtual 91, 3) := by decide +kernel
theorem dX11_hush_12 : decode cX11_hush 12 = .ok (.ireturn, 1) := by decide +kernel
