def yX11_isWithin : MethodName := ⟨RX11, "isWithin", "(II)Z"⟩
abbrev cX11_isWithin : ByteArray := prog_1_method_48_code
theorem dX11_isWithin_0 : decode cX11_isWithin 0 = .ok (.iload_n 0, 1) := by decide +kernel
theorem dX11_isWithin_1 : decode cX11_isWithin 1 = .ok (.ifCond .lt 12, 3) := by decide +kernel
theorem dX11_isWithin_13 : decode cX11_isWithin 13 = .ok (.iconst 0, 1) := by decide +kernel
theorem dX11_isWithin_14 : decode cX11_isWithin 14 = .ok (.ireturn, 1) := by decide +kernel
theorem dX11_isWithin_4 : decode cX11_isWithin 4 = .ok (.iload_n 0, 1) := by decide +kernel
theorem dX11_isWithin_5 : decode cX11_isWithin 5 = .ok (.iload_n 1, 1) := by decide +kernel
theorem dX11_isWithin_6 : decode cX11_isWithin 6 = .ok (.if_icmp .ge 7, 3) := by decide +kernel
theorem dX11_isWithin_9 : decode cX11_isWithin 9 = .ok (.iconst 1, 1) := by decide +kernel
theorem dX11_isWithin_10 : decode cX11_isWithin 10 = .ok (.goto 4, 3) := by decide +kernel
def yX6_canBe : MethodName := ⟨RX6, "canBe", "(II)Z"⟩
abbrev cX6_canBe : ByteArray := prog_8_method_2_code
theorem dX6_canBe_0 : decode cX6_canBe 0 = .ok (.iload_n 0, 1) := by decide +kernel
theorem dX6_canBe_1 : decode cX6_canBe 1 = .ok (.tableswitch 75 0 2 #[27, 42, 59], 27) := by decide +kernel
theorem dX6_canBe_28 : decode cX6_canBe 28 = .ok (.iload_n 1, 1) := by decide +kernel
theorem dX6_canBe_29 : decode cX6_canBe 29 = .ok (.ifCond .lt 12, 3) := by decide +kernel
theorem dX6_canBe_41 : decode cX6_canBe 41 = .ok (.iconst 0, 1) := by decide +kernel
theorem dX6_canBe_42 : decode cX6_canBe 42 = .ok (.ireturn, 1) := by decide +kernel
theorem dX6_canBe_32 : decode cX6_canBe 32 = .ok (.iload_n 1, 1) := by decide +kernel
theorem dX6_canBe_33 : decode cX6_canBe 33 = .ok (.iconst 3, 1) := by decide +kernel
theorem dX6_canBe_34 : decode cX6_canBe 34 = .ok (.if_icmp .gt 7, 3) := by decide +kernel
theorem dX6_canBe_37 : decode cX6_canBe 37 = .ok (.iconst 1, 1) := by decide +kernel
theorem dX6_canBe_38 : decode cX6_canBe 38 = .ok (.goto 4, 3) := by decide +kernel
theorem dX6_canBe_43 : decode cX6_canBe 43 = .ok (.iload_n 1, 1) := by decide +kernel
theorem dX6_canBe_44 : decode cX6_canBe 44 = .ok (.iconst 1, 1) := by decide +kernel
theorem dX6_canBe_45 : decode cX6_canBe 45 = .ok (.if_icmp .lt 13, 3) := by decide +kernel
theorem dX6_canBe_58 : decode cX6_canBe 58 = .ok (.iconst 0, 1) := by decide +kernel
theorem dX6_canBe_59 : decode cX6_canBe 59 = .ok (.ireturn, 1) := by decide +kernel
theorem dX6_canBe_48 : decode cX6_canBe 48 = .ok (.iload_n 1, 1) := by decide +kernel
theorem dX6_canBe_49 : decode cX6_canBe 49 = .ok (.bipush 9, 2) := by decide +kernel
theorem dX6_canBe_51 : decode cX6_canBe 51 = .ok (.if_icmp .gt 7, 3) := by decide +kernel
theorem dX6_canBe_54 : decode cX6_canBe 54 = .ok (.iconst 1, 1) := by decide +kernel
theorem dX6_canBe_55 : decode cX6_canBe 55 = .ok (.goto 4, 3) := by decide +kernel
theorem dX6_canBe_60 : decode cX6_canBe 60 = .ok (.iload_n 1, 1) := by decide +kernel
theorem dX6_canBe_61 : decode cX6_canBe 61 = .ok (.ifCond .lt 13, 3) := by decide +kernel
theorem dX6_canBe_74 : decode cX6_canBe 74 = .ok (.iconst 0, 1) := by decide +kernel
theorem dX6_canBe_75 : decode cX6_canBe 75 = .ok (.ireturn, 1) := by decide +kernel
theorem dX6_canBe_64 : decode cX6_canBe 64 = .ok (.iload_n 1, 1) := by decide +kernel
theorem dX6_canBe_65 : decode cX6_canBe 65 = .ok (.bipush 99, 2) := by decide +kernel
theorem dX6_canBe_67 : decode cX6_canBe 67 = .ok (.if_icmp .gt 7, 3) := by decide +kernel
theorem dX6_canBe_70 : decode cX6_canBe 70 = .ok (.iconst 1, 1) := by decide +kernel
theorem dX6_canBe_71 : decode cX6_canBe 71 = .ok (.goto 4, 3) := by decide +kernel
theorem dX6_canBe_76 : decode cX6_canBe 76 = .ok (.iconst 0, 1) := by decide +kernel
theorem dX6_canBe_77 : decode cX6_canBe 77 = .ok (.ireturn, 1) := by decide +kernel
def yX6_isDug : MethodName := ⟨RX6, "isDug", "(I)Z"⟩
abbrev cX6_isDug : ByteArray := prog_8_method_4_code
theorem dX6_isDug_0 : decode cX6_isDug 0 = .ok (.aload_n 0, 1) := by decide +kernel
theorem dX6_isDug_1 : decode cX6_isDug 1 = .ok (.getfield 27, 3) := by decide +kernel
theorem fl_RX6_27 : Cond.fieldLink RX6 27 RX6 "dug" "J" ∈ gW := gW_u tb_1 100 (by rfl) (by decide +kernel)
theorem dX6_isDug_4 : decode cX6_isDug 4 = .ok (.iload_n 1, 1) := by decide +kernel
theorem dX6_isDug_5 : decode cX6_isDug 5 = .ok (.lshr, 1) := by decide +kernel
theorem dX6_isDug_6 : decode cX6_isDug 6 = .ok (.lconst 1, 1) := by decide +kernel
theorem dX6_isDug_7 : decode cX6_isDug 7 = .ok (.land, 1) := by decide +kernel
theorem dX6_isDug_8 : decode cX6_isDug 8 = .ok (.lconst 0, 1) := by decide +kernel
theorem dX6_isDug_9 : decode cX6_isDug 9 = .ok (.lcmp, 1) := by decide +kernel
theorem dX6_isDug_10 : decode cX6_isDug 10 = .ok (.ifCond .eq 7, 3) := by decide +kernel
theorem dX6_isDug_17 : decode cX6_isDug 17 = .ok (.iconst 0, 1) := by decide +kernel
theorem dX6_isDug_18 : decode cX6_isDug 18 = .ok (.ireturn, 1) := by decide +kernel
theorem dX6_isDug_13 : decode cX6_isDug 13 = .ok (.iconst 1, 1) := by decide +kernel
theorem dX6_isDug_14 : decode cX6_isDug 14 = .ok (.goto 4, 3) := by decide +kernel
def yX6_mark : MethodName := ⟨RX6, "mark", "(I)V"⟩
abbrev cX6_mark : ByteArray := prog_8_method_5_code
theorem dX6_mark_0 : decode cX6_mark 0 = .ok (.aload_n 0, 1) := by decide +kernel
theorem dX6_mark_1 : decode cX6_mark 1 = .ok (.dup, 1) := by decide +kernel
theorem dX6_mark_2 : decode cX6_mark 2 = .ok (.getfield 27, 3) := by decide +kernel
theorem dX6_mark_5 : decode cX6_mark 5 = .ok (.lconst 1, 1) := by decide +kernel
theorem dX6_mark_6 : decode cX6_mark 6 = .ok (.iload_n 1, 1) := by decide +kernel
theorem dX6_mark_7 : decode cX6_mark 7 = .ok (.lshl, 1) := by decide +kernel
theorem dX6_mark_8 : decode cX6_mark 8 = .ok (.lor, 1) := by decide +kernel
theorem dX6_mark_9 : decode cX6_mark 9 = .ok (.putfield 27, 3) := by decide +kernel
theorem dX6_mark_12 : decode cX6_mark 12 = .ok (.return_, 1) := by decide +kernel
def yX6_unmark : MethodName := ⟨RX6, "unmark", "(I)V"⟩
abbrev cX6_unmark : ByteArray := prog_8_method_6_code
theorem dX6_unmark_0 : decode cX6_unmark 0 = .ok (.aload_n 0, 1) := by decide +kernel
theorem dX6_unmark_1 : decode cX6_unmark 1 = .ok (.dup, 1) := by decide +kernel
theorem dX6_unmark_2 : decode cX6_unmark 2 = .ok (.getfield 27, 3) := by decide +kernel
theorem dX6_unmark_5 : decode cX6_unmark 5 = .ok (.lconst 1, 1) := by decide +kernel
theorem dX6_unmark_6 : decode cX6_unmark 6 = .ok (.iload_n 1, 1) := by decide +kernel
theorem dX6_unmark_7 : decode cX6_unmark 7 = .ok (.lshl, 1) := by decide +kernel
theorem dX6_unmark_8 : decode cX6_unmark 8 = .ok (.ldc2_w 31, 3) := by decide +kernel
theorem ct_RX6_31 : Cond.constantLong RX6 31 (-1) ∈ gW := gW_u tb_5 81 (by rfl) (by decide +kernel)
theorem dX6_unmark_11 : decode cX6_unmark 11 = .ok (.lxor, 1) := by decide +kernel
theorem dX6_unmark_12 : decode cX6_unmark 12 = .ok (.land, 1) := by decide +kernel
theorem dX6_unmark_13 : decode cX6_unmark 13 = .ok (.putfield 27, 3) := by decide +kernel
theorem dX6_unmark_16 : decode cX6_unmark 16 = .ok (.return_, 1) := by decide +kernel
def yX6_rowOf : MethodName := ⟨RX6, "rowOf", "(I)[I"⟩
abbrev cX6_rowOf : ByteArray := prog_8_method_3_code
theorem dX6_rowOf_0 : decode cX6_rowOf 0 = .ok (.iload_n 1, 1) := by decide +kernel
theorem dX6_rowOf_1 : decode cX6_rowOf 1 = .ok (.ifCond .ne 8, 3) := by decide +kernel
theorem dX6_rowOf_9 : decode cX6_rowOf 9 = .ok (.iload_n 1, 1) := by decide +kernel
theorem dX6_rowOf_10 : decode cX6_rowOf 10 = .ok (.iconst 1, 1) := by decide +kernel
theorem dX6_rowOf_11 : decode cX6_rowOf 11 = .ok (.if_icmp .ne 10, 3) := by decide +kernel
theorem dX6_rowOf_21 : decode cX6_rowOf 21 = .ok (.aload_n 0, 1) := by decide +kernel
theorem dX6_rowOf_22 : decode cX6_rowOf 22 = .ok (.getfield 18, 3) := by decide +kernel
theorem fl_RX6_18 : Cond.fieldLink RX6 18 RX6 "water" "[I" ∈ gW := gW_u tb_1 96 (by rfl) (by decide +kernel)
theorem dX6_rowOf_25 : decode cX6_rowOf 25 = .ok (.areturn, 1) := by decide +kernel
theorem dX6_rowOf_14 : decode cX6_rowOf 14 = .ok (.aload_n 0, 1) := by decide +kernel
theorem dX6_rowOf_15 : decode cX6_rowOf 15 = .ok (.getfield 15, 3) := by decide +kernel
theorem fl_RX6_15 : Cond.fieldLink RX6 15 RX6 "hard" "[I" ∈ gW := gW_u tb_1 93 (by rfl) (by decide +kernel)
theorem dX6_rowOf_18 : decode cX6_rowOf 18 = .ok (.goto 7, 3) := by decide +kernel
theorem dX6_rowOf_4 : decode cX6_rowOf 4 = .ok (.aload_n 0, 1) := by decide +kernel
theorem dX6_rowOf_5 : decode cX6_rowOf 5 = .ok (.getfield 9, 3) := by decide +kernel
theorem fl_RX6_9 : Cond.fieldLink RX6 9 RX6 "kind" "[I" ∈ gW := gW_u tb_1 87 (by rfl) (by decide +kernel)
theorem dX6_rowOf_8 : decode cX6_rowOf 8 = .ok (.areturn, 1) := by decide +kernel
def yX6_endsAWay : MethodName := ⟨RX6, "endsAWay", "(I)Z"⟩
abbrev cX6_endsAWay : ByteArray := prog_8_method_7_code
theorem dX6_endsAWay_0 : decode cX6_endsAWay 0 = .ok (.aload_n 0, 1) := by decide +kernel
theorem dX6_endsAWay_1 : decode cX6_endsAWay 1 = .ok (.getfield 9, 3) := by decide +kernel
theorem dX6_endsAWay_4 : decode cX6_endsAWay 4 = .ok (.iload_n 1, 1) := by decide +kernel
theorem dX6_endsAWay_5 : decode cX6_endsAWay 5 = .ok (.iaload, 1) := by decide +kernel
theorem dX6_endsAWay_6 : decode cX6_endsAWay 6 = .ok (.iconst 2, 1) := by decide +kernel
theorem dX6_endsAWay_7 : decode cX6_endsAWay 7 = .ok (.if_icmp .eq 13, 3) := by decide +kernel
theorem dX6_endsAWay_20 : decode cX6_endsAWay 20 = .ok (.iconst 1, 1) := by decide +kernel
theorem dX6_endsAWay_21 : decode cX6_endsAWay 21 = .ok (.goto 4, 3) := by decide +kernel
theorem dX6_endsAWay_25 : decode cX6_endsAWay 25 = .ok (.ireturn, 1) := by decide +kernel
theorem dX6_endsAWay_10 : decode cX6_endsAWay 10 = .ok (.aload_n 0, 1) := by decide +kernel
theorem dX6_endsAWay_11 : decode cX6_endsAWay 11 = .ok (.getfield 9, 3) := by decide +kernel
theorem dX6_endsAWay_14 : decode cX6_endsAWay 14 = .ok (.iload_n 1, 1) := by decide +kernel
theorem dX6_endsAWay_15 : decode cX6_endsAWay 15 = .ok (.iaload, 1) := by decide +kernel
theorem dX6_endsAWay_16 : decode cX6_endsAWay 16 = .ok (.iconst 3, 1) := by decide +kernel
theorem dX6_endsAWay_17 : decode cX6_endsAWay 17 = .ok (.if_icmp .ne 7, 3) := by decide +kernel
theorem dX6_endsAWay_24 : decode cX6_endsAWay 24 = .ok (.iconst 0, 1) := by decide +kernel
def yX1_add : MethodName := ⟨RX1, "add", "(I)V"⟩
abbrev cX1_add : ByteArray := prog_3_method_2_code
theorem dX1_add_0 : decode cX1_add 0 = .ok (.aload_n 0, 1) := by decide +kernel
theorem dX1_add_1 : decode cX1_add 1 = .ok (.getfield 18, 3) := by decide +kernel
theorem fl_RX1_18 : Cond.fieldLink RX1 18 RX1 "count" "I" ∈ gW := gW_u tb_1 128 (by rfl) (by decide +kernel)
theorem dX1_add_4 : decode cX1_add 4 = .ok (.bipush 6, 2) := by decide +kernel
theorem dX1_add_6 : decode cX1_add 6 = .ok (.if_icmp .ge 33, 3) := by decide +kernel
theorem dX1_add_39 : decode cX1_add 39 = .ok (.return_, 1) := by decide +kernel
theorem dX1_add_9 : decode cX1_add 9 = .ok (.aload_n 0, 1) := by decide +kernel
theorem dX1_add_10 : decode cX1_add 10 = .ok (.getfield 9, 3) := by decide +kernel
theorem fl_RX1_9 : Cond.fieldLink RX1 9 RX1 "cell" "[I" ∈ gW := gW_u tb_1 118 (by rfl) (by decide +kernel)
theorem dX1_add_13 : decode cX1_add 13 = .ok (.aload_n 0, 1) := by decide +kernel
theorem dX1_add_14 : decode cX1_add 14 = .ok (.getfield 18, 3) := by decide +kernel
theorem dX1_add_17 : decode cX1_add 17 = .ok (.iload_n 1, 1) := by decide +kernel
theorem dX1_add_18 : decode cX1_add 18 = .ok (.iastore, 1) := by decide +kernel
theorem dX1_add_19 : decode cX1_add 19 = .ok (.aload_n 0, 1) := by decide +kernel
theorem dX1_add_20 : decode cX1_add 20 = .ok (.getfield 15, 3) := by decide +kernel
theorem fl_RX1_15 : Cond.fieldLink RX1 15 RX1 "buckets" "[I" ∈ gW := gW_u tb_1 124 (by rfl) (by decide +kernel)
theorem dX1_add_23 : decode cX1_add 23 = .ok (.aload_n 0, 1) := by decide +kernel
theorem dX1_add_24 : decode cX1_add 24 = .ok (.getfield 18, 3) := by decide +kernel
theorem dX1_add_27 : decode cX1_add 27 = .ok (.iconst 0, 1) := by decide +kernel
theorem dX1_add_28 : decode cX1_add 28 = .ok (.iastore, 1) := by decide +kernel
theorem dX1_add_29 : decode cX1_add 29 = .ok (.aload_n 0, 1) := by decide +kernel
theorem dX1_add_30 : decode cX1_add 30 = .ok (.dup, 1) := by decide +kernel
theorem dX1_add_31 : decode cX1_add 31 = .ok (.getfield 18, 3) := by decide +kernel
theorem dX1_add_34 : decode cX1_add 34 = .ok (.iconst 1, 1) := by decide +kernel
theorem dX1_add_35 : decode cX1_add 35 = .ok (.iadd, 1) := by decide +kernel
theorem dX1_add_36 : decode cX1_add 36 = .ok (.putfield 18, 3) := by decide +kernel
def yX4_addListener : MethodName := ⟨RX4, "addListener", "(II)V"⟩
abbrev cX4_addListener : ByteArray := prog_6_method_2_code
theorem dX4_addListener_0 : decode cX4_addListener 0 = .ok (.aload_n 0, 1) := by decide +kernel
theorem dX4_addListener_1 : decode cX4_addListener 1 = .ok (.getfield 36, 3) := by decide +kernel
theorem fl_RX4_36 : Cond.fieldLink RX4 36 RX4 "listeners" "I" ∈ gW := gW_u tb_1 154 (by rfl) (by decide +kernel)
theorem dX4_addListener_4 : decode cX4_addListener 4 = .ok (.iconst 5, 1) := by decide +kernel
theorem dX4_addListener_5 : decode cX4_addListener 5 = .ok (.if_icmp .ge 33, 3) := by decide +kernel
theorem dX4_addListener_38 : decode cX4_addListener 38 = .ok (.return_, 1) := by decide +kernel
theorem dX4_addListener_8 : decode cX4_addListener 8 = .ok (.aload_n 0, 1) := by decide +kernel
theorem dX4_addListener_9 : decode cX4_addListener 9 = .ok (.getfield 9, 3) := by decide +kernel
theorem fl_RX4_9 : Cond.fieldLink RX4 9 RX4 "column" "[I" ∈ gW := gW_u tb_1 146 (by rfl) (by decide +kernel)
theorem dX4_addListener_12 : decode cX4_addListener 12 = .ok (.aload_n 0, 1) := by decide +kernel
theorem dX4_addListener_13 : decode cX4_addListener 13 = .ok (.getfield 36, 3) := by decide +kernel
theorem dX4_addListener_16 : decode cX4_addListener 16 = .ok (.iload_n 1, 1) := by decide +kernel
theorem dX4_addListener_17 : decode cX4_addListener 17 = .ok (.iastore, 1) := by decide +kernel
theorem dX4_addListener_18 : decode cX4_addListener 18 = .ok (.aload_n 0, 1) := by decide +kernel
theorem dX4_addListener_19 : decode cX4_addListener 19 = .ok (.getfield 15, 3) := by decide +kernel
theorem fl_RX4_15 : Cond.fieldLink RX4 15 RX4 "ear" "[I" ∈ gW := gW_u tb_1 151 (by rfl) (by decide +kernel)
theorem dX4_addListener_22 : decode cX4_addListener 22 = .ok (.aload_n 0, 1) := by decide +kernel
theorem dX4_addListener_23 : decode cX4_addListener 23 = .ok (.getfield 36, 3) := by decide +kernel
theorem dX4_addListener_26 : decode cX4_addListener 26 = .ok (.iload_n 2, 1) := by decide +kernel
theorem dX4_addListener_27 : decode cX4_addListener 27 = .ok (.iastore, 1) := by decide +kernel
theorem dX4_addListener_28 : decode cX4_addListener 28 = .ok (.aload_n 0, 1) := by decide +kernel
theorem dX4_addListener_29 : decode cX4_addListener 29 = .ok (.dup, 1) := by decide +kernel
theorem dX4_addListener_30 : decode cX4_addListener 30 = .ok (.getfield 36, 3) := by decide +kernel
theorem dX4_addListener_33 : decode cX4_addListener 33 = .ok (.iconst 1, 1) := by decide +kernel
theorem dX4_addListener_34 : decode cX4_addListener 34 = .ok (.iadd, 1) := by decide +kernel
theorem dX4_addListener_35 : decode cX4_addListener 35 = .ok (.putfield 36, 3) := by decide +kernel
def yX4_addNoise : MethodName := ⟨RX4, "addNoise", "(II)V"⟩
abbrev cX4_addNoise : ByteArray := prog_6_method_3_code
theorem dX4_addNoise_0 : decode cX4_addNoise 0 = .ok (.aload_n 0, 1) := by decide +kernel
theorem dX4_addNoise_1 : decode cX4_addNoise 1 = .ok (.getfield 40, 3) := by decide +kernel
theorem fl_RX4_40 : Cond.fieldLink RX4 40 RX4 "noises" "I" ∈ gW := gW_u tb_1 164 (by rfl) (by decide +kernel)
theorem dX4_addNoise_4 : decode cX4_addNoise 4 = .ok (.bipush 6, 2) := by decide +kernel
theorem dX4_addNoise_6 : decode cX4_addNoise 6 = .ok (.if_icmp .ge 33, 3) := by decide +kernel
theorem dX4_addNoise_39 : decode cX4_addNoise 39 = .ok (.return_, 1) := by decide +kernel
theorem dX4_addNoise_9 : decode cX4_addNoise 9 = .ok (.aload_n 0, 1) := by decide +kernel
theorem dX4_addNoise_10 : decode cX4_addNoise 10 = .ok (.getfield 18, 3) := by decide +kernel
theorem fl_RX4_18 : Cond.fieldLink RX4 18 RX4 "noiseColumn" "[I" ∈ gW := gW_u tb_1 159 (by rfl) (by decide +kernel)
theorem dX4_addNoise_13 : decode cX4_addNoise 13 = .ok (.aload_n 0, 1) := by decide +kernel
theorem dX4_addNoise_14 : decode cX4_addNoise 14 = .ok (.getfield 40, 3) := by decide +kernel
theorem dX4_addNoise_17 : decode cX4_addNoise 17 = .ok (.iload_n 1, 1) := by decide +kernel
theorem dX4_addNoise_18 : decode cX4_addNoise 18 = .ok (.iastore, 1) := by decide +kernel
theorem dX4_addNoise_19 : decode cX4_addNoise 19 = .ok (.aload_n 0, 1) := by decide +kernel
theorem dX4_addNoise_20 : decode cX4_addNoise 20 = .ok (.getfield 21, 3) := by decide +kernel
theorem fl_RX4_21 : Cond.fieldLink RX4 21 RX4 "noiseLoud" "[I" ∈ gW := gW_u tb_1 162 (by rfl) (by decide +kernel)
theorem dX4_addNoise_23 : decode cX4_addNoise 23 = .ok (.aload_n 0, 1) := by decide +kernel
theorem dX4_addNoise_24 : decode cX4_addNoise 24 = .ok (.getfield 40, 3) := by decide +kernel
theorem dX4_addNoise_27 : decode cX4_addNoise 27 = .ok (.iload_n 2, 1) := by decide +kernel
theorem dX4_addNoise_28 : decode cX4_addNoise 28 = .ok (.iastore, 1) := by decide +kernel
theorem dX4_addNoise_29 : decode cX4_addNoise 29 = .ok (.aload_n 0, 1) := by decide +kernel
theorem dX4_addNoise_30 : decode cX4_addNoise 30 = .ok (.dup, 1) := by decide +kernel
theorem dX4_addNoise_31 : decode cX4_addNoise 31 = .ok (.getfield 40, 3) := by decide +kernel
theorem dX4_addNoise_34 : decode cX4_addNoise 34 = .ok (.iconst 1, 1) := by decide +kernel
theorem dX4_addNoise_35 : decode cX4_addNoise 35 = .ok (.iadd, 1) := by decide +kernel
theorem dX4_addNoise_36 : decode cX4_addNoise 36 = .ok (.putfield 40, 3) := by decide +kernel
def yX4_addHearsay : MethodName := ⟨RX4, "addHearsay", "(II)V"⟩
abbrev cX4_addHearsay : ByteArray := prog_6_method_5_code
theorem dX4_addHearsay_0 : decode cX4_addHearsay 0 = .ok (.aload_n 0, 1) := by decide +kernel
theorem dX4_addHearsay_1 : decode cX4_addHearsay 1 = .ok (.getfield 56, 3) := by decide +kernel
theorem fl_RX4_56 : Cond.fieldLink RX4 56 RX4 "hearsay" "I" ∈ gW := gW_u tb_1 176 (by rfl) (by decide +kernel)
theorem dX4_addHearsay_4 : decode cX4_addHearsay 4 = .ok (.bipush 8, 2) := by decide +kernel
theorem dX4_addHearsay_6 : decode cX4_addHearsay 6 = .ok (.if_icmp .ge 33, 3) := by decide +kernel
theorem dX4_addHearsay_39 : decode cX4_addHearsay 39 = .ok (.return_, 1) := by decide +kernel
theorem dX4_addHearsay_9 : decode cX4_addHearsay 9 = .ok (.aload_n 0, 1) := by decide +kernel
theorem dX4_addHearsay_10 : decode cX4_addHearsay 10 = .ok (.getfield 24, 3) := by decide +kernel
theorem fl_RX4_24 : Cond.fieldLink RX4 24 RX4 "hearsayColumn" "[I" ∈ gW := gW_u tb_1 172 (by rfl) (by decide +kernel)
theorem dX4_addHearsay_13 : decode cX4_addHearsay 13 = .ok (.aload_n 0, 1) := by decide +kernel
theorem dX4_addHearsay_14 : decode cX4_addHearsay 14 = .ok (.getfield 56, 3) := by decide +kernel
theorem dX4_addHearsay_17 : decode cX4_addHearsay 17 = .ok (.iload_n 1, 1) := by decide +kernel
theorem dX4_addHearsay_18 : decode cX4_addHearsay 18 = .ok (.iastore, 1) := by decide +kernel
theorem dX4_addHearsay_19 : decode cX4_addHearsay 19 = .ok (.aload_n 0, 1) := by decide +kernel
theorem dX4_addHearsay_20 : decode cX4_addHearsay 20 = .ok (.getfield 27, 3) := by decide +kernel
theorem fl_RX4_27 : Cond.fieldLink RX4 27 RX4 "hearsayLoud" "[I" ∈ gW := gW_u tb_1 174 (by rfl) (by decide +kernel)
theorem dX4_addHearsay_23 : decode cX4_addHearsay 23 = .ok (.aload_n 0, 1) := by decide +kernel
theorem dX4_addHearsay_24 : decode cX4_addHearsay 24 = .ok (.getfield 56, 3) := by decide +kernel
theorem dX4_addHearsay_27 : decode cX4_addHearsay 27 = .ok (.iload_n 2, 1) := by decide +kernel
theorem dX4_addHearsay_28 : decode cX4_addHearsay 28 = .ok (.iastore, 1) := by decide +kernel
theorem dX4_addHearsay_29 : decode cX4_addHearsay 29 = .ok (.aload_n 0, 1) := by decide +kernel
theorem dX4_addHearsay_30 : decode cX4_addHearsay 30 = .ok (.dup, 1) := by decide +kernel
theorem dX4_addHearsay_31 : decode cX4_addHearsay 31 = .ok (.getfield 56, 3) := by decide +kernel
theorem dX4_addHearsay_34 : decode cX4_addHearsay 34 = .ok (.iconst 1, 1) := by decide +kernel
theorem dX4_addHearsay_35 : decode cX4_addHearsay 35 = .ok (.iadd, 1) := by decide +kernel
theorem dX4_addHearsay_36 : decode cX4_addHearsay 36 = .ok (.putfield 56, 3) := by decide +kernel
def yX4_addWell : MethodName := ⟨RX4, "addWell", "(II)V"⟩
abbrev cX4_addWell : ByteArray := prog_6_method_6_code
theorem dX4_addWell_0 : decode cX4_addWell 0 = .ok (.aload_n 0, 1) := by decide +kernel
theorem dX4_addWell_1 : decode cX4_addWell 1 = .ok (.getfield 59, 3) := by decide +kernel
theorem fl_RX4_59 : Cond.fieldLink RX4 59 RX4 "wells" "I" ∈ gW := gW_u tb_1 181 (by rfl) (by decide +kernel)
theorem dX4_addWell_4 : decode cX4_addWell 4 = .ok (.bipush 10, 2) := by decide +kernel
theorem dX4_addWell_6 : decode cX4_addWell 6 = .ok (.if_icmp .ge 33, 3) := by decide +kernel
theorem dX4_addWell_39 : decode cX4_addWell 39 = .ok (.return_, 1) := by decide +kernel
theorem dX4_addWell_9 : decode cX4_addWell 9 = .ok (.aload_n 0, 1) := by decide +kernel
theorem dX4_addWell_10 : decode cX4_addWell 10 = .ok (.getfield 30, 3) := by decide +kernel
theorem fl_RX4_30 : Cond.fieldLink RX4 30 RX4 "sounds" "[I" ∈ gW := gW_u tb_1 179 (by rfl) (by decide +kernel)
theorem dX4_addWell_13 : decode cX4_addWell 13 = .ok (.aload_n 0, 1) := by decide +kernel
theorem dX4_addWell_14 : decode cX4_addWell 14 = .ok (.getfield 59, 3) := by decide +kernel
theorem dX4_addWell_17 : decode cX4_addWell 17 = .ok (.iload_n 1, 1) := by decide +kernel
theorem dX4_addWell_18 : decode cX4_addWell 18 = .ok (.iastore, 1) := by decide +kernel
theorem dX4_addWell_19 : decode cX4_addWell 19 = .ok (.aload_n 0, 1) := by decide +kernel
theorem dX4_addWell_20 : decode cX4_addWell 20 = .ok (.getfield 33, 3) := by decide +kernel
theorem fl_RX4_33 : Cond.fieldLink RX4 33 RX4 "wet" "[I" ∈ gW := gW_u tb_1 180 (by rfl) (by decide +kernel)
theorem dX4_addWell_23 : decode cX4_addWell 23 = .ok (.aload_n 0, 1) := by decide +kernel
theorem dX4_addWell_24 : decode cX4_addWell 24 = .ok (.getfield 59, 3) := by decide +kernel
theorem dX4_addWell_27 : decode cX4_addWell 27 = .ok (.iload_n 2, 1) := by decide +kernel
theorem dX4_addWell_28 : decode cX4_addWell 28 = .ok (.iastore, 1) := by decide +kernel
theorem dX4_addWell_29 : decode cX4_addWell 29 = .ok (.aload_n 0, 1) := by decide +kernel
theorem dX4_addWell_30 : decode cX4_addWell 30 = .ok (.dup, 1) := by decide +kernel
theorem dX4_addWell_31 : decode cX4_addWell 31 = .ok (.getfield 59, 3) := by decide +kernel
theorem dX4_addWell_34 : decode cX4_addWell 34 = .ok (.iconst 1, 1) := by decide +kernel
theorem dX4_addWell_35 : decode cX4_addWell 35 = .ok (.iadd, 1) := by decide +kernel
theorem dX4_addWell_36 : decode cX4_addWell 36 = .ok (.putfield 59, 3) := by decide +kernel
def yX2_clear : MethodName := ⟨RX2, "clear", "()V"⟩
abbrev cX2_clear : ByteArray := prog_4_method_2_code
theorem dX2_clear_0 : decode cX2_clear 0 = .ok (.aload_n 0, 1) := by decide +kernel
theorem dX2_clear_1 : decode cX2_clear 1 = .ok (.iconst 0, 1) := by decide +kernel
theorem dX2_clear_2 : decode cX2_clear 2 = .ok (.putfield 29, 3) := by decide +kernel
theorem fl_RX2_29 : Cond.fieldLink RX2 29 RX2 "kept" "I" ∈ gW := gW_u tb_2 29 (by rfl) (by decide +kernel)
theorem dX2_clear_5 : decode cX2_clear 5 = .ok (.return_, 1) := by decide +kernel
def yX2_add : MethodName := ⟨RX2, "add", "(IIIII)V"⟩
abbrev cX2_add : ByteArray := prog_4_method_3_code
theorem dX2_add_0 : decode cX2_add 0 = .ok (.aload_n 0, 1) := by decide +kernel
theorem dX2_add_1 : decode cX2_add 1 = .ok (.aload_n 0, 1) := by decide +kernel
theorem dX2_add_2 : decode cX2_add 2 = .ok (.getfield 25, 3) := by decide +kernel
theorem fl_RX2_25 : Cond.fieldLink RX2 25 RX2 "latest" "I" ∈ gW := gW_u tb_2 32 (by rfl) (by decide +kernel)
theorem dX2_add_5 : decode cX2_add 5 = .ok (.iconst 1, 1) := by decide +kernel
theorem dX2_add_6 : decode cX2_add 6 = .ok (.iadd, 1) := by decide +kernel
theorem dX2_add_7 : decode cX2_add 7 = .ok (.bipush 16, 2) := by decide +kernel
theorem dX2_add_9 : decode cX2_add 9 = .ok (.irem, 1) := by decide +kernel
theorem dX2_add_10 : decode cX2_add 10 = .ok (.putfield 25, 3) := by decide +kernel
theorem dX2_add_13 : decode cX2_add 13 = .ok (.aload_n 0, 1) := by decide +kernel
theorem dX2_add_14 : decode cX2_add 14 = .ok (.getfield 9, 3) := by decide +kernel
theorem fl_RX2_9 : Cond.fieldLink RX2 9 RX2 "deed" "[I" ∈ gW := gW_u tb_2 19 (by rfl) (by decide +kernel)
theorem dX2_add_17 : decode cX2_add 17 = .ok (.aload_n 0, 1) := by decide +kernel
theorem dX2_add_18 : decode cX2_add 18 = .ok (.getfield 25, 3) := by decide +kernel
theorem dX2_add_21 : decode cX2_add 21 = .ok (.iload_n 1, 1) := by decide +kernel
theorem dX2_add_22 : decode cX2_add 22 = .ok (.iastore, 1) := by decide +kernel
theorem dX2_add_23 : decode cX2_add 23 = .ok (.aload_n 0, 1) := by decide +kernel
theorem dX2_add_24 : decode cX2_add 24 = .ok (.getfield 13, 3) := by decide +kernel
theorem fl_RX2_13 : Cond.fieldLink RX2 13 RX2 "whose" "[I" ∈ gW := gW_u tb_2 21 (by rfl) (by decide +kernel)
theorem dX2_add_27 : decode cX2_add 27 = .ok (.aload_n 0, 1) := by decide +kernel
theorem dX2_add_28 : decode cX2_add 28 = .ok (.getfield 25, 3) := by decide +kernel
theorem dX2_add_31 : decode cX2_add 31 = .ok (.iload_n 2, 1) := by decide +kernel
theorem dX2_add_32 : decode cX2_add 32 = .ok (.iastore, 1) := by decide +kernel
theorem dX2_add_33 : decode cX2_add 33 = .ok (.aload_n 0, 1) := by decide +kernel
theorem dX2_add_34 : decode cX2_add 34 = .ok (.getfield 16, 3) := by decide +kernel
theorem fl_RX2_16 : Cond.fieldLink RX2 16 RX2 "before" "[I" ∈ gW := gW_u tb_2 23 (by rfl) (by decide +kernel)
theorem dX2_add_37 : decode cX2_add 37 = .ok (.aload_n 0, 1) := by decide +kernel
theorem dX2_add_38 : decode cX2_add 38 = .ok (.getfield 25, 3) := by decide +kernel
theorem dX2_add_41 : decode cX2_add 41 = .ok (.iload_n 3, 1) := by decide +kernel
theorem dX2_add_42 : decode cX2_add 42 = .ok (.iastore, 1) := by decide +kernel
theorem dX2_add_43 : decode cX2_add 43 = .ok (.aload_n 0, 1) := by decide +kernel
theorem dX2_add_44 : decode cX2_add 44 = .ok (.getfield 19, 3) := by decide +kernel
theorem fl_RX2_19 : Cond.fieldLink RX2 19 RX2 "bucketsBefore" "[I" ∈ gW := gW_u tb_2 25 (by rfl) (by decide +kernel)
theorem dX2_add_47 : decode cX2_add 47 = .ok (.aload_n 0, 1) := by decide +kernel
theorem dX2_add_48 : decode cX2_add 48 = .ok (.getfield 25, 3) := by decide +kernel
theorem dX2_add_51 : decode cX2_add 51 = .ok (.iload 4, 2) := by decide +kernel
theorem dX2_add_53 : decode cX2_add 53 = .ok (.iastore, 1) := by decide +kernel
theorem dX2_add_54 : decode cX2_add 54 = .ok (.aload_n 0, 1) := by decide +kernel
theorem dX2_add_55 : decode cX2_add 55 = .ok (.getfield 22, 3) := by decide +kernel
theorem fl_RX2_22 : Cond.fieldLink RX2 22 RX2 "dayBefore" "[I" ∈ gW := gW_u tb_2 27 (by rfl) (by decide +kernel)
theorem dX2_add_58 : decode cX2_add 58 = .ok (.aload_n 0, 1) := by decide +kernel
theorem dX2_add_59 : decode cX2_add 59 = .ok (.getfield 25, 3) := by decide +kernel
theorem dX2_add_62 : decode cX2_add 62 = .ok (.iload 5, 2) := by decide +kernel
theorem dX2_add_64 : decode cX2_add 64 = .ok (.iastore, 1) := by decide +kernel
theorem dX2_add_65 : decode cX2_add 65 = .ok (.aload_n 0, 1) := by decide +kernel
theorem dX2_add_66 : decode cX2_add 66 = .ok (.bipush 16, 2) := by decide +kernel
theorem dX2_add_68 : decode cX2_add 68 = .ok (.aload_n 0, 1) := by decide +kernel
theorem dX2_add_69 : decode cX2_add 69 = .ok (.getfield 29, 3) := by decide +kernel
theorem dX2_add_72 : decode cX2_add 72 = .ok (.iconst 1, 1) := by decide +kernel
theorem dX2_add_73 : decode cX2_add 73 = .ok (.iadd, 1) := by decide +kernel
theorem dX2_add_74 : decode cX2_add 74 = .ok (.invokestatic 32, 3) := by decide +kernel
theorem lk_RX2_32 : Cond.methodLink RX2 32 Lib.Math.min.name ∈ gW := gW_u tb_4 171 (by rfl) (by decide +kernel)
theorem lb_s_imin : Cond.static Lib.Math.min.name ∈ gW := gW_u tb_3 85 (by rfl) (by decide +kernel)
theorem lb_c_imin : Cond.code Lib.Math.min.name Lib.Math.min.code 2 (some .int) ∈ gW := gW_u tb_3 86 (by rfl) (by decide +kernel)
theorem lb_i : Cond.initialized "java/lang/Math" ∈ gW := gW_u tb_1 12 (by rfl) (by decide +kernel)
theorem dX2_add_77 : decode cX2_add 77 = .ok (.putfield 29, 3) := by decide +kernel
theorem dX2_add_80 : decode cX2_add 80 = .ok (.return_, 1) := by decide +kernel
def yX2_dropLatest : MethodName := ⟨RX2, "dropLatest", "()V"⟩
abbrev cX2_dropLatest : ByteArray := prog_4_method_4_code
theorem dX2_dropLatest_0 : decode cX2_dropLatest 0 = .ok (.aload_n 0, 1) := by decide +kernel
theorem dX2_dropLatest_1 : decode cX2_dropLatest 1 = .ok (.aload_n 0, 1) := by decide +kernel
theorem dX2_dropLatest_2 : decode cX2_dropLatest 2 = .ok (.getfield 25, 3) := by decide +kernel
theorem dX2_dropLatest_5 : decode cX2_dropLatest 5 = .ok (.bipush 16, 2) := by decide +kernel
theorem dX2_dropLatest_7 : decode cX2_dropLatest 7 = .ok (.iadd, 1) := by decide +kernel
theorem dX2_dropLatest_8 : decode cX2_dropLatest 8 = .ok (.iconst 1, 1) := by decide +kernel
theorem dX2_dropLatest_9 : decode cX2_dropLatest 9 = .ok (.isub, 1) := by decide +kernel
theorem dX2_dropLatest_10 : decode cX2_dropLatest 10 = .ok (.bipush 16, 2) := by decide +kernel
theorem dX2_dropLatest_12 : decode cX2_dropLatest 12 = .ok (.irem, 1) := by decide +kernel
theorem dX2_dropLatest_13 : decode cX2_dropLatest 13 = .ok (.putfield 25, 3) := by decide +kernel
theorem dX2_dropLatest_16 : decode cX2_dropLatest 16 = .ok (.aload_n 0, 1) := by decide +kernel
theorem dX2_dropLatest_17 : decode cX2_dropLatest 17 = .ok (.iconst 0, 1) := by decide +kernel
theorem dX2_dropLatest_18 : decode cX2_dropLatest 18 = .ok (.aload_n 0, 1) := by decide +kernel
theorem dX2_dropLatest_19 : decode cX2_dropLatest 19 = .ok (.getfield 29, 3) := by decide +kernel
theorem dX2_dropLatest_22 : decode cX2_dropLatest 22 = .ok (.iconst 1, 1) := by decide +kernel
theorem dX2_dropLatest_23 : decode cX2_dropLatest 23 = .ok (.isub, 1) := by decide +kernel
theorem dX2_dropLatest_24 : decode cX2_dropLatest 24 = .ok (.invokestatic 38, 3) := by decide +kernel
theorem lk_RX2_38 : Cond.methodLink RX2 38 Lib.Math.max.name ∈ gW := gW_u tb_5 76 (by rfl) (by decide +kernel)
theorem lb_s_imax : Cond.static Lib.Math.max.name ∈ gW := gW_u tb_2 84 (by rfl) (by decide +kernel)
theorem lb_c_imax : Cond.code Lib.Math.max.name Lib.Math.max.code 2 (some .int) ∈ gW := gW_u tb_2 85 (by rfl) (by decide +kernel)
theorem dX2_dropLatest_27 : decode cX2_dropLatest 27 = .ok (.putfield 29, 3) := by decide +kernel
theorem dX2_dropLatest_30 : decode cX2_dropLatest 30 = .ok (.return_, 1) := by decide +kernel
def yX10_termCanBe : MethodName := ⟨RX10, "termCanBe", "(II)Z"⟩
abbrev cX10_termCanBe : ByteArray := prog_12_method_2_code
theorem dX10_termCanBe_0 : decode cX10_termCanBe 0 = .ok (.iload_n 0, 1) := by decide +kernel
theorem dX10_termCanBe_1 : decode cX10_termCanBe 1 = .ok (.tableswitch 76 0 2 #[27, 44, 60], 27) := by decide +kernel
theorem dX10_termCanBe_28 : decode cX10_termCanBe 28 = .ok (.iload_n 1, 1) := by decide +kernel
theorem dX10_termCanBe_29 : decode cX10_termCanBe 29 = .ok (.ifCond .lt 14, 3) := by decide +kernel
theorem dX10_termCanBe_43 : decode cX10_termCanBe 43 = .ok (.iconst 0, 1) := by decide +kernel
theorem dX10_termCanBe_44 : decode cX10_termCanBe 44 = .ok (.ireturn, 1) := by decide +kernel
theorem dX10_termCanBe_32 : decode cX10_termCanBe 32 = .ok (.iload_n 1, 1) := by decide +kernel
theorem dX10_termCanBe_33 : decode cX10_termCanBe 33 = .ok (.sipush 9999, 3) := by decide +kernel
theorem dX10_termCanBe_36 : decode cX10_termCanBe 36 = .ok (.if_icmp .gt 7, 3) := by decide +kernel
theorem dX10_termCanBe_39 : decode cX10_termCanBe 39 = .ok (.iconst 1, 1) := by decide +kernel
theorem dX10_termCanBe_40 : decode cX10_termCanBe 40 = .ok (.goto 4, 3) := by decide +kernel
theorem dX10_termCanBe_45 : decode cX10_termCanBe 45 = .ok (.iload_n 1, 1) := by decide +kernel
theorem dX10_termCanBe_46 : decode cX10_termCanBe 46 = .ok (.ifCond .lt 13, 3) := by decide +kernel
theorem dX10_termCanBe_59 : decode cX10_termCanBe 59 = .ok (.iconst 0, 1) := by decide +kernel
theorem dX10_termCanBe_60 : decode cX10_termCanBe 60 = .ok (.ireturn, 1) := by decide +kernel
theorem dX10_termCanBe_49 : decode cX10_termCanBe 49 = .ok (.iload_n 1, 1) := by decide +kernel
theorem dX10_termCanBe_50 : decode cX10_termCanBe 50 = .ok (.bipush 10, 2) := by decide +kernel
theorem dX10_termCanBe_52 : decode cX10_termCanBe 52 = .ok (.if_icmp .gt 7, 3) := by decide +kernel
theorem dX10_termCanBe_55 : decode cX10_termCanBe 55 = .ok (.iconst 1, 1) := by decide +kernel
theorem dX10_termCanBe_56 : decode cX10_termCanBe 56 = .ok (.goto 4, 3) := by decide +kernel
theorem dX10_termCanBe_61 : decode cX10_termCanBe 61 = .ok (.iload_n 1, 1) := by decide +kernel
theorem dX10_termCanBe_62 : decode cX10_termCanBe 62 = .ok (.ifCond .lt 13, 3) := by decide +kernel
theorem dX10_termCanBe_75 : decode cX10_termCanBe 75 = .ok (.iconst 0, 1) := by decide +kernel
theorem dX10_termCanBe_76 : decode cX10_termCanBe 76 = .ok (.ireturn, 1) := by decide +kernel
theorem dX10_termCanBe_65 : decode cX10_termCanBe 65 = .ok (.iload_n 1, 1) := by decide +kernel
theorem dX10_termCanBe_66 : decode cX10_termCanBe 66 = .ok (.bipush 9, 2) := by decide +kernel
theorem dX10_termCanBe_68 : decode cX10_termCanBe 68 = .ok (.if_icmp .gt 7, 3) := by decide +kernel
theorem dX10_termCanBe_71 : decode cX10_termCanBe 71 = .ok (.iconst 1, 1) := by decide +kernel
theorem dX10_termCanBe_72 : decode cX10_termCanBe 72 = .ok (.goto 4, 3) := by decide +kernel
theorem dX10_termCanBe_77 : decode cX10_termCanBe 77 = .ok (.iconst 0, 1) := by decide +kernel
theorem dX10_termCanBe_78 : decode cX10_termCanBe 78 = .ok (.ireturn, 1) := by decide +kernel
def yX10_hasLaw : MethodName := ⟨RX10, "hasLaw", "(I)Z"⟩
abbrev cX10_hasLaw : ByteArray := prog_12_method_3_code
theorem dX10_hasLaw_0 : decode cX10_hasLaw 0 = .ok (.iload_n 1, 1) := by decide +kernel
theorem dX10_hasLaw_1 : decode cX10_hasLaw 1 = .ok (.iconst (-1), 1) := by decide +kernel
theorem dX10_hasLaw_2 : decode cX10_hasLaw 2 = .ok (.if_icmp .lt 15, 3) := by decide +kernel
theorem dX10_hasLaw_17 : decode cX10_hasLaw 17 = .ok (.iconst 0, 1) := by decide +kernel
theorem dX10_hasLaw_18 : decode cX10_hasLaw 18 = .ok (.ireturn, 1) := by decide +kernel
theorem dX10_hasLaw_5 : decode cX10_hasLaw 5 = .ok (.iload_n 1, 1) := by decide +kernel
theorem dX10_hasLaw_6 : decode cX10_hasLaw 6 = .ok (.aload_n 0, 1) := by decide +kernel
theorem dX10_hasLaw_7 : decode cX10_hasLaw 7 = .ok (.getfield 46, 3) := by decide +kernel
theorem fl_RX10_46 : Cond.fieldLink RX10 46 RX10 "lawCount" "I" ∈ gW := gW_u tb_1 234 (by rfl) (by decide +kernel)
theorem dX10_hasLaw_10 : decode cX10_hasLaw 10 = .ok (.if_icmp .ge 7, 3) := by decide +kernel
theorem dX10_hasLaw_13 : decode cX10_hasLaw 13 = .ok (.iconst 1, 1) := by decide +kernel
theorem dX10_hasLaw_14 : decode cX10_hasLaw 14 = .ok (.goto 4, 3) := by decide +kernel
def yX11_settle : MethodName := ⟨RX11, "settle", "(I)I"⟩
abbrev cX11_settle : ByteArray := prog_1_method_46_code
theorem dX11_settle_0 : decode cX11_settle 0 = .ok (.aload_n 0, 1) := by decide +kernel
theorem dX11_settle_1 : decode cX11_settle 1 = .ok (.iload_n 1, 1) := by decide +kernel
theorem dX11_settle_2 : decode cX11_settle 2 = .ok (.ifCond .ge 7, 3) := by decide +kernel
theorem dX11_settle_9 : decode cX11_settle 9 = .ok (.iconst 0, 1) := by decide +kernel
theorem dX11_settle_5 : decode cX11_settle 5 = .ok (.iload_n 1, 1) := by decide +kernel
theorem dX11_settle_6 : decode cX11_settle 6 = .ok (.goto 4, 3) := by decide +kernel
theorem dX11_settle_10 : decode cX11_settle 10 = .ok (.putfield 249, 3) := by decide +kernel
theorem fl_RX11_249 : Cond.fieldLink RX11 249 RX11 "latestRefusal" "I" ∈ gW := gW_u tb_2 219 (by rfl) (by decide +kernel)
theorem dX11_settle_13 : decode cX11_settle 13 = .ok (.iload_n 1, 1) := by decide +kernel
theorem dX11_settle_14 : decode cX11_settle 14 = .ok (.ifCond .ge 24, 3) := by decide +kernel
theorem dX11_settle_38 : decode cX11_settle 38 = .ok (.iload_n 1, 1) := by decide +kernel
theorem dX11_settle_39 : decode cX11_settle 39 = .ok (.ireturn, 1) := by decide +kernel
theorem dX11_settle_17 : decode cX11_settle 17 = .ok (.iload_n 1, 1) := by decide +kernel
theorem dX11_settle_18 : decode cX11_settle 18 = .ok (.ineg, 1) := by decide +kernel
theorem dX11_settle_19 : decode cX11_settle 19 = .ok (.aload_n 0, 1) := by decide +kernel
theorem dX11_settle_20 : decode cX11_settle 20 = .ok (.getfield 74, 3) := by decide +kernel
theorem fl_RX11_74 : Cond.fieldLink RX11 74 RX11 "refusals" "[I" ∈ gW := gW_u tb_2 218 (by rfl) (by decide +kernel)
theorem dX11_settle_23 : decode cX11_settle 23 = .ok (.arraylength, 1) := by decide +kernel
theorem dX11_settle_24 : decode cX11_settle 24 = .ok (.if_icmp .ge 14, 3) := by decide +kernel
theorem dX11_settle_27 : decode cX11_settle 27 = .ok (.aload_n 0, 1) := by decide +kernel
theorem dX11_settle_28 : decode cX11_settle 28 = .ok (.getfield 74, 3) := by decide +kernel
theorem dX11_settle_31 : decode cX11_settle 31 = .ok (.iload_n 1, 1) := by decide +kernel
theorem dX11_settle_32 : decode cX11_settle 32 = .ok (.ineg, 1) := by decide +kernel
theorem dX11_settle_33 : decode cX11_settle 33 = .ok (.dup2, 1) := by decide +kernel
theorem dX11_settle_34 : decode cX11_settle 34 = .ok (.iaload, 1) := by decide +kernel
theorem dX11_settle_35 : decode cX11_settle 35 = .ok (.iconst 1, 1) := by decide +kernel
theorem dX11_settle_36 : decode cX11_settle 36 = .ok (.iadd, 1) := by decide +kernel
theorem dX11_settle_37 : decode cX11_settle 37 = .ok (.iastore, 1) := by decide +kernel
def yX11_put : MethodName := ⟨RX11, "put", "(III)I"⟩
abbrev cX11_put : ByteArray := prog_1_method_2_code
theorem dX11_put_0 : decode cX11_put 0 = .ok (.aload_n 0, 1) := by decide +kernel
theorem dX11_put_1 : decode cX11_put 1 = .ok (.getfield 21, 3) := by decide +kernel
theorem fl_RX11_21 : Cond.fieldLink RX11 21 RX11 "site" "LListenWells$Site;" ∈ gW := gW_u tb_2 207 (by rfl) (by decide +kernel)
theorem dX11_put_4 : decode cX11_put 4 = .ok (.getfield 78, 3) := by decide +kernel
theorem fl_RX11_78 : Cond.fieldLink RX11 78 RX7 "world" "LListenWells$World;" ∈ gW := gW_u tb_2 50 (by rfl) (by decide +kernel)
theorem dX11_put_7 : decode cX11_put 7 = .ok (.astore 4, 2) := by decide +kernel
theorem dX11_put_9 : decode cX11_put 9 = .ok (.iload_n 1, 1) := by decide +kernel
theorem dX11_put_10 : decode cX11_put 10 = .ok (.bipush 40, 2) := by decide +kernel
theorem dX11_put_12 : decode cX11_put 12 = .ok (.invokestatic 82, 3) := by decide +kernel
theorem lk_RX11_82 : Cond.methodLink RX11 82 yX11_isWithin ∈ gW := gW_u tb_3 13 (by rfl) (by decide +kernel)
theorem mT_X11_isWithin : Cond.static yX11_isWithin ∈ gW := gW_u tb_3 14 (by rfl) (by decide +kernel)
theorem mN_RX11 : Cond.initialized RX11 ∈ gW := gW_u tb_1 1 (by rfl) (by decide +kernel)
theorem mC_X11_isWithin : Cond.code yX11_isWithin cX11_isWithin 2 (some .boolean) ∈ gW := gW_u tb_3 15 (by rfl) (by decide +kernel)
theorem ok_X11_isWithin : okD yX11_isWithin 2 := ⟨by decide +kernel, by decide +kernel, by decide +kernel⟩
theorem dX11_put_15 : decode cX11_put 15 = .ok (.ifCond .eq 11, 3) := by decide +kernel
theorem dX11_put_26 : decode cX11_put 26 = .ok (.aload_n 0, 1) := by decide +kernel
theorem dX11_put_27 : decode cX11_put 27 = .ok (.iconst (-1), 1) := by decide +kernel
theorem dX11_put_28 : decode cX11_put 28 = .ok (.invokevirtual 91, 3) := by decide +kernel
theorem lk_RX11_91 : Cond.methodLink RX11 91 yX11_settle ∈ gW := gW_u tb_3 19 (by rfl) (by decide +kernel)
theorem mI_X11_settle : Cond.instanceMethod yX11_settle ∈ gW := gW_u tb_3 21 (by rfl) (by decide +kernel)
theorem mS_X11_settle : Cond.selects RX11 yX11_settle yX11_settle ∈ gW := gW_p (q := (yX11_settle, 14)) 0 (by decide +kernel)
theorem mC_X11_settle : Cond.code yX11_settle cX11_settle 2 (some .int) ∈ gW := gW_u tb_3 22 (by rfl) (by decide +kernel)
theorem ok_X11_settle : okD yX11_settle 1 := ⟨by decide +kernel, by decide +kernel, by decide +kernel⟩
theorem dX11_put_31 : decode cX11_put 31 = .ok (.ireturn, 1) := by decide +kernel
theorem dX11_put_18 : decode cX11_put 18 = .ok (.iload_n 2, 1) := by decide +kernel
theorem dX11_put_19 : decode cX11_put 19 = .ok (.iload_n 3, 1) := by decide +kernel
theorem dX11_put_20 : decode cX11_put 20 = .ok (.invokestatic 86, 3) := by decide +kernel
theorem lk_RX11_86 : Cond.methodLink RX11 86 yX6_canBe ∈ gW := gW_u tb_3 16 (by rfl) (by decide +kernel)
theorem mT_X6_canBe : Cond.static yX6_canBe ∈ gW := gW_u tb_3 17 (by rfl) (by decide +kernel)
theorem mN_RX6 : Cond.initialized RX6 ∈ gW := gW_u tb_1 5 (by rfl) (by decide +kernel)
theorem mC_X6_canBe : Cond.code yX6_canBe cX6_canBe 2 (some .boolean) ∈ gW := gW_u tb_3 18 (by rfl) (by decide +kernel)
theorem ok_X6_canBe : okD yX6_canBe 2 := ⟨by decide +kernel, by decide +kernel, by decide +kernel⟩
theorem dX11_put_23 : decode cX11_put 23 = .ok (.ifCond .ne 9, 3) := by decide +kernel
theorem dX11_put_32 : decode cX11_put 32 = .ok (.iload_n 2, 1) := by decide +kernel
theorem dX11_put_33 : decode cX11_put 33 = .ok (.ifCond .ne 22, 3) := by decide +kernel
theorem dX11_put_36 : decode cX11_put 36 = .ok (.aload 4, 2) := by decide +kernel
theorem dX11_put_38 : decode cX11_put 38 = .ok (.getfield 95, 3) := by decide +kernel
theorem fl_RX11_95 : Cond.fieldLink RX11 95 RX10 "rock" "LListenWells$Rock;" ∈ gW := gW_u tb_1 214 (by rfl) (by decide +kernel)
theorem dX11_put_41 : decode cX11_put 41 = .ok (.iload_n 1, 1) := by decide +kernel
theorem dX11_put_42 : decode cX11_put 42 = .ok (.invokevirtual 99, 3) := by decide +kernel
theorem lk_RX11_99 : Cond.methodLink RX11 99 yX6_isDug ∈ gW := gW_u tb_3 23 (by rfl) (by decide +kernel)
theorem mI_X6_isDug : Cond.instanceMethod yX6_isDug ∈ gW := gW_u tb_3 24 (by rfl) (by decide +kernel)
theorem mS_X6_isDug : Cond.selects RX6 yX6_isDug yX6_isDug ∈ gW := gW_u tb_3 25 (by rfl) (by decide +kernel)
theorem mC_X6_isDug : Cond.code yX6_isDug cX6_isDug 2 (some .boolean) ∈ gW := gW_u tb_3 26 (by rfl) (by decide +kernel)
theorem ok_X6_isDug : okD yX6_isDug 1 := ⟨by decide +kernel, by decide +kernel, by decide +kernel⟩
theorem dX11_put_45 : decode cX11_put 45 = .ok (.ifCond .eq 10, 3) := by decide +kernel
theorem dX11_put_48 : decode cX11_put 48 = .ok (.aload_n 0, 1) := by decide +kernel
theorem dX11_put_49 : decode cX11_put 49 = .ok (.bipush (-3), 2) := by decide +kernel
theorem dX11_put_51 : decode cX11_put 51 = .ok (.invokevirtual 91, 3) := by decide +kernel
theorem dX11_put_54 : decode cX11_put 54 = .ok (.ireturn, 1) := by decide +kernel
theorem dX11_put_55 : decode cX11_put 55 = .ok (.aload 4, 2) := by decide +kernel
theorem dX11_put_57 : decode cX11_put 57 = .ok (.getfield 95, 3) := by decide +kernel
theorem dX11_put_60 : decode cX11_put 60 = .ok (.iload_n 2, 1) := by decide +kernel
theorem dX11_put_61 : decode cX11_put 61 = .ok (.invokevirtual 103, 3) := by decide +kernel
theorem lk_RX11_103 : Cond.methodLink RX11 103 yX6_rowOf ∈ gW := gW_u tb_3 27 (by rfl) (by decide +kernel)
theorem mI_X6_rowOf : Cond.instanceMethod yX6_rowOf ∈ gW := gW_u tb_3 28 (by rfl) (by decide +kernel)
theorem mS_X6_rowOf : Cond.selects RX6 yX6_rowOf yX6_rowOf ∈ gW := gW_u tb_3 29 (by rfl) (by decide +kernel)
theorem mC_X6_rowOf : Cond.code yX6_rowOf cX6_rowOf 2 (some (.array .int)) ∈ gW := gW_u tb_3 30 (by rfl) (by decide +kernel)
theorem ok_X6_rowOf : okD yX6_rowOf 1 := ⟨by decide +kernel, by decide +kernel, by decide +kernel⟩
theorem dX11_put_64 : decode cX11_put 64 = .ok (.astore 5, 2) := by decide +kernel
theorem dX11_put_66 : decode cX11_put 66 = .ok (.aload 5, 2) := by decide +kernel
theorem dX11_put_68 : decode cX11_put 68 = .ok (.iload_n 1, 1) := by decide +kernel
theorem dX11_put_69 : decode cX11_put 69 = .ok (.iaload, 1) := by decide +kernel
theorem dX11_put_70 : decode cX11_put 70 = .ok (.istore 6, 2) := by decide +kernel
theorem dX11_put_72 : decode cX11_put 72 = .ok (.aload 5, 2) := by decide +kernel
theorem dX11_put_74 : decode cX11_put 74 = .ok (.iload_n 1, 1) := by decide +kernel
theorem dX11_put_75 : decode cX11_put 75 = .ok (.iload_n 3, 1) := by decide +kernel
theorem dX11_put_76 : decode cX11_put 76 = .ok (.iastore, 1) := by decide +kernel
theorem dX11_put_77 : decode cX11_put 77 = .ok (.aload_n 0, 1) := by decide +kernel
theorem dX11_put_78 : decode cX11_put 78 = .ok (.getfield 21, 3) := by decide +kernel
theorem dX11_put_81 : decode cX11_put 81 = .ok (.getfield 107, 3) := by decide +kernel
theorem fl_RX11_107 : Cond.fieldLink RX11 107 RX7 "diary" "LListenWells$Diary;" ∈ gW := gW_u tb_2 52 (by rfl) (by decide +kernel)
theorem dX11_put_84 : decode cX11_put 84 = .ok (.invokevirtual 111, 3) := by decide +kernel
theorem lk_RX11_111 : Cond.methodLink RX11 111 yX2_clear ∈ gW := gW_u tb_3 31 (by rfl) (by decide +kernel)
theorem mI_X2_clear : Cond.instanceMethod yX2_clear ∈ gW := gW_u tb_3 32 (by rfl) (by decide +kernel)
theorem mS_X2_clear : Cond.selects RX2 yX2_clear yX2_clear ∈ gW := gW_u tb_3 33 (by rfl) (by decide +kernel)
theorem mN_RX2 : Cond.initialized RX2 ∈ gW := gW_u tb_1 9 (by rfl) (by decide +kernel)
theorem mC_X2_clear : Cond.code yX2_clear cX2_clear 1 none ∈ gW := gW_u tb_3 34 (by rfl) (by decide +kernel)
theorem ok_X2_clear : okD yX2_clear 0 := ⟨by decide +kernel, by decide +kernel, by decide +kernel⟩
theorem dX11_put_87 : decode cX11_put 87 = .ok (.aload_n 0, 1) := by decide +kernel
theorem dX11_put_88 : decode cX11_put 88 = .ok (.iload 6, 2) := by decide +kernel
theorem dX11_put_90 : decode cX11_put 90 = .ok (.invokevirtual 91, 3) := by decide +kernel
theorem dX11_put_93 : decode cX11_put 93 = .ok (.ireturn, 1) := by decide +kernel
def yX11_terms : MethodName := ⟨RX11, "terms", "(II)I"⟩
abbrev cX11_terms : ByteArray := prog_1_method_9_code
theorem dX11_terms_0 : decode cX11_terms 0 = .ok (.iload_n 1, 1) := by decide +kernel
theorem dX11_terms_1 : decode cX11_terms 1 = .ok (.iload_n 2, 1) := by decide +kernel
theorem dX11_terms_2 : decode cX11_terms 2 = .ok (.invokestatic 190, 3) := by decide +kernel
theorem lk_RX11_190 : Cond.methodLink RX11 190 yX10_termCanBe ∈ gW := gW_u tb_3 150 (by rfl) (by decide +kernel)
theorem mT_X10_termCanBe : Cond.static yX10_termCanBe ∈ gW := gW_u tb_3 151 (by rfl) (by decide +kernel)
theorem mN_RX10 : Cond.initialized RX10 ∈ gW := gW_u tb_1 4 (by rfl) (by decide +kernel)
theorem mC_X10_termCanBe : Cond.code yX10_termCanBe cX10_termCanBe 2 (some .boolean) ∈ gW := gW_u tb_3 152 (by rfl) (by decide +kernel)
theorem ok_X10_termCanBe : okD yX10_termCanBe 2 := ⟨by decide +kernel, by decide +kernel, by decide +kernel⟩
theorem dX11_terms_5 : decode cX11_terms 5 = .ok (.ifCond .ne 9, 3) := by decide +kernel
theorem dX11_terms_14 : decode cX11_terms 14 = .ok (.aload_n 0, 1) := by decide +kernel
theorem dX11_terms_15 : decode cX11_terms 15 = .ok (.getfield 21, 3) := by decide +kernel
theorem dX11_terms_18 : decode cX11_terms 18 = .ok (.getfield 78, 3) := by decide +kernel
theorem dX11_terms_21 : decode cX11_terms 21 = .ok (.getfield 193, 3) := by decide +kernel
theorem fl_RX11_193 : Cond.fieldLink RX11 193 RX10 "term" "[I" ∈ gW := gW_u tb_1 230 (by rfl) (by decide +kernel)
theorem dX11_terms_24 : decode cX11_terms 24 = .ok (.iload_n 1, 1) := by decide +kernel
theorem dX11_terms_25 : decode cX11_terms 25 = .ok (.iaload, 1) := by decide +kernel
theorem dX11_terms_26 : decode cX11_terms 26 = .ok (.istore_n 3, 1) := by decide +kernel
theorem dX11_terms_27 : decode cX11_terms 27 = .ok (.aload_n 0, 1) := by decide +kernel
theorem dX11_terms_28 : decode cX11_terms 28 = .ok (.getfield 21, 3) := by decide +kernel
theorem dX11_terms_31 : decode cX11_terms 31 = .ok (.getfield 78, 3) := by decide +kernel
theorem dX11_terms_34 : decode cX11_terms 34 = .ok (.getfield 193, 3) := by decide +kernel
theorem dX11_terms_37 : decode cX11_terms 37 = .ok (.iload_n 1, 1) := by decide +kernel
theorem dX11_terms_38 : decode cX11_terms 38 = .ok (.iload_n 2, 1) := by decide +kernel
theorem dX11_terms_39 : decode cX11_terms 39 = .ok (.iastore, 1) := by decide +kernel
theorem dX11_terms_40 : decode cX11_terms 40 = .ok (.aload_n 0, 1) := by decide +kernel
theorem dX11_terms_41 : decode cX11_terms 41 = .ok (.getfield 21, 3) := by decide +kernel
theorem dX11_terms_44 : decode cX11_terms 44 = .ok (.getfield 107, 3) := by decide +kernel
theorem dX11_terms_47 : decode cX11_terms 47 = .ok (.invokevirtual 111, 3) := by decide +kernel
theorem dX11_terms_50 : decode cX11_terms 50 = .ok (.aload_n 0, 1) := by decide +kernel
theorem dX11_terms_51 : decode cX11_terms 51 = .ok (.iload_n 3, 1) := by decide +kernel
theorem dX11_terms_52 : decode cX11_terms 52 = .ok (.invokevirtual 91, 3) := by decide +kernel
theorem dX11_terms_55 : decode cX11_terms 55 = .ok (.ireturn, 1) := by decide +kernel
theorem dX11_terms_8 : decode cX11_terms 8 = .ok (.aload_n 0, 1) := by decide +kernel
theorem dX11_terms_9 : decode cX11_terms 9 = .ok (.iconst (-1), 1) := by decide +kernel
theorem dX11_terms_10 : decode cX11_terms 10 = .ok (.invokevirtual 91, 3) := by decide +kernel
theorem dX11_terms_13 : decode cX11_terms 13 = .ok (.ireturn, 1) := by decide +kernel
def yX11_sink : MethodName := ⟨RX11, "sink", "(I)I"⟩
abbrev cX11_sink : ByteArray := prog_1_method_4_code
theorem dX11_sink_0 : decode cX11_sink 0 = .ok (.iload_n 1, 1) := by decide +kernel
theorem dX11_sink_1 : decode cX11_sink 1 = .ok (.bipush 8, 2) := by decide +kernel
theorem dX11_sink_3 : decode cX11_sink 3 = .ok (.invokestatic 82, 3) := by decide +kernel
theorem dX11_sink_6 : decode cX11_sink 6 = .ok (.ifCond .ne 9, 3) := by decide +kernel
theorem dX11_sink_15 : decode cX11_sink 15 = .ok (.aload_n 0, 1) := by decide +kernel
theorem dX11_sink_16 : decode cX11_sink 16 = .ok (.getfield 21, 3) := by decide +kernel
theorem dX11_sink_19 : decode cX11_sink 19 = .ok (.getfield 78, 3) := by decide +kernel
theorem dX11_sink_22 : decode cX11_sink 22 = .ok (.getfield 95, 3) := by decide +kernel
theorem dX11_sink_25 : decode cX11_sink 25 = .ok (.astore_n 2, 1) := by decide +kernel
theorem dX11_sink_26 : decode cX11_sink 26 = .ok (.aload_n 0, 1) := by decide +kernel
theorem dX11_sink_27 : decode cX11_sink 27 = .ok (.getfield 21, 3) := by decide +kernel
theorem dX11_sink_30 : decode cX11_sink 30 = .ok (.getfield 78, 3) := by decide +kernel
theorem dX11_sink_33 : decode cX11_sink 33 = .ok (.getfield 134, 3) := by decide +kernel
theorem fl_RX11_134 : Cond.fieldLink RX11 134 RX10 "crew" "LListenWells$Crew;" ∈ gW := gW_u tb_1 220 (by rfl) (by decide +kernel)
theorem dX11_sink_36 : decode cX11_sink 36 = .ok (.astore_n 3, 1) := by decide +kernel
theorem dX11_sink_37 : decode cX11_sink 37 = .ok (.aload_n 2, 1) := by decide +kernel
theorem dX11_sink_38 : decode cX11_sink 38 = .ok (.iload_n 1, 1) := by decide +kernel
theorem dX11_sink_39 : decode cX11_sink 39 = .ok (.invokevirtual 99, 3) := by decide +kernel
theorem dX11_sink_42 : decode cX11_sink 42 = .ok (.ifCond .ne 13, 3) := by decide +kernel
theorem dX11_sink_55 : decode cX11_sink 55 = .ok (.aload_n 0, 1) := by decide +kernel
theorem dX11_sink_56 : decode cX11_sink 56 = .ok (.bipush (-3), 2) := by decide +kernel
theorem dX11_sink_58 : decode cX11_sink 58 = .ok (.invokevirtual 91, 3) := by decide +kernel
theorem dX11_sink_61 : decode cX11_sink 61 = .ok (.ireturn, 1) := by decide +kernel
theorem dX11_sink_45 : decode cX11_sink 45 = .ok (.aload_n 2, 1) := by decide +kernel
theorem dX11_sink_46 : decode cX11_sink 46 = .ok (.getfield 124, 3) := by decide +kernel
theorem fl_RX11_124 : Cond.fieldLink RX11 124 RX6 "kind" "[I" ∈ gW := gW_u tb_1 90 (by rfl) (by decide +kernel)
theorem dX11_sink_49 : decode cX11_sink 49 = .ok (.iload_n 1, 1) := by decide +kernel
theorem dX11_sink_50 : decode cX11_sink 50 = .ok (.iaload, 1) := by decide +kernel
theorem dX11_sink_51 : decode cX11_sink 51 = .ok (.iconst 1, 1) := by decide +kernel
theorem dX11_sink_52 : decode cX11_sink 52 = .ok (.if_icmp .ne 10, 3) := by decide +kernel
theorem dX11_sink_62 : decode cX11_sink 62 = .ok (.aload_n 3, 1) := by decide +kernel
theorem dX11_sink_63 : decode cX11_sink 63 = .ok (.getfield 137, 3) := by decide +kernel
theorem fl_RX11_137 : Cond.fieldLink RX11 137 RX1 "count" "I" ∈ gW := gW_u tb_1 130 (by rfl) (by decide +kernel)
theorem dX11_sink_66 : decode cX11_sink 66 = .ok (.bipush 6, 2) := by decide +kernel
theorem dX11_sink_68 : decode cX11_sink 68 = .ok (.if_icmp .lt 10, 3) := by decide +kernel
theorem dX11_sink_78 : decode cX11_sink 78 = .ok (.aload_n 2, 1) := by decide +kernel
theorem dX11_sink_79 : decode cX11_sink 79 = .ok (.iload_n 1, 1) := by decide +kernel
theorem dX11_sink_80 : decode cX11_sink 80 = .ok (.invokevirtual 140, 3) := by decide +kernel
theorem lk_RX11_140 : Cond.methodLink RX11 140 yX6_mark ∈ gW := gW_u tb_3 96 (by rfl) (by decide +kernel)
theorem mI_X6_mark : Cond.instanceMethod yX6_mark ∈ gW := gW_u tb_3 97 (by rfl) (by decide +kernel)
theorem mS_X6_mark : Cond.selects RX6 yX6_mark yX6_mark ∈ gW := gW_u tb_3 98 (by rfl) (by decide +kernel)
theorem mC_X6_mark : Cond.code yX6_mark cX6_mark 2 none ∈ gW := gW_u tb_3 99 (by rfl) (by decide +kernel)
theorem ok_X6_mark : okD yX6_mark 1 := ⟨by decide +kernel, by decide +kernel, by decide +kernel⟩
theorem dX11_sink_83 : decode cX11_sink 83 = .ok (.aload_n 3, 1) := by decide +kernel
theorem dX11_sink_84 : decode cX11_sink 84 = .ok (.iload_n 1, 1) := by decide +kernel
theorem dX11_sink_85 : decode cX11_sink 85 = .ok (.invokevirtual 144, 3) := by decide +kernel
theorem lk_RX11_144 : Cond.methodLink RX11 144 yX1_add ∈ gW := gW_u tb_3 100 (by rfl) (by decide +kernel)
theorem mI_X1_add : Cond.instanceMethod yX1_add ∈ gW := gW_u tb_3 101 (by rfl) (by decide +kernel)
theorem mS_X1_add : Cond.selects RX1 yX1_add yX1_add ∈ gW := gW_u tb_3 102 (by rfl) (by decide +kernel)
theorem mN_RX1 : Cond.initialized RX1 ∈ gW := gW_u tb_1 7 (by rfl) (by decide +kernel)
theorem mC_X1_add : Cond.code yX1_add cX1_add 2 none ∈ gW := gW_u tb_3 103 (by rfl) (by decide +kernel)
theorem ok_X1_add : okD yX1_add 1 := ⟨by decide +kernel, by decide +kernel, by decide +kernel⟩
theorem dX11_sink_88 : decode cX11_sink 88 = .ok (.aload_n 0, 1) := by decide +kernel
theorem dX11_sink_89 : decode cX11_sink 89 = .ok (.getfield 21, 3) := by decide +kernel
theorem dX11_sink_92 : decode cX11_sink 92 = .ok (.getfield 107, 3) := by decide +kernel
theorem dX11_sink_95 : decode cX11_sink 95 = .ok (.invokevirtual 111, 3) := by decide +kernel
theorem dX11_sink_98 : decode cX11_sink 98 = .ok (.aload_n 0, 1) := by decide +kernel
theorem dX11_sink_99 : decode cX11_sink 99 = .ok (.aload_n 3, 1) := by decide +kernel
theorem dX11_sink_100 : decode cX11_sink 100 = .ok (.getfield 137, 3) := by decide +kernel
theorem dX11_sink_103 : decode cX11_sink 103 = .ok (.iconst 1, 1) := by decide +kernel
theorem dX11_sink_104 : decode cX11_sink 104 = .ok (.isub, 1) := by decide +kernel
theorem dX11_sink_105 : decode cX11_sink 105 = .ok (.invokevirtual 91, 3) := by decide +kernel
theorem dX11_sink_108 : decode cX11_sink 108 = .ok (.ireturn, 1) := by decide +kernel
theorem dX11_sink_71 : decode cX11_sink 71 = .ok (.aload_n 0, 1) := by decide +kernel
theorem dX11_sink_72 : decode cX11_sink 72 = .ok (.bipush (-5), 2) := by decide +kernel
theorem dX11_sink_74 : decode cX11_sink 74 = .ok (.invokevirtual 91, 3) := by decide +kernel
theorem dX11_sink_77 : decode cX11_sink 77 = .ok (.ireturn, 1) := by decide +kernel
theorem dX11_sink_9 : decode cX11_sink 9 = .ok (.aload_n 0, 1) := by decide +kernel
theorem dX11_sink_10 : decode cX11_sink 10 = .ok (.iconst (-1), 1) := by decide +kernel
theorem dX11_sink_11 : decode cX11_sink 11 = .ok (.invokevirtual 91, 3) := by decide +kernel
theorem dX11_sink_14 : decode cX11_sink 14 = .ok (.ireturn, 1) := by decide +kernel
def yX11_heard : MethodName := ⟨RX11, "heard", "(II)I"⟩
abbrev cX11_heard : ByteArray := prog_1_method_31_code
theorem dX11_heard_0 : decode cX11_heard 0 = .ok (.iload_n 1, 1) := by decide +kernel
theorem dX11_heard_1 : decode cX11_heard 1 = .ok (.bipush 8, 2) := by decide +kernel
theorem dX11_heard_3 : decode cX11_heard 3 = .ok (.invokestatic 82, 3) := by decide +kernel
theorem dX11_heard_6 : decode cX11_heard 6 = .ok (.ifCond .eq 12, 3) := by decide +kernel
theorem dX11_heard_18 : decode cX11_heard 18 = .ok (.aload_n 0, 1) := by decide +kernel
theorem dX11_heard_19 : decode cX11_heard 19 = .ok (.iconst (-1), 1) := by decide +kernel
theorem dX11_heard_20 : decode cX11_heard 20 = .ok (.invokevirtual 91, 3) := by decide +kernel
theorem dX11_heard_23 : decode cX11_heard 23 = .ok (.ireturn, 1) := by decide +kernel
theorem dX11_heard_9 : decode cX11_heard 9 = .ok (.iload_n 2, 1) := by decide +kernel
theorem dX11_heard_10 : decode cX11_heard 10 = .ok (.bipush 100, 2) := by decide +kernel
theorem dX11_heard_12 : decode cX11_heard 12 = .ok (.invokestatic 82, 3) := by decide +kernel
theorem dX11_heard_15 : decode cX11_heard 15 = .ok (.ifCond .ne 9, 3) := by decide +kernel
theorem dX11_heard_24 : decode cX11_heard 24 = .ok (.aload_n 0, 1) := by decide +kernel
theorem dX11_heard_25 : decode cX11_heard 25 = .ok (.getfield 21, 3) := by decide +kernel
theorem dX11_heard_28 : decode cX11_heard 28 = .ok (.getfield 78, 3) := by decide +kernel
theorem dX11_heard_31 : decode cX11_heard 31 = .ok (.getfield 156, 3) := by decide +kernel
theorem fl_RX11_156 : Cond.fieldLink RX11 156 RX10 "folk" "LListenWells$Folk;" ∈ gW := gW_u tb_1 226 (by rfl) (by decide +kernel)
theorem dX11_heard_34 : decode cX11_heard 34 = .ok (.astore_n 3, 1) := by decide +kernel
theorem dX11_heard_35 : decode cX11_heard 35 = .ok (.aload_n 3, 1) := by decide +kernel
theorem dX11_heard_36 : decode cX11_heard 36 = .ok (.getfield 329, 3) := by decide +kernel
theorem fl_RX11_329 : Cond.fieldLink RX11 329 RX4 "hearsay" "I" ∈ gW := gW_u tb_1 178 (by rfl) (by decide +kernel)
theorem dX11_heard_39 : decode cX11_heard 39 = .ok (.bipush 8, 2) := by decide +kernel
theorem dX11_heard_41 : decode cX11_heard 41 = .ok (.if_icmp .lt 10, 3) := by decide +kernel
theorem dX11_heard_51 : decode cX11_heard 51 = .ok (.aload_n 3, 1) := by decide +kernel
theorem dX11_heard_52 : decode cX11_heard 52 = .ok (.iload_n 1, 1) := by decide +kernel
theorem dX11_heard_53 : decode cX11_heard 53 = .ok (.iload_n 2, 1) := by decide +kernel
theorem dX11_heard_54 : decode cX11_heard 54 = .ok (.invokevirtual 332, 3) := by decide +kernel
theorem lk_RX11_332 : Cond.methodLink RX11 332 yX4_addHearsay ∈ gW := gW_u tb_5 170 (by rfl) (by decide +kernel)
theorem mI_X4_addHearsay : Cond.instanceMethod yX4_addHearsay ∈ gW := gW_u tb_5 171 (by rfl) (by decide +kernel)
theorem mS_X4_addHearsay : Cond.selects RX4 yX4_addHearsay yX4_addHearsay ∈ gW := gW_u tb_5 172 (by rfl) (by decide +kernel)
theorem mN_RX4 : Cond.initialized RX4 ∈ gW := gW_u tb_1 8 (by rfl) (by decide +kernel)
theorem mC_X4_addHearsay : Cond.code yX4_addHearsay cX4_addHearsay 3 none ∈ gW := gW_u tb_5 173 (by rfl) (by decide +kernel)
theorem ok_X4_addHearsay : okD yX4_addHearsay 2 := ⟨by decide +kernel, by decide +kernel, by decide +kernel⟩
theorem dX11_heard_57 : decode cX11_heard 57 = .ok (.aload_n 0, 1) := by decide +kernel
theorem dX11_heard_58 : decode cX11_heard 58 = .ok (.aload_n 3, 1) := by decide +kernel
theorem dX11_heard_59 : decode cX11_heard 59 = .ok (.getfield 329, 3) := by decide +kernel
theorem dX11_heard_62 : decode cX11_heard 62 = .ok (.invokevirtual 91, 3) := by decide +kernel
theorem dX11_heard_65 : decode cX11_heard 65 = .ok (.ireturn, 1) := by decide +kernel
theorem dX11_heard_44 : decode cX11_heard 44 = .ok (.aload_n 0, 1) := by decide +kernel
theorem dX11_heard_45 : decode cX11_heard 45 = .ok (.bipush (-5), 2) := by decide +kernel
theorem dX11_heard_47 : decode cX11_heard 47 = .ok (.invokevirtual 91, 3) := by decide +kernel
theorem dX11_heard_50 : decode cX11_heard 50 = .ok (.ireturn, 1) := by decide +kernel
def yX11_well : MethodName := ⟨RX11, "well", "(II)I"⟩
abbrev cX11_well : ByteArray := prog_1_method_35_code
theorem dX11_well_0 : decode cX11_well 0 = .ok (.iload_n 1, 1) := by decide +kernel
theorem dX11_well_1 : decode cX11_well 1 = .ok (.bipush 64, 2) := by decide +kernel
theorem dX11_well_3 : decode cX11_well 3 = .ok (.invokestatic 82, 3) := by decide +kernel
theorem dX11_well_6 : decode cX11_well 6 = .ok (.ifCond .eq 11, 3) := by decide +kernel
theorem dX11_well_17 : decode cX11_well 17 = .ok (.aload_n 0, 1) := by decide +kernel
theorem dX11_well_18 : decode cX11_well 18 = .ok (.iconst (-1), 1) := by decide +kernel
theorem dX11_well_19 : decode cX11_well 19 = .ok (.invokevirtual 91, 3) := by decide +kernel
theorem dX11_well_22 : decode cX11_well 22 = .ok (.ireturn, 1) := by decide +kernel
theorem dX11_well_9 : decode cX11_well 9 = .ok (.iload_n 2, 1) := by decide +kernel
theorem dX11_well_10 : decode cX11_well 10 = .ok (.iconst 2, 1) := by decide +kernel
theorem dX11_well_11 : decode cX11_well 11 = .ok (.invokestatic 82, 3) := by decide +kernel
theorem dX11_well_14 : decode cX11_well 14 = .ok (.ifCond .ne 9, 3) := by decide +kernel
theorem dX11_well_23 : decode cX11_well 23 = .ok (.aload_n 0, 1) := by decide +kernel
theorem dX11_well_24 : decode cX11_well 24 = .ok (.getfield 21, 3) := by decide +kernel
theorem dX11_well_27 : decode cX11_well 27 = .ok (.getfield 78, 3) := by decide +kernel
theorem dX11_well_30 : decode cX11_well 30 = .ok (.getfield 156, 3) := by decide +kernel
theorem dX11_well_33 : decode cX11_well 33 = .ok (.astore_n 3, 1) := by decide +kernel
theorem dX11_well_34 : decode cX11_well 34 = .ok (.aload_n 3, 1) := by decide +kernel
theorem dX11_well_35 : decode cX11_well 35 = .ok (.getfield 335, 3) := by decide +kernel
theorem fl_RX11_335 : Cond.fieldLink RX11 335 RX4 "wells" "I" ∈ gW := gW_u tb_1 182 (by rfl) (by decide +kernel)
theorem dX11_well_38 : decode cX11_well 38 = .ok (.bipush 10, 2) := by decide +kernel
theorem dX11_well_40 : decode cX11_well 40 = .ok (.if_icmp .lt 10, 3) := by decide +kernel
theorem dX11_well_50 : decode cX11_well 50 = .ok (.aload_n 3, 1) := by decide +kernel
theorem dX11_well_51 : decode cX11_well 51 = .ok (.iload_n 1, 1) := by decide +kernel
theorem dX11_well_52 : decode cX11_well 52 = .ok (.iload_n 2, 1) := by decide +kernel
theorem dX11_well_53 : decode cX11_well 53 = .ok (.invokevirtual 346, 3) := by decide +kernel
theorem lk_RX11_346 : Cond.methodLink RX11 346 yX4_addWell ∈ gW := gW_u tb_5 207 (by rfl) (by decide +kernel)
theorem mI_X4_addWell : Cond.instanceMethod yX4_addWell ∈ gW := gW_u tb_5 208 (by rfl) (by decide +kernel)
theorem mS_X4_addWell : Cond.selects RX4 yX4_addWell yX4_addWell ∈ gW := gW_u tb_5 209 (by rfl) (by decide +kernel)
theorem mC_X4_addWell : Cond.code yX4_addWell cX4_addWell 3 none ∈ gW := gW_u tb_5 210 (by rfl) (by decide +kernel)
theorem ok_X4_addWell : okD yX4_addWell 2 := ⟨by decide +kernel, by decide +kernel, by decide +kernel⟩
theorem dX11_well_56 : decode cX11_well 56 = .ok (.aload_n 0, 1) := by decide +kernel
theorem dX11_well_57 : decode cX11_well 57 = .ok (.aload_n 3, 1) := by decide +kernel
theorem dX11_well_58 : decode cX11_well 58 = .ok (.getfield 335, 3) := by decide +kernel
theorem dX11_well_61 : decode cX11_well 61 = .ok (.invokevirtual 91, 3) := by decide +kernel
theorem dX11_well_64 : decode cX11_well 64 = .ok (.ireturn, 1) := by decide +kernel
theorem dX11_well_43 : decode cX11_well 43 = .ok (.aload_n 0, 1) := by decide +kernel
theorem dX11_well_44 : decode cX11_well 44 = .ok (.bipush (-5), 2) := by decide +kernel
theorem dX11_well_46 : decode cX11_well 46 = .ok (.invokevirtual 91, 3) := by decide +kernel
theorem dX11_well_49 : decode cX11_well 49 = .ok (.ireturn, 1) := by decide +kernel
def yX11_forget : MethodName := ⟨RX11, "forget", "()I"⟩
abbrev cX11_forget : ByteArray := prog_1_method_32_code
theorem dX11_forget_0 : decode cX11_forget 0 = .ok (.aload_n 0, 1) := by decide +kernel
theorem dX11_forget_1 : decode cX11_forget 1 = .ok (.getfield 21, 3) := by decide +kernel
theorem dX11_forget_4 : decode cX11_forget 4 = .ok (.getfield 78, 3) := by decide +kernel
theorem dX11_forget_7 : decode cX11_forget 7 = .ok (.getfield 156, 3) := by decide +kernel
theorem dX11_forget_10 : decode cX11_forget 10 = .ok (.astore_n 1, 1) := by decide +kernel
theorem dX11_forget_11 : decode cX11_forget 11 = .ok (.aload_n 1, 1) := by decide +kernel
theorem dX11_forget_12 : decode cX11_forget 12 = .ok (.getfield 329, 3) := by decide +kernel
theorem dX11_forget_15 : decode cX11_forget 15 = .ok (.aload_n 1, 1) := by decide +kernel
theorem dX11_forget_16 : decode cX11_forget 16 = .ok (.getfield 335, 3) := by decide +kernel
theorem dX11_forget_19 : decode cX11_forget 19 = .ok (.iadd, 1) := by decide +kernel
theorem dX11_forget_20 : decode cX11_forget 20 = .ok (.istore_n 2, 1) := by decide +kernel
theorem dX11_forget_21 : decode cX11_forget 21 = .ok (.aload_n 1, 1) := by decide +kernel
theorem dX11_forget_22 : decode cX11_forget 22 = .ok (.iconst 0, 1) := by decide +kernel
theorem dX11_forget_23 : decode cX11_forget 23 = .ok (.putfield 329, 3) := by decide +kernel
theorem dX11_forget_26 : decode cX11_forget 26 = .ok (.aload_n 1, 1) := by decide +kernel
theorem dX11_forget_27 : decode cX11_forget 27 = .ok (.iconst 0, 1) := by decide +kernel
theorem dX11_forget_28 : decode cX11_forget 28 = .ok (.putfield 335, 3) := by decide +kernel
theorem dX11_forget_31 : decode cX11_forget 31 = .ok (.iload_n 2, 1) := by decide +kernel
theorem dX11_forget_32 : decode cX11_forget 32 = .ok (.ireturn, 1) := by decide +kernel
def yX1_countIn : MethodName := ⟨RX1, "countIn", "(J)I"⟩
abbrev cX1_countIn : ByteArray := prog_3_method_3_code
theorem dX1_countIn_0 : decode cX1_countIn 0 = .ok (.iconst 0, 1) := by decide +kernel
theorem dX1_countIn_1 : decode cX1_countIn 1 = .ok (.istore_n 3, 1) := by decide +kernel
theorem dX1_countIn_2 : decode cX1_countIn 2 = .ok (.iconst 0, 1) := by decide +kernel
theorem dX1_countIn_3 : decode cX1_countIn 3 = .ok (.istore 4, 2) := by decide +kernel
theorem dX1_countIn_5 : decode cX1_countIn 5 = .ok (.iload 4, 2) := by decide +kernel
theorem dX1_countIn_7 : decode cX1_countIn 7 = .ok (.aload_n 0, 1) := by decide +kernel
theorem dX1_countIn_8 : decode cX1_countIn 8 = .ok (.getfield 18, 3) := by decide +kernel
theorem dX1_countIn_11 : decode cX1_countIn 11 = .ok (.if_icmp .ge 28, 3) := by decide +kernel
theorem dX1_countIn_14 : decode cX1_countIn 14 = .ok (.lload_n 1, 1) := by decide +kernel
theorem dX1_countIn_15 : decode cX1_countIn 15 = .ok (.aload_n 0, 1) := by decide +kernel
theorem dX1_countIn_16 : decode cX1_countIn 16 = .ok (.getfield 9, 3) := by decide +kernel
theorem dX1_countIn_19 : decode cX1_countIn 19 = .ok (.iload 4, 2) := by decide +kernel
theorem dX1_countIn_21 : decode cX1_countIn 21 = .ok (.iaload, 1) := by decide +kernel
theorem dX1_countIn_22 : decode cX1_countIn 22 = .ok (.lshr, 1) := by decide +kernel
theorem dX1_countIn_23 : decode cX1_countIn 23 = .ok (.lconst 1, 1) := by decide +kernel
theorem dX1_countIn_24 : decode cX1_countIn 24 = .ok (.land, 1) := by decide +kernel
theorem dX1_countIn_25 : decode cX1_countIn 25 = .ok (.lconst 0, 1) := by decide +kernel
theorem dX1_countIn_26 : decode cX1_countIn 26 = .ok (.lcmp, 1) := by decide +kernel
theorem dX1_countIn_27 : decode cX1_countIn 27 = .ok (.ifCond .eq 6, 3) := by decide +kernel
theorem dX1_countIn_33 : decode cX1_countIn 33 = .ok (.iinc 4 1, 3) := by decide +kernel
theorem dX1_countIn_36 : decode cX1_countIn 36 = .ok (.goto (-31), 3) := by decide +kernel
theorem dX1_countIn_30 : decode cX1_countIn 30 = .ok (.iinc 3 1, 3) := by decide +kernel
theorem dX1_countIn_39 : decode cX1_countIn 39 = .ok (.iload_n 3, 1) := by decide +kernel
theorem dX1_countIn_40 : decode cX1_countIn 40 = .ok (.ireturn, 1) := by decide +kernel
def yX1_allBuckets : MethodName := ⟨RX1, "allBuckets", "()I"⟩
abbrev cX1_allBuckets : ByteArray := prog_3_method_4_code
theorem dX1_allBuckets_0 : decode cX1_allBuckets 0 = .ok (.iconst 0, 1) := by decide +kernel
theorem dX1_allBuckets_1 : decode cX1_allBuckets 1 = .ok (.istore_n 1, 1) := by decide +kernel
theorem dX1_allBuckets_2 : decode cX1_allBuckets 2 = .ok (.iconst 0, 1) := by decide +kernel
theorem dX1_allBuckets_3 : decode cX1_allBuckets 3 = .ok (.istore_n 2, 1) := by decide +kernel
theorem dX1_allBuckets_4 : decode cX1_allBuckets 4 = .ok (.iload_n 2, 1) := by decide +kernel
theorem dX1_allBuckets_5 : decode cX1_allBuckets 5 = .ok (.aload_n 0, 1) := by decide +kernel
theorem dX1_allBuckets_6 : decode cX1_allBuckets 6 = .ok (.getfield 18, 3) := by decide +kernel
theorem dX1_allBuckets_9 : decode cX1_allBuckets 9 = .ok (.if_icmp .ge 18, 3) := by decide +kernel
theorem dX1_allBuckets_12 : decode cX1_allBuckets 12 = .ok (.iload_n 1, 1) := by decide +kernel
theorem dX1_allBuckets_13 : decode cX1_allBuckets 13 = .ok (.aload_n 0, 1) := by decide +kernel
theorem dX1_allBuckets_14 : decode cX1_allBuckets 14 = .ok (.getfield 15, 3) := by decide +kernel
theorem dX1_allBuckets_17 : decode cX1_allBuckets 17 = .ok (.iload_n 2, 1) := by decide +kernel
theorem dX1_allBuckets_18 : decode cX1_allBuckets 18 = .ok (.iaload, 1) := by decide +kernel
theorem dX1_allBuckets_19 : decode cX1_allBuckets 19 = .ok (.iadd, 1) := by decide +kernel
theorem dX1_allBuckets_20 : decode cX1_allBuckets 20 = .ok (.istore_n 1, 1) := by decide +kernel
theorem dX1_allBuckets_21 : decode cX1_allBuckets 21 = .ok (.iinc 2 1, 3) := by decide +kernel
theorem dX1_allBuckets_24 : decode cX1_allBuckets 24 = .ok (.goto (-20), 3) := by decide +kernel
theorem dX1_allBuckets_27 : decode cX1_allBuckets 27 = .ok (.iload_n 1, 1) := by decide +kernel
theorem dX1_allBuckets_28 : decode cX1_allBuckets 28 = .ok (.ireturn, 1) := by decide +kernel
def yX4_noiseIn : MethodName := ⟨RX4, "noiseIn", "(II)I"⟩
abbrev cX4_noiseIn : ByteArray := prog_6_method_4_code
theorem dX4_noiseIn_0 : decode cX4_noiseIn 0 = .ok (.aload_n 0, 1) := by decide +kernel
theorem dX4_noiseIn_1 : decode cX4_noiseIn 1 = .ok (.getfield 43, 3) := by decide +kernel
theorem fl_RX4_43 : Cond.fieldLink RX4 43 RX4 "hushed" "I" ∈ gW := gW_u tb_1 168 (by rfl) (by decide +kernel)
theorem dX4_noiseIn_4 : decode cX4_noiseIn 4 = .ok (.iload_n 2, 1) := by decide +kernel
theorem dX4_noiseIn_5 : decode cX4_noiseIn 5 = .ok (.ior, 1) := by decide +kernel
theorem dX4_noiseIn_6 : decode cX4_noiseIn 6 = .ok (.istore_n 3, 1) := by decide +kernel
theorem dX4_noiseIn_7 : decode cX4_noiseIn 7 = .ok (.iconst 0, 1) := by decide +kernel
theorem dX4_noiseIn_8 : decode cX4_noiseIn 8 = .ok (.istore 4, 2) := by decide +kernel
theorem dX4_noiseIn_10 : decode cX4_noiseIn 10 = .ok (.iconst 0, 1) := by decide +kernel
theorem dX4_noiseIn_11 : decode cX4_noiseIn 11 = .ok (.istore 5, 2) := by decide +kernel
theorem dX4_noiseIn_13 : decode cX4_noiseIn 13 = .ok (.iload 5, 2) := by decide +kernel
theorem dX4_noiseIn_15 : decode cX4_noiseIn 15 = .ok (.aload_n 0, 1) := by decide +kernel
theorem dX4_noiseIn_16 : decode cX4_noiseIn 16 = .ok (.getfield 40, 3) := by decide +kernel
theorem dX4_noiseIn_19 : decode cX4_noiseIn 19 = .ok (.if_icmp .ge 47, 3) := by decide +kernel
theorem dX4_noiseIn_22 : decode cX4_noiseIn 22 = .ok (.iload_n 3, 1) := by decide +kernel
theorem dX4_noiseIn_23 : decode cX4_noiseIn 23 = .ok (.iload 5, 2) := by decide +kernel
theorem dX4_noiseIn_25 : decode cX4_noiseIn 25 = .ok (.ishr, 1) := by decide +kernel
theorem dX4_noiseIn_26 : decode cX4_noiseIn 26 = .ok (.iconst 1, 1) := by decide +kernel
theorem dX4_noiseIn_27 : decode cX4_noiseIn 27 = .ok (.iand, 1) := by decide +kernel
theorem dX4_noiseIn_28 : decode cX4_noiseIn 28 = .ok (.ifCond .ne 32, 3) := by decide +kernel
theorem dX4_noiseIn_60 : decode cX4_noiseIn 60 = .ok (.iinc 5 1, 3) := by decide +kernel
theorem dX4_noiseIn_63 : decode cX4_noiseIn 63 = .ok (.goto (-50), 3) := by decide +kernel
theorem dX4_noiseIn_31 : decode cX4_noiseIn 31 = .ok (.iload 4, 2) := by decide +kernel
theorem dX4_noiseIn_33 : decode cX4_noiseIn 33 = .ok (.iconst 0, 1) := by decide +kernel
theorem dX4_noiseIn_34 : decode cX4_noiseIn 34 = .ok (.aload_n 0, 1) := by decide +kernel
theorem dX4_noiseIn_35 : decode cX4_noiseIn 35 = .ok (.getfield 21, 3) := by decide +kernel
theorem dX4_noiseIn_38 : decode cX4_noiseIn 38 = .ok (.iload 5, 2) := by decide +kernel
theorem dX4_noiseIn_40 : decode cX4_noiseIn 40 = .ok (.iaload, 1) := by decide +kernel
theorem dX4_noiseIn_41 : decode cX4_noiseIn 41 = .ok (.aload_n 0, 1) := by decide +kernel
theorem dX4_noiseIn_42 : decode cX4_noiseIn 42 = .ok (.getfield 18, 3) := by decide +kernel
theorem dX4_noiseIn_45 : decode cX4_noiseIn 45 = .ok (.iload 5, 2) := by decide +kernel
theorem dX4_noiseIn_47 : decode cX4_noiseIn 47 = .ok (.iaload, 1) := by decide +kernel
theorem dX4_noiseIn_48 : decode cX4_noiseIn 48 = .ok (.iload_n 1, 1) := by decide +kernel
theorem dX4_noiseIn_49 : decode cX4_noiseIn 49 = .ok (.isub, 1) := by decide +kernel
theorem dX4_noiseIn_50 : decode cX4_noiseIn 50 = .ok (.invokestatic 46, 3) := by decide +kernel
theorem lk_RX4_46 : Cond.methodLink RX4 46 Lib.Math.abs.name ∈ gW := gW_u tb_4 176 (by rfl) (by decide +kernel)
theorem lb_s_iabs : Cond.static Lib.Math.abs.name ∈ gW := gW_u tb_4 177 (by rfl) (by decide +kernel)
theorem lb_c_iabs : Cond.code Lib.Math.abs.name Lib.Math.abs.code 1 (some .int) ∈ gW := gW_u tb_4 178 (by rfl) (by decide +kernel)
theorem dX4_noiseIn_53 : decode cX4_noiseIn 53 = .ok (.isub, 1) := by decide +kernel
theorem dX4_noiseIn_54 : decode cX4_noiseIn 54 = .ok (.invokestatic 52, 3) := by decide +kernel
theorem lk_RX4_52 : Cond.methodLink RX4 52 Lib.Math.max.name ∈ gW := gW_u tb_4 179 (by rfl) (by decide +kernel)
theorem dX4_noiseIn_57 : decode cX4_noiseIn 57 = .ok (.iadd, 1) := by decide +kernel
theorem dX4_noiseIn_58 : decode cX4_noiseIn 58 = .ok (.istore 4, 2) := by decide +kernel
theorem dX4_noiseIn_66 : decode cX4_noiseIn 66 = .ok (.iload 4, 2) := by decide +kernel
theorem dX4_noiseIn_68 : decode cX4_noiseIn 68 = .ok (.ireturn, 1) := by decide +kernel
def yX6_waterIn : MethodName := ⟨RX6, "waterIn", "(J)I"⟩
abbrev cX6_waterIn : ByteArray := prog_8_method_9_code
theorem dX6_waterIn_0 : decode cX6_waterIn 0 = .ok (.iconst 0, 1) := by decide +kernel
theorem dX6_waterIn_1 : decode cX6_waterIn 1 = .ok (.istore_n 3, 1) := by decide +kernel
theorem dX6_waterIn_2 : decode cX6_waterIn 2 = .ok (.iconst 0, 1) := by decide +kernel
theorem dX6_waterIn_3 : decode cX6_waterIn 3 = .ok (.istore 4, 2) := by decide +kernel
theorem dX6_waterIn_5 : decode cX6_waterIn 5 = .ok (.iload 4, 2) := by decide +kernel
theorem dX6_waterIn_7 : decode cX6_waterIn 7 = .ok (.bipush 40, 2) := by decide +kernel
theorem dX6_waterIn_9 : decode cX6_waterIn 9 = .ok (.if_icmp .ge 30, 3) := by decide +kernel
theorem dX6_waterIn_12 : decode cX6_waterIn 12 = .ok (.lload_n 1, 1) := by decide +kernel
theorem dX6_waterIn_13 : decode cX6_waterIn 13 = .ok (.iload 4, 2) := by decide +kernel
theorem dX6_waterIn_15 : decode cX6_waterIn 15 = .ok (.lshr, 1) := by decide +kernel
theorem dX6_waterIn_16 : decode cX6_waterIn 16 = .ok (.lconst 1, 1) := by decide +kernel
theorem dX6_waterIn_17 : decode cX6_waterIn 17 = .ok (.land, 1) := by decide +kernel
theorem dX6_waterIn_18 : decode cX6_waterIn 18 = .ok (.lconst 0, 1) := by decide +kernel
theorem dX6_waterIn_19 : decode cX6_waterIn 19 = .ok (.lcmp, 1) := by decide +kernel
theorem dX6_waterIn_20 : decode cX6_waterIn 20 = .ok (.ifCond .eq 13, 3) := by decide +kernel
theorem dX6_waterIn_33 : decode cX6_waterIn 33 = .ok (.iinc 4 1, 3) := by decide +kernel
theorem dX6_waterIn_36 : decode cX6_waterIn 36 = .ok (.goto (-31), 3) := by decide +kernel
theorem dX6_waterIn_23 : decode cX6_waterIn 23 = .ok (.iload_n 3, 1) := by decide +kernel
theorem dX6_waterIn_24 : decode cX6_waterIn 24 = .ok (.aload_n 0, 1) := by decide +kernel
theorem dX6_waterIn_25 : decode cX6_waterIn 25 = .ok (.getfield 18, 3) := by decide +kernel
theorem dX6_waterIn_28 : decode cX6_waterIn 28 = .ok (.iload 4, 2) := by decide +kernel
theorem dX6_waterIn_30 : decode cX6_waterIn 30 = .ok (.iaload, 1) := by decide +kernel
theorem dX6_waterIn_31 : decode cX6_waterIn 31 = .ok (.iadd, 1) := by decide +kernel
theorem dX6_waterIn_32 : decode cX6_waterIn 32 = .ok (.istore_n 3, 1) := by decide +kernel
theorem dX6_waterIn_39 : decode cX6_waterIn 39 = .ok (.iload_n 3, 1) := by decide +kernel
theorem dX6_waterIn_40 : decode cX6_waterIn 40 = .ok (.ireturn, 1) := by decide +kernel
def yX5_addFour : MethodName := ⟨RX5, "addFour", "(I)V"⟩
abbrev cX5_addFour : ByteArray := prog_7_method_2_code
theorem dX5_addFour_0 : decode cX5_addFour 0 = .ok (.bipush 24, 2) := by decide +kernel
theorem dX5_addFour_2 : decode cX5_addFour 2 = .ok (.istore_n 2, 1) := by decide +kernel
theorem dX5_addFour_3 : decode cX5_addFour 3 = .ok (.iload_n 2, 1) := by decide +kernel
theorem dX5_addFour_4 : decode cX5_addFour 4 = .ok (.ifCond .lt 45, 3) := by decide +kernel
theorem dX5_addFour_7 : decode cX5_addFour 7 = .ok (.aload_n 0, 1) := by decide +kernel
theorem dX5_addFour_8 : decode cX5_addFour 8 = .ok (.getfield 34, 3) := by decide +kernel
theorem fl_RX5_34 : Cond.fieldLink RX5 34 RX5 "length" "I" ∈ gW := gW_u tb_2 108 (by rfl) (by decide +kernel)
theorem dX5_addFour_11 : decode cX5_addFour 11 = .ok (.sipush 400, 3) := by decide +kernel
theorem dX5_addFour_14 : decode cX5_addFour 14 = .ok (.if_icmp .ge 29, 3) := by decide +kernel
theorem dX5_addFour_43 : decode cX5_addFour 43 = .ok (.iinc 2 (-8), 3) := by decide +kernel
theorem dX5_addFour_46 : decode cX5_addFour 46 = .ok (.goto (-43), 3) := by decide +kernel
theorem dX5_addFour_17 : decode cX5_addFour 17 = .ok (.aload_n 0, 1) := by decide +kernel
theorem dX5_addFour_18 : decode cX5_addFour 18 = .ok (.getfield 9, 3) := by decide +kernel
theorem fl_RX5_9 : Cond.fieldLink RX5 9 RX5 "bytes" "[I" ∈ gW := gW_u tb_2 107 (by rfl) (by decide +kernel)
theorem dX5_addFour_21 : decode cX5_addFour 21 = .ok (.aload_n 0, 1) := by decide +kernel
theorem dX5_addFour_22 : decode cX5_addFour 22 = .ok (.getfield 34, 3) := by decide +kernel
theorem dX5_addFour_25 : decode cX5_addFour 25 = .ok (.iload_n 1, 1) := by decide +kernel
theorem dX5_addFour_26 : decode cX5_addFour 26 = .ok (.iload_n 2, 1) := by decide +kernel
theorem dX5_addFour_27 : decode cX5_addFour 27 = .ok (.ishr, 1) := by decide +kernel
theorem dX5_addFour_28 : decode cX5_addFour 28 = .ok (.sipush 255, 3) := by decide +kernel
theorem dX5_addFour_31 : decode cX5_addFour 31 = .ok (.iand, 1) := by decide +kernel
theorem dX5_addFour_32 : decode cX5_addFour 32 = .ok (.iastore, 1) := by decide +kernel
theorem dX5_addFour_33 : decode cX5_addFour 33 = .ok (.aload_n 0, 1) := by decide +kernel
theorem dX5_addFour_34 : decode cX5_addFour 34 = .ok (.dup, 1) := by decide +kernel
theorem dX5_addFour_35 : decode cX5_addFour 35 = .ok (.getfield 34, 3) := by decide +kernel
theorem dX5_addFour_38 : decode cX5_addFour 38 = .ok (.iconst 1, 1) := by decide +kernel
theorem dX5_addFour_39 : decode cX5_addFour 39 = .ok (.iadd, 1) := by decide +kernel
theorem dX5_addFour_40 : decode cX5_addFour 40 = .ok (.putfield 34, 3) := by decide +kernel
theorem dX5_addFour_49 : decode cX5_addFour 49 = .ok (.return_, 1) := by decide +kernel
