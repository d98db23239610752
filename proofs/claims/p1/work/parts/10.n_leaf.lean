def yX11_isWithin : MethodName := ⟨RX11, "isWithin", "(II)Z"⟩
abbrev cX11_isWithin : ByteArray := prog_1_method_48_code
theorem dX11_isWithin_0 : decode cX11_isWithin 0 = .ok (.iload_n 0, 1) := by decide +kernel
theorem dX11_isWithin_1 : decode cX11_isWithin 1 = .ok (.ifCond .lt 12, 3) := by decide +kernel
theorem dX11_isWithin_13 : decode cX11_isWithin 13 = .ok (.iconst 0, 1) := by decide +kernel
theorem dX11_isWithin_14 : decode cX11_isWithin 14 = .ok (.ireturn, 1) := by decide +kernel
theorem dX11_isWithin_4 : decode cX11_isWithin 4 = .ok (.iload_n 0, 1) := by decide +kernel
theorem dX11_isWithin_5 : decode cX11_isWithin 5 = .ok (.iload_n 1, 1) := by decide +kernel
theorem dX11_isWithin_6 : decode cX11_isWithin 6 = .ok (.if_icmp .ge 7, 3) := by decide +kernel
theorem dX11_isWithin_9 : decode cX11_isWithin 9 = .ok (.iconst 1, 1) := by decide +kernel
theorem dX11_isWithin_10 : decode cX11_isWithin 10 = .ok (.goto 4, 3) := by decide +kernel
def yX6_canBe : MethodName := ⟨RX6, "canBe", "(II)Z"⟩
abbrev cX6_canBe : ByteArray := prog_8_method_2_code
theorem dX6_canBe_0 : decode cX6_canBe 0 = .ok (.iload_n 0, 1) := by decide +kernel
theorem dX6_canBe_1 : decode cX6_canBe 1 = .ok (.tableswitch 75 0 2 #[27, 42, 59], 27) := by decide +kernel
theorem dX6_canBe_28 : decode cX6_canBe 28 = .ok (.iload_n 1, 1) := by decide +kernel
theorem dX6_canBe_29 : decode cX6_canBe 29 = .ok (.ifCond .lt 12, 3) := by decide +kernel
theorem dX6_canBe_41 : decode cX6_canBe 41 = .ok (.iconst 0, 1) := by decide +kernel
theorem dX6_canBe_42 : decode cX6_canBe 42 = .ok (.ireturn, 1) := by decide +kernel
theorem dX6_canBe_32 : decode cX6_canBe 32 = .ok (.iload_n 1, 1) := by decide +kernel
theorem dX6_canBe_33 : decode cX6_canBe 33 = .ok (.iconst 3, 1) := by decide +kernel
theorem dX6_canBe_34 : decode cX6_canBe 34 = .ok (.if_icmp .gt 7, 3) := by decide +kernel
theorem dX6_canBe_37 : decode cX6_canBe 37 = .ok (.iconst 1, 1) := by decide +kernel
theorem dX6_canBe_38 : decode cX6_canBe 38 = .ok (.goto 4, 3) := by decide +kernel
theorem dX6_canBe_43 : decode cX6_canBe 43 = .ok (.iload_n 1, 1) := by decide +kernel
theorem dX6_canBe_44 : decode cX6_canBe 44 = .ok (.iconst 1, 1) := by decide +kernel
theorem dX6_canBe_45 : decode cX6_canBe 45 = .ok (.if_icmp .lt 13, 3) := by decide +kernel
theorem dX6_canBe_58 : decode cX6_canBe 58 = .ok (.iconst 0, 1) := by decide +kernel
theorem dX6_canBe_59 : decode cX6_canBe 59 = .ok (.ireturn, 1) := by decide +kernel
theorem dX6_canBe_48 : decode cX6_canBe 48 = .ok (.iload_n 1, 1) := by decide +kernel
theorem dX6_canBe_49 : decode cX6_canBe 49 = .ok (.bipush 9, 2) := by decide +kernel
theorem dX6_canBe_51 : decode cX6_canBe 51 = .ok (.if_icmp .gt 7, 3) := by decide +kernel
theorem dX6_canBe_54 : decode cX6_canBe 54 = .ok (.iconst 1, 1) := by decide +kernel
theorem dX6_canBe_55 : decode cX6_canBe 55 = .ok (.goto 4, 3) := by decide +kernel
theorem dX6_canBe_60 : decode cX6_canBe 60 = .ok (.iload_n 1, 1) := by decide +kernel
theorem dX6_canBe_61 : decode cX6_canBe 61 = .ok (.ifCond .lt 13, 3) := by decide +kernel
theorem dX6_canBe_74 : decode cX6_canBe 74 = .ok (.iconst 0, 1) := by decide +kernel
theorem dX6_canBe_75 : decode cX6_canBe 75 = .ok (.ireturn, 1) := by decide +kernel
theorem dX6_canBe_64 : decode cX6_canBe 64 = .ok (.iload_n 1, 1) := by decide +kernel
theorem dX6_canBe_65 : decode cX6_canBe 65 = .ok (.bipush 99, 2) := by decide +kernel
theorem dX6_canBe_67 : decode cX6_canBe 67 = .ok (.if_icmp .gt 7, 3) := by decide +kernel
theorem dX6_canBe_70 : decode cX6_canBe 70 = .ok (.iconst 1, 1) := by decide +kernel
theorem dX6_canBe_71 : decode cX6_canBe 71 = .ok (.goto 4, 3) := by decide +kernel
theorem dX6_canBe_76 : decode cX6_canBe 76 = .ok (.iconst 0, 1) := by decide +kernel
theorem dX6_canBe_77 : decode cX6_canBe 77 = .ok (.ireturn, 1) := by decide +kernel
def yX6_isDug : MethodName := ⟨RX6, "isDug", "(I)Z"⟩
abbrev cX6_isDug : ByteArray := prog_8_method_4_code
theorem dX6_isDug_0 : decode cX6_isDug 0 = .ok (.aload_n 0, 1) := by decide +kernel
theorem dX6_isDug_1 : decode cX6_isDug 1 = .ok (.getfield 27, 3) := by decide +kernel
theorem fl_RX6_27 : Cond.fieldLink RX6 27 RX6 "dug" "J" ∈ gW := gW_t 100 (by decide +kernel) rfl
theorem dX6_isDug_4 : decode cX6_isDug 4 = .ok (.iload_n 1, 1) := by decide +kernel
theorem dX6_isDug_5 : decode cX6_isDug 5 = .ok (.lshr, 1) := by decide +kernel
theorem dX6_isDug_6 : decode cX6_isDug 6 = .ok (.lconst 1, 1) := by decide +kernel
theorem dX6_isDug_7 : decode cX6_isDug 7 = .ok (.land, 1) := by decide +kernel
theorem dX6_isDug_8 : decode cX6_isDug 8 = .ok (.lconst 0, 1) := by decide +kernel
theorem dX6_isDug_9 : decode cX6_isDug 9 = .ok (.lcmp, 1) := by decide +kernel
theorem dX6_isDug_10 : decode cX6_isDug 10 = .ok (.ifCond .eq 7, 3) := by decide +kernel
theorem dX6_isDug_17 : decode cX6_isDug 17 = .ok (.iconst 0, 1) := by decide +kernel
theorem dX6_isDug_18 : decode cX6_isDug 18 = .ok (.ireturn, 1) := by decide +kernel
theorem dX6_isDug_13 : decode cX6_isDug 13 = .ok (.iconst 1, 1) := by decide +kernel
theorem dX6_isDug_14 : decode cX6_isDug 14 = .ok (.goto 4, 3) := by decide +kernel
def yX6_mark : MethodName := ⟨RX6, "mark", "(I)V"⟩
abbrev cX6_mark : ByteArray := prog_8_method_5_code
theorem dX6_mark_0 : decode cX6_mark 0 = .ok (.aload_n 0, 1) := by decide +kernel
theorem dX6_mark_1 : decode cX6_mark 1 = .ok (.dup, 1) := by decide +kernel
theorem dX6_mark_2 : decode cX6_mark 2 = .ok (.getfield 27, 3) := by decide +kernel
theorem dX6_mark_5 : decode cX6_mark 5 = .ok (.lconst 1, 1) := by decide +kernel
theorem dX6_mark_6 : decode cX6_mark 6 = .ok (.iload_n 1, 1) := by decide +kernel
theorem dX6_mark_7 : decode cX6_mark 7 = .ok (.lshl, 1) := by decide +kernel
theorem dX6_mark_8 : decode cX6_mark 8 = .ok (.lor, 1) := by decide +kernel
theorem dX6_mark_9 : decode cX6_mark 9 = .ok (.putfield 27, 3) := by decide +kernel
theorem dX6_mark_12 : decode cX6_mark 12 = .ok (.return_, 1) := by decide +kernel
def yX6_rowOf : MethodName := ⟨RX6, "rowOf", "(I)[I"⟩
abbrev cX6_rowOf : ByteArray := prog_8_method_3_code
theorem dX6_rowOf_0 : decode cX6_rowOf 0 = .ok (.iload_n 1, 1) := by decide +kernel
theorem dX6_rowOf_1 : decode cX6_rowOf 1 = .ok (.ifCond .ne 8, 3) := by decide +kernel
theorem dX6_rowOf_9 : decode cX6_rowOf 9 = .ok (.iload_n 1, 1) := by decide +kernel
theorem dX6_rowOf_10 : decode cX6_rowOf 10 = .ok (.iconst 1, 1) := by decide +kernel
theorem dX6_rowOf_11 : decode cX6_rowOf 11 = .ok (.if_icmp .ne 10, 3) := by decide +kernel
theorem dX6_rowOf_21 : decode cX6_rowOf 21 = .ok (.aload_n 0, 1) := by decide +kernel
theorem dX6_rowOf_22 : decode cX6_rowOf 22 = .ok (.getfield 18, 3) := by decide +kernel
theorem fl_RX6_18 : Cond.fieldLink RX6 18 RX6 "water" "[I" ∈ gW := gW_t 96 (by decide +kernel) rfl
theorem dX6_rowOf_25 : decode cX6_rowOf 25 = .ok (.areturn, 1) := by decide +kernel
theorem dX6_rowOf_14 : decode cX6_rowOf 14 = .ok (.aload_n 0, 1) := by decide +kernel
theorem dX6_rowOf_15 : decode cX6_rowOf 15 = .ok (.getfield 15, 3) := by decide +kernel
theorem fl_RX6_15 : Cond.fieldLink RX6 15 RX6 "hard" "[I" ∈ gW := gW_t 93 (by decide +kernel) rfl
theorem dX6_rowOf_18 : decode cX6_rowOf 18 = .ok (.goto 7, 3) := by decide +kernel
theorem dX6_rowOf_4 : decode cX6_rowOf 4 = .ok (.aload_n 0, 1) := by decide +kernel
theorem dX6_rowOf_5 : decode cX6_rowOf 5 = .ok (.getfield 9, 3) := by decide +kernel
theorem fl_RX6_9 : Cond.fieldLink RX6 9 RX6 "kind" "[I" ∈ gW := gW_t 87 (by decide +kernel) rfl
theorem dX6_rowOf_8 : decode cX6_rowOf 8 = .ok (.areturn, 1) := by decide +kernel
def yX11_settle : MethodName := ⟨RX11, "settle", "(I)I"⟩
abbrev cX11_settle : ByteArray := prog_1_method_46_code
theorem dX11_settle_0 : decode cX11_settle 0 = .ok (.aload_n 0, 1) := by decide +kernel
theorem dX11_settle_1 : decode cX11_settle 1 = .ok (.iload_n 1, 1) := by decide +kernel
theorem dX11_settle_2 : decode cX11_settle 2 = .ok (.ifCond .ge 7, 3) := by decide +kernel
theorem dX11_settle_9 : decode cX11_settle 9 = .ok (.iconst 0, 1) := by decide +kernel
theorem dX11_settle_10 : decode cX11_settle 10 = .ok (.putfield 249, 3) := by decide +kernel
theorem fl_RX11_249 : Cond.fieldLink RX11 249 RX11 "latestRefusal" "I" ∈ gW := gW_t 459 (by decide +kernel) rfl
theorem dX11_settle_13 : decode cX11_settle 13 = .ok (.iload_n 1, 1) := by decide +kernel
theorem dX11_settle_14 : decode cX11_settle 14 = .ok (.ifCond .ge 24, 3) := by decide +kernel
theorem dX11_settle_38 : decode cX11_settle 38 = .ok (.iload_n 1, 1) := by decide +kernel
theorem dX11_settle_39 : decode cX11_settle 39 = .ok (.ireturn, 1) := by decide +kernel
theorem dX11_settle_5 : decode cX11_settle 5 = .ok (.iload_n 1, 1) := by decide +kernel
theorem dX11_settle_6 : decode cX11_settle 6 = .ok (.goto 4, 3) := by decide +kernel
theorem dX11_settle_17 : decode cX11_settle 17 = .ok (.iload_n 1, 1) := by decide +kernel
theorem dX11_settle_18 : decode cX11_settle 18 = .ok (.ineg, 1) := by decide +kernel
theorem dX11_settle_19 : decode cX11_settle 19 = .ok (.aload_n 0, 1) := by decide +kernel
theorem dX11_settle_20 : decode cX11_settle 20 = .ok (.getfield 74, 3) := by decide +kernel
theorem fl_RX11_74 : Cond.fieldLink RX11 74 RX11 "refusals" "[I" ∈ gW := gW_t 458 (by decide +kernel) rfl
theorem dX11_settle_23 : decode cX11_settle 23 = .ok (.arraylength, 1) := by decide +kernel
theorem dX11_settle_24 : decode cX11_settle 24 = .ok (.if_icmp .ge 14, 3) := by decide +kernel
theorem dX11_settle_27 : decode cX11_settle 27 = .ok (.aload_n 0, 1) := by decide +kernel
theorem dX11_settle_28 : decode cX11_settle 28 = .ok (.getfield 74, 3) := by decide +kernel
theorem dX11_settle_31 : decode cX11_settle 31 = .ok (.iload_n 1, 1) := by decide +kernel
theorem dX11_settle_32 : decode cX11_settle 32 = .ok (.ineg, 1) := by decide +kernel
theorem dX11_settle_33 : decode cX11_settle 33 = .ok (.dup2, 1) := by decide +kernel
theorem dX11_settle_34 : decode cX11_settle 34 = .ok (.iaload, 1) := by decide +kernel
theorem dX11_settle_35 : decode cX11_settle 35 = .ok (.iconst 1, 1) := by decide +kernel
theorem dX11_settle_36 : decode cX11_settle 36 = .ok (.iadd, 1) := by decide +kernel
theorem dX11_settle_37 : decode cX11_settle 37 = .ok (.iastore, 1) := by decide +kernel
def yX2_clear : MethodName := ⟨RX2, "clear", "()V"⟩
abbrev cX2_clear : ByteArray := prog_4_method_2_code
theorem dX2_clear_0 : decode cX2_clear 0 = .ok (.aload_n 0, 1) := by decide +kernel
theorem dX2_clear_1 : decode cX2_clear 1 = .ok (.iconst 0, 1) := by decide +kernel
theorem dX2_clear_2 : decode cX2_clear 2 = .ok (.putfield 29, 3) := by decide +kernel
theorem fl_RX2_29 : Cond.fieldLink RX2 29 RX2 "kept" "I" ∈ gW := gW_t 269 (by decide +kernel) rfl
theorem dX2_clear_5 : decode cX2_clear 5 = .ok (.return_, 1) := by decide +kernel
def yX10_lawOf : MethodName := ⟨RX10, "lawOf", "(I)LListenWells$Text;"⟩
abbrev cX10_lawOf : ByteArray := prog_12_method_4_code
theorem dX10_lawOf_0 : decode cX10_lawOf 0 = .ok (.iload_n 1, 1) := by decide +kernel
theorem dX10_lawOf_1 : decode cX10_lawOf 1 = .ok (.ifCond .lt 26, 3) := by decide +kernel
theorem dX10_lawOf_27 : decode cX10_lawOf 27 = .ok (.aconst_null, 1) := by decide +kernel
theorem dX10_lawOf_28 : decode cX10_lawOf 28 = .ok (.areturn, 1) := by decide +kernel
def yX10_lawInForce : MethodName := ⟨RX10, "lawInForce", "()LListenWells$Text;"⟩
abbrev cX10_lawInForce : ByteArray := prog_12_method_5_code
theorem dX10_lawInForce_0 : decode cX10_lawInForce 0 = .ok (.aload_n 0, 1) := by decide +kernel
theorem dX10_lawInForce_1 : decode cX10_lawInForce 1 = .ok (.aload_n 0, 1) := by decide +kernel
theorem dX10_lawInForce_2 : decode cX10_lawInForce 2 = .ok (.getfield 42, 3) := by decide +kernel
theorem fl_RX10_42 : Cond.fieldLink RX10 42 RX10 "force" "I" ∈ gW := gW_t 236 (by decide +kernel) rfl
theorem dX10_lawInForce_5 : decode cX10_lawInForce 5 = .ok (.invokevirtual 49, 3) := by decide +kernel
theorem lk_RX10_49 : Cond.methodLink RX10 49 yX10_lawOf ∈ gW := gW_t 523 (by decide +kernel) rfl
theorem mI_X10_lawOf : Cond.instanceMethod yX10_lawOf ∈ gW := gW_t 524 (by decide +kernel) rfl
theorem mS_X10_lawOf : Cond.selects RX10 yX10_lawOf yX10_lawOf ∈ gW := gW_t 525 (by decide +kernel) rfl
theorem mN_RX10 : Cond.initialized RX10 ∈ gW := gW_t 4 (by decide +kernel) rfl
theorem mC_X10_lawOf : Cond.code yX10_lawOf cX10_lawOf 2 (some (.object "ListenWells$Text")) ∈ gW := gW_t 526 (by decide +kernel) rfl
theorem ok_X10_lawOf : okD yX10_lawOf 1 := ⟨by decide +kernel, by decide +kernel, by decide +kernel⟩
theorem dX10_lawInForce_8 : decode cX10_lawInForce 8 = .ok (.areturn, 1) := by decide +kernel
def yX0_turnTo : MethodName := ⟨RX0, "turnTo", "(LListenWells$World;LListenWells$Text;)V"⟩
abbrev cX0_turnTo : ByteArray := prog_2_method_2_code
theorem dX0_turnTo_0 : decode cX0_turnTo 0 = .ok (.aload_n 0, 1) := by decide +kernel
theorem dX0_turnTo_1 : decode cX0_turnTo 1 = .ok (.aload_n 1, 1) := by decide +kernel
theorem dX0_turnTo_2 : decode cX0_turnTo 2 = .ok (.putfield 15, 3) := by decide +kernel
theorem fl_RX0_15 : Cond.fieldLink RX0 15 RX0 "world" "LListenWells$World;" ∈ gW := gW_t 38 (by decide +kernel) rfl
theorem dX0_turnTo_5 : decode cX0_turnTo 5 = .ok (.aload_n 0, 1) := by decide +kernel
theorem dX0_turnTo_6 : decode cX0_turnTo 6 = .ok (.aload_n 2, 1) := by decide +kernel
theorem dX0_turnTo_7 : decode cX0_turnTo 7 = .ok (.putfield 19, 3) := by decide +kernel
theorem fl_RX0_19 : Cond.fieldLink RX0 19 RX0 "law" "LListenWells$Text;" ∈ gW := gW_t 39 (by decide +kernel) rfl
theorem dX0_turnTo_10 : decode cX0_turnTo 10 = .ok (.return_, 1) := by decide +kernel
def yX0_askOf : MethodName := ⟨RX0, "askOf", "(III)V"⟩
abbrev cX0_askOf : ByteArray := prog_2_method_9_code
theorem dX0_askOf_0 : decode cX0_askOf 0 = .ok (.aload_n 0, 1) := by decide +kernel
theorem dX0_askOf_1 : decode cX0_askOf 1 = .ok (.iload_n 1, 1) := by decide +kernel
theorem dX0_askOf_2 : decode cX0_askOf 2 = .ok (.putfield 67, 3) := by decide +kernel
theorem fl_RX0_67 : Cond.fieldLink RX0 67 RX0 "cell" "I" ∈ gW := gW_t 40 (by decide +kernel) rfl
theorem dX0_askOf_5 : decode cX0_askOf 5 = .ok (.aload_n 0, 1) := by decide +kernel
theorem dX0_askOf_6 : decode cX0_askOf 6 = .ok (.iload_n 2, 1) := by decide +kernel
theorem dX0_askOf_7 : decode cX0_askOf 7 = .ok (.putfield 70, 3) := by decide +kernel
theorem fl_RX0_70 : Cond.fieldLink RX0 70 RX0 "shaft" "I" ∈ gW := gW_t 41 (by decide +kernel) rfl
theorem dX0_askOf_10 : decode cX0_askOf 10 = .ok (.aload_n 0, 1) := by decide +kernel
theorem dX0_askOf_11 : decode cX0_askOf 11 = .ok (.iload_n 3, 1) := by decide +kernel
theorem dX0_askOf_12 : decode cX0_askOf 12 = .ok (.putfield 73, 3) := by decide +kernel
theorem fl_RX0_73 : Cond.fieldLink RX0 73 RX0 "kind" "I" ∈ gW := gW_t 42 (by decide +kernel) rfl
theorem dX0_askOf_15 : decode cX0_askOf 15 = .ok (.return_, 1) := by decide +kernel
def yX0_tells : MethodName := ⟨RX0, "tells", "(II)I"⟩
abbrev cX0_tells : ByteArray := prog_2_method_10_code
theorem dX0_tells_0 : decode cX0_tells 0 = .ok (.aload_n 0, 1) := by decide +kernel
theorem dX0_tells_1 : decode cX0_tells 1 = .ok (.getfield 19, 3) := by decide +kernel
theorem dX0_tells_4 : decode cX0_tells 4 = .ok (.ifnonnull 5, 3) := by decide +kernel
theorem dX0_tells_7 : decode cX0_tells 7 = .ok (.iload_n 2, 1) := by decide +kernel
theorem dX0_tells_8 : decode cX0_tells 8 = .ok (.ireturn, 1) := by decide +kernel
def yX11_nearest : MethodName := ⟨RX11, "nearest", "(III)I"⟩
abbrev cX11_nearest : ByteArray := prog_1_method_50_code
theorem dX11_nearest_0 : decode cX11_nearest 0 = .ok (.iload_n 1, 1) := by decide +kernel
theorem dX11_nearest_1 : decode cX11_nearest 1 = .ok (.iload_n 2, 1) := by decide +kernel
theorem dX11_nearest_2 : decode cX11_nearest 2 = .ok (.iload_n 0, 1) := by decide +kernel
theorem dX11_nearest_3 : decode cX11_nearest 3 = .ok (.invokestatic 405, 3) := by decide +kernel
theorem lk_RX11_405 : Cond.methodLink RX11 405 Lib.Math.min.name ∈ gW := gW_t 564 (by decide +kernel) rfl
theorem lb_s_imin : Cond.static Lib.Math.min.name ∈ gW := gW_t 565 (by decide +kernel) rfl
theorem lb_c_imin : Cond.code Lib.Math.min.name Lib.Math.min.code 2 (some .int) ∈ gW := gW_t 566 (by decide +kernel) rfl
theorem lb_i : Cond.initialized "java/lang/Math" ∈ gW := gW_t 12 (by decide +kernel) rfl
theorem dX11_nearest_6 : decode cX11_nearest 6 = .ok (.invokestatic 408, 3) := by decide +kernel
theorem lk_RX11_408 : Cond.methodLink RX11 408 Lib.Math.max.name ∈ gW := gW_t 567 (by decide +kernel) rfl
theorem lb_s_imax : Cond.static Lib.Math.max.name ∈ gW := gW_t 324 (by decide +kernel) rfl
theorem lb_c_imax : Cond.code Lib.Math.max.name Lib.Math.max.code 2 (some .int) ∈ gW := gW_t 325 (by decide +kernel) rfl
theorem dX11_nearest_9 : decode cX11_nearest 9 = .ok (.ireturn, 1) := by decide +kernel
def yX0_saysOf : MethodName := ⟨RX0, "saysOf", "(II)I"⟩
abbrev cX0_saysOf : ByteArray := prog_2_method_4_code
theorem dX0_saysOf_0 : decode cX0_saysOf 0 = .ok (.aload_n 0, 1) := by decide +kernel
theorem dX0_saysOf_1 : decode cX0_saysOf 1 = .ok (.iload_n 1, 1) := by decide +kernel
theorem dX0_saysOf_2 : decode cX0_saysOf 2 = .ok (.iconst (-1), 1) := by decide +kernel
theorem dX0_saysOf_3 : decode cX0_saysOf 3 = .ok (.iload_n 2, 1) := by decide +kernel
theorem dX0_saysOf_4 : decode cX0_saysOf 4 = .ok (.invokevirtual 30, 3) := by decide +kernel
theorem lk_RX0_30 : Cond.methodLink RX0 30 yX0_askOf ∈ gW := gW_t 535 (by decide +kernel) rfl
theorem mI_X0_askOf : Cond.instanceMethod yX0_askOf ∈ gW := gW_t 537 (by decide +kernel) rfl
theorem mS_X0_askOf : Cond.selects RX0 yX0_askOf yX0_askOf ∈ gW := gW_p (q := (yX0_askOf, 9)) 1 (by decide +kernel)
theorem mN_RX0 : Cond.initialized RX0 ∈ gW := gW_t 2 (by decide +kernel) rfl
theorem mC_X0_askOf : Cond.code yX0_askOf cX0_askOf 4 none ∈ gW := gW_t 538 (by decide +kernel) rfl
theorem ok_X0_askOf : okD yX0_askOf 3 := ⟨by decide +kernel, by decide +kernel, by decide +kernel⟩
theorem dX0_saysOf_7 : decode cX0_saysOf 7 = .ok (.aload_n 0, 1) := by decide +kernel
theorem dX0_saysOf_8 : decode cX0_saysOf 8 = .ok (.iconst 0, 1) := by decide +kernel
theorem dX0_saysOf_9 : decode cX0_saysOf 9 = .ok (.bipush 20, 2) := by decide +kernel
theorem dX0_saysOf_11 : decode cX0_saysOf 11 = .ok (.invokevirtual 36, 3) := by decide +kernel
theorem lk_RX0_36 : Cond.methodLink RX0 36 yX0_tells ∈ gW := gW_t 539 (by decide +kernel) rfl
theorem mI_X0_tells : Cond.instanceMethod yX0_tells ∈ gW := gW_t 541 (by decide +kernel) rfl
theorem mS_X0_tells : Cond.selects RX0 yX0_tells yX0_tells ∈ gW := gW_p (q := (yX0_tells, 9)) 2 (by decide +kernel)
theorem mC_X0_tells : Cond.code yX0_tells cX0_tells 6 (some .int) ∈ gW := gW_t 542 (by decide +kernel) rfl
theorem ok_X0_tells : okD yX0_tells 2 := ⟨by decide +kernel, by decide +kernel, by decide +kernel⟩
theorem dX0_saysOf_14 : decode cX0_saysOf 14 = .ok (.iconst 0, 1) := by decide +kernel
theorem dX0_saysOf_15 : decode cX0_saysOf 15 = .ok (.bipush 99, 2) := by decide +kernel
theorem dX0_saysOf_17 : decode cX0_saysOf 17 = .ok (.invokestatic 40, 3) := by decide +kernel
theorem nl_RX0_40 : Cond.methodLinkNest RX0 40 yX11_nearest RX11 ∈ nW := by decide +kernel
theorem mT_X11_nearest : Cond.static yX11_nearest ∈ gW := gW_t 562 (by decide +kernel) rfl
theorem mN_RX11 : Cond.initialized RX11 ∈ gW := gW_t 1 (by decide +kernel) rfl
theorem mC_X11_nearest : Cond.code yX11_nearest cX11_nearest 3 (some .int) ∈ gW := gW_t 563 (by decide +kernel) rfl
theorem ok_X11_nearest : okD yX11_nearest 3 := ⟨by decide +kernel, by decide +kernel, by decide +kernel⟩
theorem dX0_saysOf_20 : decode cX0_saysOf 20 = .ok (.ireturn, 1) := by decide +kernel
def yX0_losesOf : MethodName := ⟨RX0, "losesOf", "(II)I"⟩
abbrev cX0_losesOf : ByteArray := prog_2_method_5_code
theorem dX0_losesOf_0 : decode cX0_losesOf 0 = .ok (.aload_n 0, 1) := by decide +kernel
theorem dX0_losesOf_1 : decode cX0_losesOf 1 = .ok (.iload_n 1, 1) := by decide +kernel
theorem dX0_losesOf_2 : decode cX0_losesOf 2 = .ok (.iconst (-1), 1) := by decide +kernel
theorem dX0_losesOf_3 : decode cX0_losesOf 3 = .ok (.iload_n 2, 1) := by decide +kernel
theorem dX0_losesOf_4 : decode cX0_losesOf 4 = .ok (.invokevirtual 30, 3) := by decide +kernel
theorem dX0_losesOf_7 : decode cX0_losesOf 7 = .ok (.aload_n 0, 1) := by decide +kernel
theorem dX0_losesOf_8 : decode cX0_losesOf 8 = .ok (.iconst 1, 1) := by decide +kernel
theorem dX0_losesOf_9 : decode cX0_losesOf 9 = .ok (.iconst 2, 1) := by decide +kernel
theorem dX0_losesOf_10 : decode cX0_losesOf 10 = .ok (.invokevirtual 36, 3) := by decide +kernel
theorem dX0_losesOf_13 : decode cX0_losesOf 13 = .ok (.iconst 0, 1) := by decide +kernel
theorem dX0_losesOf_14 : decode cX0_losesOf 14 = .ok (.bipush 9, 2) := by decide +kernel
theorem dX0_losesOf_16 : decode cX0_losesOf 16 = .ok (.invokestatic 40, 3) := by decide +kernel
theorem dX0_losesOf_19 : decode cX0_losesOf 19 = .ok (.ireturn, 1) := by decide +kernel
def yX11_stepsTo : MethodName := ⟨RX11, "stepsTo", "(II)I"⟩
abbrev cX11_stepsTo : ByteArray := prog_1_method_49_code
theorem dX11_stepsTo_0 : decode cX11_stepsTo 0 = .ok (.iload_n 0, 1) := by decide +kernel
theorem dX11_stepsTo_1 : decode cX11_stepsTo 1 = .ok (.bipush 8, 2) := by decide +kernel
theorem dX11_stepsTo_3 : decode cX11_stepsTo 3 = .ok (.irem, 1) := by decide +kernel
theorem dX11_stepsTo_4 : decode cX11_stepsTo 4 = .ok (.iload_n 1, 1) := by decide +kernel
theorem dX11_stepsTo_5 : decode cX11_stepsTo 5 = .ok (.isub, 1) := by decide +kernel
theorem dX11_stepsTo_6 : decode cX11_stepsTo 6 = .ok (.invokestatic 400, 3) := by decide +kernel
theorem lk_RX11_400 : Cond.methodLink RX11 400 Lib.Math.abs.name ∈ gW := gW_t 972 (by decide +kernel) rfl
theorem lb_s_iabs : Cond.static Lib.Math.abs.name ∈ gW := gW_t 897 (by decide +kernel) rfl
theorem lb_c_iabs : Cond.code Lib.Math.abs.name Lib.Math.abs.code 1 (some .int) ∈ gW := gW_t 898 (by decide +kernel) rfl
theorem dX11_stepsTo_9 : decode cX11_stepsTo 9 = .ok (.iload_n 0, 1) := by decide +kernel
theorem dX11_stepsTo_10 : decode cX11_stepsTo 10 = .ok (.bipush 8, 2) := by decide +kernel
theorem dX11_stepsTo_12 : decode cX11_stepsTo 12 = .ok (.idiv, 1) := by decide +kernel
theorem dX11_stepsTo_13 : decode cX11_stepsTo 13 = .ok (.iadd, 1) := by decide +kernel
theorem dX11_stepsTo_14 : decode cX11_stepsTo 14 = .ok (.iconst 1, 1) := by decide +kernel
theorem dX11_stepsTo_15 : decode cX11_stepsTo 15 = .ok (.iadd, 1) := by decide +kernel
theorem dX11_stepsTo_16 : decode cX11_stepsTo 16 = .ok (.ireturn, 1) := by decide +kernel
def yX10_hasLaw : MethodName := ⟨RX10, "hasLaw", "(I)Z"⟩
abbrev cX10_hasLaw : ByteArray := prog_12_method_3_code
theorem dX10_hasLaw_0 : decode cX10_hasLaw 0 = .ok (.iload_n 1, 1) := by decide +kernel
theorem dX10_hasLaw_1 : decode cX10_hasLaw 1 = .ok (.iconst (-1), 1) := by decide +kernel
theorem dX10_hasLaw_2 : decode cX10_hasLaw 2 = .ok (.if_icmp .lt 15, 3) := by decide +kernel
theorem dX10_hasLaw_17 : decode cX10_hasLaw 17 = .ok (.iconst 0, 1) := by decide +kernel
theorem dX10_hasLaw_18 : decode cX10_hasLaw 18 = .ok (.ireturn, 1) := by decide +kernel
theorem dX10_hasLaw_5 : decode cX10_hasLaw 5 = .ok (.iload_n 1, 1) := by decide +kernel
theorem dX10_hasLaw_6 : decode cX10_hasLaw 6 = .ok (.aload_n 0, 1) := by decide +kernel
theorem dX10_hasLaw_7 : decode cX10_hasLaw 7 = .ok (.getfield 46, 3) := by decide +kernel
theorem fl_RX10_46 : Cond.fieldLink RX10 46 RX10 "lawCount" "I" ∈ gW := gW_t 234 (by decide +kernel) rfl
theorem dX10_hasLaw_10 : decode cX10_hasLaw 10 = .ok (.if_icmp .ge 7, 3) := by decide +kernel
theorem dX10_hasLaw_13 : decode cX10_hasLaw 13 = .ok (.iconst 1, 1) := by decide +kernel
theorem dX10_hasLaw_14 : decode cX10_hasLaw 14 = .ok (.goto 4, 3) := by decide +kernel
def yX10_termCanBe : MethodName := ⟨RX10, "termCanBe", "(II)Z"⟩
abbrev cX10_termCanBe : ByteArray := prog_12_method_2_code
theorem dX10_termCanBe_0 : decode cX10_termCanBe 0 = .ok (.iload_n 0, 1) := by decide +kernel
theorem dX10_termCanBe_1 : decode cX10_termCanBe 1 = .ok (.tableswitch 76 0 2 #[27, 44, 60], 27) := by decide +kernel
theorem dX10_termCanBe_28 : decode cX10_termCanBe 28 = .ok (.iload_n 1, 1) := by decide +kernel
theorem dX10_termCanBe_29 : decode cX10_termCanBe 29 = .ok (.ifCond .lt 14, 3) := by decide +kernel
theorem dX10_termCanBe_43 : decode cX10_termCanBe 43 = .ok (.iconst 0, 1) := by decide +kernel
theorem dX10_termCanBe_44 : decode cX10_termCanBe 44 = .ok (.ireturn, 1) := by decide +kernel
theorem dX10_termCanBe_32 : decode cX10_termCanBe 32 = .ok (.iload_n 1, 1) := by decide +kernel
theorem dX10_termCanBe_33 : decode cX10_termCanBe 33 = .ok (.sipush 9999, 3) := by decide +kernel
theorem dX10_termCanBe_36 : decode cX10_termCanBe 36 = .ok (.if_icmp .gt 7, 3) := by decide +kernel
theorem dX10_termCanBe_39 : decode cX10_termCanBe 39 = .ok (.iconst 1, 1) := by decide +kernel
theorem dX10_termCanBe_40 : decode cX10_termCanBe 40 = .ok (.goto 4, 3) := by decide +kernel
theorem dX10_termCanBe_45 : decode cX10_termCanBe 45 = .ok (.iload_n 1, 1) := by decide +kernel
theorem dX10_termCanBe_46 : decode cX10_termCanBe 46 = .ok (.ifCond .lt 13, 3) := by decide +kernel
theorem dX10_termCanBe_59 : decode cX10_termCanBe 59 = .ok (.iconst 0, 1) := by decide +kernel
theorem dX10_termCanBe_60 : decode cX10_termCanBe 60 = .ok (.ireturn, 1) := by decide +kernel
theorem dX10_termCanBe_49 : decode cX10_termCanBe 49 = .ok (.iload_n 1, 1) := by decide +kernel
theorem dX10_termCanBe_50 : decode cX10_termCanBe 50 = .ok (.bipush 10, 2) := by decide +kernel
theorem dX10_termCanBe_52 : decode cX10_termCanBe 52 = .ok (.if_icmp .gt 7, 3) := by decide +kernel
theorem dX10_termCanBe_55 : decode cX10_termCanBe 55 = .ok (.iconst 1, 1) := by decide +kernel
theorem dX10_termCanBe_56 : decode cX10_termCanBe 56 = .ok (.goto 4, 3) := by decide +kernel
theorem dX10_termCanBe_61 : decode cX10_termCanBe 61 = .ok (.iload_n 1, 1) := by decide +kernel
theorem dX10_termCanBe_62 : decode cX10_termCanBe 62 = .ok (.ifCond .lt 13, 3) := by decide +kernel
theorem dX10_termCanBe_75 : decode cX10_termCanBe 75 = .ok (.iconst 0, 1) := by decide +kernel
theorem dX10_termCanBe_76 : decode cX10_termCanBe 76 = .ok (.ireturn, 1) := by decide +kernel
theorem dX10_termCanBe_65 : decode cX10_termCanBe 65 = .ok (.iload_n 1, 1) := by decide +kernel
theorem dX10_termCanBe_66 : decode cX10_termCanBe 66 = .ok (.bipush 9, 2) := by decide +kernel
theorem dX10_termCanBe_68 : decode cX10_termCanBe 68 = .ok (.if_icmp .gt 7, 3) := by decide +kernel
theorem dX10_termCanBe_71 : decode cX10_termCanBe 71 = .ok (.iconst 1, 1) := by decide +kernel
theorem dX10_termCanBe_72 : decode cX10_termCanBe 72 = .ok (.goto 4, 3) := by decide +kernel
theorem dX10_termCanBe_77 : decode cX10_termCanBe 77 = .ok (.iconst 0, 1) := by decide +kernel
theorem dX10_termCanBe_78 : decode cX10_termCanBe 78 = .ok (.ireturn, 1) := by decide +kernel
def yX1_add : MethodName := ⟨RX1, "add", "(I)V"⟩
abbrev cX1_add : ByteArray := prog_3_method_2_code
theorem dX1_add_0 : decode cX1_add 0 = .ok (.aload_n 0, 1) := by decide +kernel
theorem dX1_add_1 : decode cX1_add 1 = .ok (.getfield 18, 3) := by decide +kernel
theorem fl_RX1_18 : Cond.fieldLink RX1 18 RX1 "count" "I" ∈ gW := gW_t 128 (by decide +kernel) rfl
theorem dX1_add_4 : decode cX1_add 4 = .ok (.bipush 6, 2) := by decide +kernel
theorem dX1_add_6 : decode cX1_add 6 = .ok (.if_icmp .ge 33, 3) := by decide +kernel
theorem dX1_add_9 : decode cX1_add 9 = .ok (.aload_n 0, 1) := by decide +kernel
theorem dX1_add_10 : decode cX1_add 10 = .ok (.getfield 9, 3) := by decide +kernel
theorem fl_RX1_9 : Cond.fieldLink RX1 9 RX1 "cell" "[I" ∈ gW := gW_t 118 (by decide +kernel) rfl
theorem dX1_add_13 : decode cX1_add 13 = .ok (.aload_n 0, 1) := by decide +kernel
theorem dX1_add_14 : decode cX1_add 14 = .ok (.getfield 18, 3) := by decide +kernel
theorem dX1_add_17 : decode cX1_add 17 = .ok (.iload_n 1, 1) := by decide +kernel
theorem dX1_add_18 : decode cX1_add 18 = .ok (.iastore, 1) := by decide +kernel
theorem dX1_add_19 : decode cX1_add 19 = .ok (.aload_n 0, 1) := by decide +kernel
theorem dX1_add_20 : decode cX1_add 20 = .ok (.getfield 15, 3) := by decide +kernel
theorem fl_RX1_15 : Cond.fieldLink RX1 15 RX1 "buckets" "[I" ∈ gW := gW_t 124 (by decide +kernel) rfl
theorem dX1_add_23 : decode cX1_add 23 = .ok (.aload_n 0, 1) := by decide +kernel
theorem dX1_add_24 : decode cX1_add 24 = .ok (.getfield 18, 3) := by decide +kernel
theorem dX1_add_27 : decode cX1_add 27 = .ok (.iconst 0, 1) := by decide +kernel
theorem dX1_add_28 : decode cX1_add 28 = .ok (.iastore, 1) := by decide +kernel
theorem dX1_add_29 : decode cX1_add 29 = .ok (.aload_n 0, 1) := by decide +kernel
theorem dX1_add_30 : decode cX1_add 30 = .ok (.dup, 1) := by decide +kernel
theorem dX1_add_31 : decode cX1_add 31 = .ok (.getfield 18, 3) := by decide +kernel
theorem dX1_add_34 : decode cX1_add 34 = .ok (.iconst 1, 1) := by decide +kernel
theorem dX1_add_35 : decode cX1_add 35 = .ok (.iadd, 1) := by decide +kernel
theorem dX1_add_36 : decode cX1_add 36 = .ok (.putfield 18, 3) := by decide +kernel
theorem dX1_add_39 : decode cX1_add 39 = .ok (.return_, 1) := by decide +kernel
def yX4_addListener : MethodName := ⟨RX4, "addListener", "(II)V"⟩
abbrev cX4_addListener : ByteArray := prog_6_method_2_code
theorem dX4_addListener_0 : decode cX4_addListener 0 = .ok (.aload_n 0, 1) := by decide +kernel
theorem dX4_addListener_1 : decode cX4_addListener 1 = .ok (.getfield 36, 3) := by decide +kernel
theorem fl_RX4_36 : Cond.fieldLink RX4 36 RX4 "listeners" "I" ∈ gW := gW_t 154 (by decide +kernel) rfl
theorem dX4_addListener_4 : decode cX4_addListener 4 = .ok (.iconst 5, 1) := by decide +kernel
theorem dX4_addListener_5 : decode cX4_addListener 5 = .ok (.if_icmp .ge 33, 3) := by decide +kernel
theorem dX4_addListener_8 : decode cX4_addListener 8 = .ok (.aload_n 0, 1) := by decide +kernel
theorem dX4_addListener_9 : decode cX4_addListener 9 = .ok (.getfield 9, 3) := by decide +kernel
theorem fl_RX4_9 : Cond.fieldLink RX4 9 RX4 "column" "[I" ∈ gW := gW_t 146 (by decide +kernel) rfl
theorem dX4_addListener_12 : decode cX4_addListener 12 = .ok (.aload_n 0, 1) := by decide +kernel
theorem dX4_addListener_13 : decode cX4_addListener 13 = .ok (.getfield 36, 3) := by decide +kernel
theorem dX4_addListener_16 : decode cX4_addListener 16 = .ok (.iload_n 1, 1) := by decide +kernel
theorem dX4_addListener_17 : decode cX4_addListener 17 = .ok (.iastore, 1) := by decide +kernel
theorem dX4_addListener_18 : decode cX4_addListener 18 = .ok (.aload_n 0, 1) := by decide +kernel
theorem dX4_addListener_19 : decode cX4_addListener 19 = .ok (.getfield 15, 3) := by decide +kernel
theorem fl_RX4_15 : Cond.fieldLink RX4 15 RX4 "ear" "[I" ∈ gW := gW_t 151 (by decide +kernel) rfl
theorem dX4_addListener_22 : decode cX4_addListener 22 = .ok (.aload_n 0, 1) := by decide +kernel
theorem dX4_addListener_23 : decode cX4_addListener 23 = .ok (.getfield 36, 3) := by decide +kernel
theorem dX4_addListener_26 : decode cX4_addListener 26 = .ok (.iload_n 2, 1) := by decide +kernel
theorem dX4_addListener_27 : decode cX4_addListener 27 = .ok (.iastore, 1) := by decide +kernel
theorem dX4_addListener_28 : decode cX4_addListener 28 = .ok (.aload_n 0, 1) := by decide +kernel
theorem dX4_addListener_29 : decode cX4_addListener 29 = .ok (.dup, 1) := by decide +kernel
theorem dX4_addListener_30 : decode cX4_addListener 30 = .ok (.getfield 36, 3) := by decide +kernel
theorem dX4_addListener_33 : decode cX4_addListener 33 = .ok (.iconst 1, 1) := by decide +kernel
theorem dX4_addListener_34 : decode cX4_addListener 34 = .ok (.iadd, 1) := by decide +kernel
theorem dX4_addListener_35 : decode cX4_addListener 35 = .ok (.putfield 36, 3) := by decide +kernel
theorem dX4_addListener_38 : decode cX4_addListener 38 = .ok (.return_, 1) := by decide +kernel
def yX4_addNoise : MethodName := ⟨RX4, "addNoise", "(II)V"⟩
abbrev cX4_addNoise : ByteArray := prog_6_method_3_code
theorem dX4_addNoise_0 : decode cX4_addNoise 0 = .ok (.aload_n 0, 1) := by decide +kernel
theorem dX4_addNoise_1 : decode cX4_addNoise 1 = .ok (.getfield 40, 3) := by decide +kernel
theorem fl_RX4_40 : Cond.fieldLink RX4 40 RX4 "noises" "I" ∈ gW := gW_t 164 (by decide +kernel) rfl
theorem dX4_addNoise_4 : decode cX4_addNoise 4 = .ok (.bipush 6, 2) := by decide +kernel
theorem dX4_addNoise_6 : decode cX4_addNoise 6 = .ok (.if_icmp .ge 33, 3) := by decide +kernel
theorem dX4_addNoise_9 : decode cX4_addNoise 9 = .ok (.aload_n 0, 1) := by decide +kernel
theorem dX4_addNoise_10 : decode cX4_addNoise 10 = .ok (.getfield 18, 3) := by decide +kernel
theorem fl_RX4_18 : Cond.fieldLink RX4 18 RX4 "noiseColumn" "[I" ∈ gW := gW_t 159 (by decide +kernel) rfl
theorem dX4_addNoise_13 : decode cX4_addNoise 13 = .ok (.aload_n 0, 1) := by decide +kernel
theorem dX4_addNoise_14 : decode cX4_addNoise 14 = .ok (.getfield 40, 3) := by decide +kernel
theorem dX4_addNoise_17 : decode cX4_addNoise 17 = .ok (.iload_n 1, 1) := by decide +kernel
theorem dX4_addNoise_18 : decode cX4_addNoise 18 = .ok (.iastore, 1) := by decide +kernel
theorem dX4_addNoise_19 : decode cX4_addNoise 19 = .ok (.aload_n 0, 1) := by decide +kernel
theorem dX4_addNoise_20 : decode cX4_addNoise 20 = .ok (.getfield 21, 3) := by decide +kernel
theorem fl_RX4_21 : Cond.fieldLink RX4 21 RX4 "noiseLoud" "[I" ∈ gW := gW_t 162 (by decide +kernel) rfl
theorem dX4_addNoise_23 : decode cX4_addNoise 23 = .ok (.aload_n 0, 1) := by decide +kernel
theorem dX4_addNoise_24 : decode cX4_addNoise 24 = .ok (.getfield 40, 3) := by decide +kernel
theorem dX4_addNoise_27 : decode cX4_addNoise 27 = .ok (.iload_n 2, 1) := by decide +kernel
theorem dX4_addNoise_28 : decode cX4_addNoise 28 = .ok (.iastore, 1) := by decide +kernel
theorem dX4_addNoise_29 : decode cX4_addNoise 29 = .ok (.aload_n 0, 1) := by decide +kernel
theorem dX4_addNoise_30 : decode cX4_addNoise 30 = .ok (.dup, 1) := by decide +kernel
theorem dX4_addNoise_31 : decode cX4_addNoise 31 = .ok (.getfield 40, 3) := by decide +kernel
theorem dX4_addNoise_34 : decode cX4_addNoise 34 = .ok (.iconst 1, 1) := by decide +kernel
theorem dX4_addNoise_35 : decode cX4_addNoise 35 = .ok (.iadd, 1) := by decide +kernel
theorem dX4_addNoise_36 : decode cX4_addNoise 36 = .ok (.putfield 40, 3) := by decide +kernel
theorem dX4_addNoise_39 : decode cX4_addNoise 39 = .ok (.return_, 1) := by decide +kernel
def yX4_addHearsay : MethodName := ⟨RX4, "addHearsay", "(II)V"⟩
abbrev cX4_addHearsay : ByteArray := prog_6_method_5_code
theorem dX4_addHearsay_0 : decode cX4_addHearsay 0 = .ok (.aload_n 0, 1) := by decide +kernel
theorem dX4_addHearsay_1 : decode cX4_addHearsay 1 = .ok (.getfield 56, 3) := by decide +kernel
theorem fl_RX4_56 : Cond.fieldLink RX4 56 RX4 "hearsay" "I" ∈ gW := gW_t 176 (by decide +kernel) rfl
theorem dX4_addHearsay_4 : decode cX4_addHearsay 4 = .ok (.bipush 8, 2) := by decide +kernel
theorem dX4_addHearsay_6 : decode cX4_addHearsay 6 = .ok (.if_icmp .ge 33, 3) := by decide +kernel
theorem dX4_addHearsay_9 : decode cX4_addHearsay 9 = .ok (.aload_n 0, 1) := by decide +kernel
theorem dX4_addHearsay_10 : decode cX4_addHearsay 10 = .ok (.getfield 24, 3) := by decide +kernel
theorem fl_RX4_24 : Cond.fieldLink RX4 24 RX4 "hearsayColumn" "[I" ∈ gW := gW_t 172 (by decide +kernel) rfl
theorem dX4_addHearsay_13 : decode cX4_addHearsay 13 = .ok (.aload_n 0, 1) := by decide +kernel
theorem dX4_addHearsay_14 : decode cX4_addHearsay 14 = .ok (.getfield 56, 3) := by decide +kernel
theorem dX4_addHearsay_17 : decode cX4_addHearsay 17 = .ok (.iload_n 1, 1) := by decide +kernel
theorem dX4_addHearsay_18 : decode cX4_addHearsay 18 = .ok (.iastore, 1) := by decide +kernel
theorem dX4_addHearsay_19 : decode cX4_addHearsay 19 = .ok (.aload_n 0, 1) := by decide +kernel
theorem dX4_addHearsay_20 : decode cX4_addHearsay 20 = .ok (.getfield 27, 3) := by decide +kernel
theorem fl_RX4_27 : Cond.fieldLink RX4 27 RX4 "hearsayLoud" "[I" ∈ gW := gW_t 174 (by decide +kernel) rfl
theorem dX4_addHearsay_23 : decode cX4_addHearsay 23 = .ok (.aload_n 0, 1) := by decide +kernel
theorem dX4_addHearsay_24 : decode cX4_addHearsay 24 = .ok (.getfield 56, 3) := by decide +kernel
theorem dX4_addHearsay_27 : decode cX4_addHearsay 27 = .ok (.iload_n 2, 1) := by decide +kernel
theorem dX4_addHearsay_28 : decode cX4_addHearsay 28 = .ok (.iastore, 1) := by decide +kernel
theorem dX4_addHearsay_29 : decode cX4_addHearsay 29 = .ok (.aload_n 0, 1) := by decide +kernel
theorem dX4_addHearsay_30 : decode cX4_addHearsay 30 = .ok (.dup, 1) := by decide +kernel
theorem dX4_addHearsay_31 : decode cX4_addHearsay 31 = .ok (.getfield 56, 3) := by decide +kernel
theorem dX4_addHearsay_34 : decode cX4_addHearsay 34 = .ok (.iconst 1, 1) := by decide +kernel
theorem dX4_addHearsay_35 : decode cX4_addHearsay 35 = .ok (.iadd, 1) := by decide +kernel
theorem dX4_addHearsay_36 : decode cX4_addHearsay 36 = .ok (.putfield 56, 3) := by decide +kernel
theorem dX4_addHearsay_39 : decode cX4_addHearsay 39 = .ok (.return_, 1) := by decide +kernel
def yX4_addWell : MethodName := ⟨RX4, "addWell", "(II)V"⟩
abbrev cX4_addWell : ByteArray := prog_6_method_6_code
theorem dX4_addWell_0 : decode cX4_addWell 0 = .ok (.aload_n 0, 1) := by decide +kernel
theorem dX4_addWell_1 : decode cX4_addWell 1 = .ok (.getfield 59, 3) := by decide +kernel
theorem fl_RX4_59 : Cond.fieldLink RX4 59 RX4 "wells" "I" ∈ gW := gW_t 181 (by decide +kernel) rfl
theorem dX4_addWell_4 : decode cX4_addWell 4 = .ok (.bipush 10, 2) := by decide +kernel
theorem dX4_addWell_6 : decode cX4_addWell 6 = .ok (.if_icmp .ge 33, 3) := by decide +kernel
theorem dX4_addWell_9 : decode cX4_addWell 9 = .ok (.aload_n 0, 1) := by decide +kernel
theorem dX4_addWell_10 : decode cX4_addWell 10 = .ok (.getfield 30, 3) := by decide +kernel
theorem fl_RX4_30 : Cond.fieldLink RX4 30 RX4 "sounds" "[I" ∈ gW := gW_t 179 (by decide +kernel) rfl
theorem dX4_addWell_13 : decode cX4_addWell 13 = .ok (.aload_n 0, 1) := by decide +kernel
theorem dX4_addWell_14 : decode cX4_addWell 14 = .ok (.getfield 59, 3) := by decide +kernel
theorem dX4_addWell_17 : decode cX4_addWell 17 = .ok (.iload_n 1, 1) := by decide +kernel
theorem dX4_addWell_18 : decode cX4_addWell 18 = .ok (.iastore, 1) := by decide +kernel
theorem dX4_addWell_19 : decode cX4_addWell 19 = .ok (.aload_n 0, 1) := by decide +kernel
theorem dX4_addWell_20 : decode cX4_addWell 20 = .ok (.getfield 33, 3) := by decide +kernel
theorem fl_RX4_33 : Cond.fieldLink RX4 33 RX4 "wet" "[I" ∈ gW := gW_t 180 (by decide +kernel) rfl
theorem dX4_addWell_23 : decode cX4_addWell 23 = .ok (.aload_n 0, 1) := by decide +kernel
theorem dX4_addWell_24 : decode cX4_addWell 24 = .ok (.getfield 59, 3) := by decide +kernel
theorem dX4_addWell_27 : decode cX4_addWell 27 = .ok (.iload_n 2, 1) := by decide +kernel
theorem dX4_addWell_28 : decode cX4_addWell 28 = .ok (.iastore, 1) := by decide +kernel
theorem dX4_addWell_29 : decode cX4_addWell 29 = .ok (.aload_n 0, 1) := by decide +kernel
theorem dX4_addWell_30 : decode cX4_addWell 30 = .ok (.dup, 1) := by decide +kernel
theorem dX4_addWell_31 : decode cX4_addWell 31 = .ok (.getfield 59, 3) := by decide +kernel
theorem dX4_addWell_34 : decode cX4_addWell 34 = .ok (.iconst 1, 1) := by decide +kernel
theorem dX4_addWell_35 : decode cX4_addWell 35 = .ok (.iadd, 1) := by decide +kernel
theorem dX4_addWell_36 : decode cX4_addWell 36 = .ok (.putfield 59, 3) := by decide +kernel
theorem dX4_addWell_39 : decode cX4_addWell 39 = .ok (.return_, 1) := by decide +kernel
def yX4_noiseIn : MethodName := ⟨RX4, "noiseIn", "(II)I"⟩
abbrev cX4_noiseIn : ByteArray := prog_6_method_4_code
theorem dX4_noiseIn_0 : decode cX4_noiseIn 0 = .ok (.aload_n 0, 1) := by decide +kernel
theorem dX4_noiseIn_1 : decode cX4_noiseIn 1 = .ok (.getfield 43, 3) := by decide +kernel
theorem fl_RX4_43 : Cond.fieldLink RX4 43 RX4 "hushed" "I" ∈ gW := gW_t 168 (by decide +kernel) rfl
theorem dX4_noiseIn_4 : decode cX4_noiseIn 4 = .ok (.iload_n 2, 1) := by decide +kernel
theorem dX4_noiseIn_5 : decode cX4_noiseIn 5 = .ok (.ior, 1) := by decide +kernel
theorem dX4_noiseIn_6 : decode cX4_noiseIn 6 = .ok (.istore_n 3, 1) := by decide +kernel
theorem dX4_noiseIn_7 : decode cX4_noiseIn 7 = .ok (.iconst 0, 1) := by decide +kernel
theorem dX4_noiseIn_8 : decode cX4_noiseIn 8 = .ok (.istore 4, 2) := by decide +kernel
theorem dX4_noiseIn_10 : decode cX4_noiseIn 10 = .ok (.iconst 0, 1) := by decide +kernel
theorem dX4_noiseIn_11 : decode cX4_noiseIn 11 = .ok (.istore 5, 2) := by decide +kernel
theorem dX4_noiseIn_13 : decode cX4_noiseIn 13 = .ok (.iload 5, 2) := by decide +kernel
theorem dX4_noiseIn_15 : decode cX4_noiseIn 15 = .ok (.aload_n 0, 1) := by decide +kernel
theorem dX4_noiseIn_16 : decode cX4_noiseIn 16 = .ok (.getfield 40, 3) := by decide +kernel
theorem dX4_noiseIn_19 : decode cX4_noiseIn 19 = .ok (.if_icmp .ge 47, 3) := by decide +kernel
theorem dX4_noiseIn_66 : decode cX4_noiseIn 66 = .ok (.iload 4, 2) := by decide +kernel
theorem dX4_noiseIn_68 : decode cX4_noiseIn 68 = .ok (.ireturn, 1) := by decide +kernel
def yX7_tryDig : MethodName := ⟨RX7, "tryDig", "(II)I"⟩
abbrev cX7_tryDig : ByteArray := prog_9_method_3_code
theorem dX7_tryDig_0 : decode cX7_tryDig 0 = .ok (.iload_n 2, 1) := by decide +kernel
theorem dX7_tryDig_1 : decode cX7_tryDig 1 = .ok (.ifCond .lt 8, 3) := by decide +kernel
theorem dX7_tryDig_9 : decode cX7_tryDig 9 = .ok (.iconst (-1), 1) := by decide +kernel
theorem dX7_tryDig_10 : decode cX7_tryDig 10 = .ok (.ireturn, 1) := by decide +kernel
theorem dX7_tryDig_4 : decode cX7_tryDig 4 = .ok (.iload_n 2, 1) := by decide +kernel
theorem dX7_tryDig_5 : decode cX7_tryDig 5 = .ok (.iconst 2, 1) := by decide +kernel
theorem dX7_tryDig_6 : decode cX7_tryDig 6 = .ok (.if_icmp .le 5, 3) := by decide +kernel
theorem dX7_tryDig_11 : decode cX7_tryDig 11 = .ok (.iload_n 1, 1) := by decide +kernel
theorem dX7_tryDig_12 : decode cX7_tryDig 12 = .ok (.aload_n 0, 1) := by decide +kernel
theorem dX7_tryDig_13 : decode cX7_tryDig 13 = .ok (.getfield 12, 3) := by decide +kernel
theorem fl_RX7_12 : Cond.fieldLink RX7 12 RX7 "world" "LListenWells$World;" ∈ gW := gW_t 289 (by decide +kernel) rfl
theorem dX7_tryDig_16 : decode cX7_tryDig 16 = .ok (.getfield 36, 3) := by decide +kernel
theorem fl_RX7_36 : Cond.fieldLink RX7 36 RX10 "crew" "LListenWells$Crew;" ∈ gW := gW_t 219 (by decide +kernel) rfl
theorem dX7_tryDig_19 : decode cX7_tryDig 19 = .ok (.getfield 40, 3) := by decide +kernel
theorem fl_RX7_40 : Cond.fieldLink RX7 40 RX1 "count" "I" ∈ gW := gW_t 129 (by decide +kernel) rfl
theorem dX7_tryDig_22 : decode cX7_tryDig 22 = .ok (.invokestatic 46, 3) := by decide +kernel
theorem nl_RX7_46 : Cond.methodLinkNest RX7 46 yX11_isWithin RX11 ∈ nW := by decide +kernel
theorem mT_X11_isWithin : Cond.static yX11_isWithin ∈ gW := gW_t 494 (by decide +kernel) rfl
theorem mC_X11_isWithin : Cond.code yX11_isWithin cX11_isWithin 2 (some .boolean) ∈ gW := gW_t 495 (by decide +kernel) rfl
theorem ok_X11_isWithin : okD yX11_isWithin 2 := ⟨by decide +kernel, by decide +kernel, by decide +kernel⟩
theorem dX7_tryDig_25 : decode cX7_tryDig 25 = .ok (.ifCond .ne 6, 3) := by decide +kernel
theorem dX7_tryDig_28 : decode cX7_tryDig 28 = .ok (.bipush (-2), 2) := by decide +kernel
theorem dX7_tryDig_30 : decode cX7_tryDig 30 = .ok (.ireturn, 1) := by decide +kernel
def yX7_tryHaul : MethodName := ⟨RX7, "tryHaul", "(I)I"⟩
abbrev cX7_tryHaul : ByteArray := prog_9_method_5_code
theorem dX7_tryHaul_0 : decode cX7_tryHaul 0 = .ok (.iload_n 1, 1) := by decide +kernel
theorem dX7_tryHaul_1 : decode cX7_tryHaul 1 = .ok (.aload_n 0, 1) := by decide +kernel
theorem dX7_tryHaul_2 : decode cX7_tryHaul 2 = .ok (.getfield 12, 3) := by decide +kernel
theorem dX7_tryHaul_5 : decode cX7_tryHaul 5 = .ok (.getfield 36, 3) := by decide +kernel
theorem dX7_tryHaul_8 : decode cX7_tryHaul 8 = .ok (.getfield 40, 3) := by decide +kernel
theorem dX7_tryHaul_11 : decode cX7_tryHaul 11 = .ok (.invokestatic 46, 3) := by decide +kernel
theorem dX7_tryHaul_14 : decode cX7_tryHaul 14 = .ok (.ifCond .ne 6, 3) := by decide +kernel
theorem dX7_tryHaul_17 : decode cX7_tryHaul 17 = .ok (.bipush (-2), 2) := by decide +kernel
theorem dX7_tryHaul_19 : decode cX7_tryHaul 19 = .ok (.ireturn, 1) := by decide +kernel
def yX7_tryHush : MethodName := ⟨RX7, "tryHush", "(I)I"⟩
abbrev cX7_tryHush : ByteArray := prog_9_method_6_code
theorem dX7_tryHush_0 : decode cX7_tryHush 0 = .ok (.aload_n 0, 1) := by decide +kernel
theorem dX7_tryHush_1 : decode cX7_tryHush 1 = .ok (.getfield 12, 3) := by decide +kernel
theorem dX7_tryHush_4 : decode cX7_tryHush 4 = .ok (.getfield 115, 3) := by decide +kernel
theorem fl_RX7_115 : Cond.fieldLink RX7 115 RX10 "folk" "LListenWells$Folk;" ∈ gW := gW_t 225 (by decide +kernel) rfl
theorem dX7_tryHush_7 : decode cX7_tryHush 7 = .ok (.astore_n 2, 1) := by decide +kernel
theorem dX7_tryHush_8 : decode cX7_tryHush 8 = .ok (.iload_n 1, 1) := by decide +kernel
theorem dX7_tryHush_9 : decode cX7_tryHush 9 = .ok (.aload_n 2, 1) := by decide +kernel
theorem dX7_tryHush_10 : decode cX7_tryHush 10 = .ok (.getfield 119, 3) := by decide +kernel
theorem fl_RX7_119 : Cond.fieldLink RX7 119 RX4 "noises" "I" ∈ gW := gW_t 165 (by decide +kernel) rfl
theorem dX7_tryHush_13 : decode cX7_tryHush 13 = .ok (.invokestatic 46, 3) := by decide +kernel
theorem dX7_tryHush_16 : decode cX7_tryHush 16 = .ok (.ifCond .ne 6, 3) := by decide +kernel
theorem dX7_tryHush_19 : decode cX7_tryHush 19 = .ok (.bipush (-2), 2) := by decide +kernel
theorem dX7_tryHush_21 : decode cX7_tryHush 21 = .ok (.ireturn, 1) := by decide +kernel
def yX7_tryLie : MethodName := ⟨RX7, "tryLie", "(II)I"⟩
abbrev cX7_tryLie : ByteArray := prog_9_method_7_code
theorem dX7_tryLie_0 : decode cX7_tryLie 0 = .ok (.iload_n 2, 1) := by decide +kernel
theorem dX7_tryLie_1 : decode cX7_tryLie 1 = .ok (.bipush 8, 2) := by decide +kernel
theorem dX7_tryLie_3 : decode cX7_tryLie 3 = .ok (.invokestatic 46, 3) := by decide +kernel
theorem dX7_tryLie_6 : decode cX7_tryLie 6 = .ok (.ifCond .ne 5, 3) := by decide +kernel
theorem dX7_tryLie_11 : decode cX7_tryLie 11 = .ok (.iload_n 1, 1) := by decide +kernel
theorem dX7_tryLie_12 : decode cX7_tryLie 12 = .ok (.aload_n 0, 1) := by decide +kernel
theorem dX7_tryLie_13 : decode cX7_tryLie 13 = .ok (.getfield 12, 3) := by decide +kernel
theorem dX7_tryLie_16 : decode cX7_tryLie 16 = .ok (.getfield 115, 3) := by decide +kernel
theorem dX7_tryLie_19 : decode cX7_tryLie 19 = .ok (.getfield 133, 3) := by decide +kernel
theorem fl_RX7_133 : Cond.fieldLink RX7 133 RX4 "listeners" "I" ∈ gW := gW_t 157 (by decide +kernel) rfl
theorem dX7_tryLie_22 : decode cX7_tryLie 22 = .ok (.invokestatic 46, 3) := by decide +kernel
theorem dX7_tryLie_25 : decode cX7_tryLie 25 = .ok (.ifCond .ne 6, 3) := by decide +kernel
theorem dX7_tryLie_28 : decode cX7_tryLie 28 = .ok (.bipush (-2), 2) := by decide +kernel
theorem dX7_tryLie_30 : decode cX7_tryLie 30 = .ok (.ireturn, 1) := by decide +kernel
theorem dX7_tryLie_9 : decode cX7_tryLie 9 = .ok (.iconst (-1), 1) := by decide +kernel
theorem dX7_tryLie_10 : decode cX7_tryLie 10 = .ok (.ireturn, 1) := by decide +kernel
def yX7_takeBack : MethodName := ⟨RX7, "takeBack", "()I"⟩
abbrev cX7_takeBack : ByteArray := prog_9_method_8_code
theorem dX7_takeBack_0 : decode cX7_takeBack 0 = .ok (.aload_n 0, 1) := by decide +kernel
theorem dX7_takeBack_1 : decode cX7_takeBack 1 = .ok (.getfield 21, 3) := by decide +kernel
theorem fl_RX7_21 : Cond.fieldLink RX7 21 RX7 "diary" "LListenWells$Diary;" ∈ gW := gW_t 291 (by decide +kernel) rfl
theorem dX7_takeBack_4 : decode cX7_takeBack 4 = .ok (.getfield 139, 3) := by decide +kernel
theorem fl_RX7_139 : Cond.fieldLink RX7 139 RX2 "kept" "I" ∈ gW := gW_t 270 (by decide +kernel) rfl
theorem dX7_takeBack_7 : decode cX7_takeBack 7 = .ok (.ifCond .ne 6, 3) := by decide +kernel
theorem dX7_takeBack_10 : decode cX7_takeBack 10 = .ok (.bipush (-3), 2) := by decide +kernel
theorem dX7_takeBack_12 : decode cX7_takeBack 12 = .ok (.ireturn, 1) := by decide +kernel
def yX11_findWay : MethodName := ⟨RX11, "findWay", "(II)Z"⟩
abbrev cX11_findWay : ByteArray := prog_1_method_47_code
theorem dX11_findWay_0 : decode cX11_findWay 0 = .ok (.aload_n 0, 1) := by decide +kernel
theorem dX11_findWay_1 : decode cX11_findWay 1 = .ok (.getfield 21, 3) := by decide +kernel
theorem fl_RX11_21 : Cond.fieldLink RX11 21 RX11 "site" "LListenWells$Site;" ∈ gW := gW_t 447 (by decide +kernel) rfl
theorem dX11_findWay_4 : decode cX11_findWay 4 = .ok (.getfield 78, 3) := by decide +kernel
theorem fl_RX11_78 : Cond.fieldLink RX11 78 RX7 "world" "LListenWells$World;" ∈ gW := gW_t 290 (by decide +kernel) rfl
theorem dX11_findWay_7 : decode cX11_findWay 7 = .ok (.astore_n 3, 1) := by decide +kernel
theorem dX11_findWay_8 : decode cX11_findWay 8 = .ok (.iload_n 1, 1) := by decide +kernel
theorem dX11_findWay_9 : decode cX11_findWay 9 = .ok (.aload_n 3, 1) := by decide +kernel
theorem dX11_findWay_10 : decode cX11_findWay 10 = .ok (.getfield 134, 3) := by decide +kernel
theorem fl_RX11_134 : Cond.fieldLink RX11 134 RX10 "crew" "LListenWells$Crew;" ∈ gW := gW_t 220 (by decide +kernel) rfl
theorem dX11_findWay_13 : decode cX11_findWay 13 = .ok (.getfield 137, 3) := by decide +kernel
theorem fl_RX11_137 : Cond.fieldLink RX11 137 RX1 "count" "I" ∈ gW := gW_t 130 (by decide +kernel) rfl
theorem dX11_findWay_16 : decode cX11_findWay 16 = .ok (.invokestatic 82, 3) := by decide +kernel
theorem lk_RX11_82 : Cond.methodLink RX11 82 yX11_isWithin ∈ gW := gW_t 493 (by decide +kernel) rfl
theorem dX11_findWay_19 : decode cX11_findWay 19 = .ok (.ifCond .eq 20, 3) := by decide +kernel
theorem dX11_findWay_39 : decode cX11_findWay 39 = .ok (.iconst 0, 1) := by decide +kernel
theorem dX11_findWay_40 : decode cX11_findWay 40 = .ok (.ireturn, 1) := by decide +kernel
