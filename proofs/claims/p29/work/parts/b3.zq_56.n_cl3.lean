def yX11_lie : MethodName := ⟨RX11, "lie", "(II)I"⟩
abbrev cX11_lie : ByteArray := prog_1_method_26_code
theorem dX11_lie_0 : decode cX11_lie 0 = .ok (.aload_n 0, 1) := by decide +kernel
theorem dX11_lie_1 : decode cX11_lie 1 = .ok (.aload_n 0, 1) := by decide +kernel
theorem dX11_lie_2 : decode cX11_lie 2 = .ok (.getfield 21, 3) := by decide +kernel
theorem dX11_lie_5 : decode cX11_lie 5 = .ok (.iload_n 1, 1) := by decide +kernel
theorem dX11_lie_6 : decode cX11_lie 6 = .ok (.iload_n 2, 1) := by decide +kernel
theorem dX11_lie_7 : decode cX11_lie 7 = .ok (.invokevirtual 286, 3) := by decide +kernel
theorem lk_RX11_286 : Cond.methodLink RX11 286 yX7_tryLie ∈ gW := gW_u tb_5 63 (by rfl) (by decide +kernel)
theorem mI_X7_tryLie : Cond.instanceMethod yX7_tryLie ∈ gW := gW_u tb_4 193 (by rfl) (by decide +kernel)
theorem mS_X7_tryLie : Cond.selects RX7 yX7_tryLie yX7_tryLie ∈ gW := gW_u tb_4 194 (by rfl) (by decide +kernel)
theorem mC_X7_tryLie : Cond.code yX7_tryLie cX7_tryLie 4 (some .int) ∈ gW := gW_u tb_4 195 (by rfl) (by decide +kernel)
theorem ok_X7_tryLie : okD yX7_tryLie 2 := ⟨by decide +kernel, by decide +kernel, by decide +kernel⟩
theorem dX11_lie_10 : decode cX11_lie 10 = .ok (.invokevirtual 91, 3) := by decide +kernel
theorem dX11_lie_13 : decode cX11_lie 13 = .ok (.ireturn, 1) := by decide +kernel
def yX11_undo : MethodName := ⟨RX11, "undo", "()I"⟩
abbrev cX11_undo : ByteArray := prog_1_method_27_code
theorem dX11_undo_0 : decode cX11_undo 0 = .ok (.aload_n 0, 1) := by decide +kernel
theorem dX11_undo_1 : decode cX11_undo 1 = .ok (.aload_n 0, 1) := by decide +kernel
theorem dX11_undo_2 : decode cX11_undo 2 = .ok (.getfield 21, 3) := by decide +kernel
theorem dX11_undo_5 : decode cX11_undo 5 = .ok (.invokevirtual 289, 3) := by decide +kernel
theorem lk_RX11_289 : Cond.methodLink RX11 289 yX7_takeBack ∈ gW := gW_u tb_5 68 (by rfl) (by decide +kernel)
theorem mI_X7_takeBack : Cond.instanceMethod yX7_takeBack ∈ gW := gW_u tb_5 69 (by rfl) (by decide +kernel)
theorem mS_X7_takeBack : Cond.selects RX7 yX7_takeBack yX7_takeBack ∈ gW := gW_u tb_5 70 (by rfl) (by decide +kernel)
theorem mC_X7_takeBack : Cond.code yX7_takeBack cX7_takeBack 4 (some .int) ∈ gW := gW_u tb_5 71 (by rfl) (by decide +kernel)
theorem ok_X7_takeBack : okD yX7_takeBack 0 := ⟨by decide +kernel, by decide +kernel, by decide +kernel⟩
theorem dX11_undo_8 : decode cX11_undo 8 = .ok (.invokevirtual 91, 3) := by decide +kernel
theorem dX11_undo_11 : decode cX11_undo 11 = .ok (.ireturn, 1) := by decide +kernel
def yX11_vein : MethodName := ⟨RX11, "vein", "(II)J"⟩
abbrev cX11_vein : ByteArray := prog_1_method_37_code
theorem dX11_vein_0 : decode cX11_vein 0 = .ok (.aload_n 0, 1) := by decide +kernel
theorem dX11_vein_1 : decode cX11_vein 1 = .ok (.getfield 21, 3) := by decide +kernel
theorem dX11_vein_4 : decode cX11_vein 4 = .ok (.getfield 78, 3) := by decide +kernel
theorem dX11_vein_7 : decode cX11_vein 7 = .ok (.astore_n 3, 1) := by decide +kernel
theorem dX11_vein_8 : decode cX11_vein 8 = .ok (.iload_n 1, 1) := by decide +kernel
theorem dX11_vein_9 : decode cX11_vein 9 = .ok (.bipush 40, 2) := by decide +kernel
theorem dX11_vein_11 : decode cX11_vein 11 = .ok (.invokestatic 82, 3) := by decide +kernel
theorem dX11_vein_14 : decode cX11_vein 14 = .ok (.ifCond .eq 16, 3) := by decide +kernel
theorem dX11_vein_30 : decode cX11_vein 30 = .ok (.ldc2_w 268, 3) := by decide +kernel
theorem ct_RX11_268 : Cond.constantLong RX11 268 (-1) ∈ gW := gW_u tb_5 22 (by rfl) (by decide +kernel)
theorem dX11_vein_33 : decode cX11_vein 33 = .ok (.lreturn, 1) := by decide +kernel
theorem dX11_vein_17 : decode cX11_vein 17 = .ok (.aload_n 3, 1) := by decide +kernel
theorem dX11_vein_18 : decode cX11_vein 18 = .ok (.getfield 95, 3) := by decide +kernel
theorem dX11_vein_21 : decode cX11_vein 21 = .ok (.getfield 124, 3) := by decide +kernel
theorem dX11_vein_24 : decode cX11_vein 24 = .ok (.iload_n 1, 1) := by decide +kernel
theorem dX11_vein_25 : decode cX11_vein 25 = .ok (.iaload, 1) := by decide +kernel
theorem dX11_vein_26 : decode cX11_vein 26 = .ok (.iconst 3, 1) := by decide +kernel
theorem dX11_vein_27 : decode cX11_vein 27 = .ok (.if_icmp .eq 7, 3) := by decide +kernel
theorem dX11_vein_34 : decode cX11_vein 34 = .ok (.aload_n 3, 1) := by decide +kernel
theorem dX11_vein_35 : decode cX11_vein 35 = .ok (.getfield 95, 3) := by decide +kernel
theorem dX11_vein_38 : decode cX11_vein 38 = .ok (.iload_n 1, 1) := by decide +kernel
theorem dX11_vein_39 : decode cX11_vein 39 = .ok (.invokevirtual 352, 3) := by decide +kernel
theorem lk_RX11_352 : Cond.methodLink RX11 352 yX6_veinOf ∈ gW := gW_u tb_5 228 (by rfl) (by decide +kernel)
theorem dX11_vein_42 : decode cX11_vein 42 = .ok (.lstore 4, 2) := by decide +kernel
theorem dX11_vein_44 : decode cX11_vein 44 = .ok (.iload_n 2, 1) := by decide +kernel
theorem dX11_vein_45 : decode cX11_vein 45 = .ok (.tableswitch 52 0 2 #[27, 30, 41], 27) := by decide +kernel
theorem dX11_vein_72 : decode cX11_vein 72 = .ok (.lload 4, 2) := by decide +kernel
theorem dX11_vein_74 : decode cX11_vein 74 = .ok (.lreturn, 1) := by decide +kernel
theorem dX11_vein_75 : decode cX11_vein 75 = .ok (.aload_n 3, 1) := by decide +kernel
theorem dX11_vein_76 : decode cX11_vein 76 = .ok (.getfield 95, 3) := by decide +kernel
theorem dX11_vein_79 : decode cX11_vein 79 = .ok (.lload 4, 2) := by decide +kernel
theorem dX11_vein_81 : decode cX11_vein 81 = .ok (.invokevirtual 356, 3) := by decide +kernel
theorem lk_RX11_356 : Cond.methodLink RX11 356 yX6_waterIn ∈ gW := gW_u tb_5 229 (by rfl) (by decide +kernel)
theorem dX11_vein_84 : decode cX11_vein 84 = .ok (.i2l, 1) := by decide +kernel
theorem dX11_vein_85 : decode cX11_vein 85 = .ok (.lreturn, 1) := by decide +kernel
theorem dX11_vein_86 : decode cX11_vein 86 = .ok (.aload_n 3, 1) := by decide +kernel
theorem dX11_vein_87 : decode cX11_vein 87 = .ok (.getfield 134, 3) := by decide +kernel
theorem dX11_vein_90 : decode cX11_vein 90 = .ok (.lload 4, 2) := by decide +kernel
theorem dX11_vein_92 : decode cX11_vein 92 = .ok (.invokevirtual 359, 3) := by decide +kernel
theorem lk_RX11_359 : Cond.methodLink RX11 359 yX1_countIn ∈ gW := gW_u tb_5 230 (by rfl) (by decide +kernel)
theorem dX11_vein_95 : decode cX11_vein 95 = .ok (.i2l, 1) := by decide +kernel
theorem dX11_vein_96 : decode cX11_vein 96 = .ok (.lreturn, 1) := by decide +kernel
theorem dX11_vein_97 : decode cX11_vein 97 = .ok (.ldc2_w 268, 3) := by decide +kernel
theorem dX11_vein_100 : decode cX11_vein 100 = .ok (.lreturn, 1) := by decide +kernel
def yX11_drawn : MethodName := ⟨RX11, "drawn", "(II)I"⟩
abbrev cX11_drawn : ByteArray := prog_1_method_41_code
theorem dX11_drawn_0 : decode cX11_drawn 0 = .ok (.aload_n 0, 1) := by decide +kernel
theorem dX11_drawn_1 : decode cX11_drawn 1 = .ok (.getfield 67, 3) := by decide +kernel
theorem fl_RX11_67 : Cond.fieldLink RX11 67 RX11 "drawnDay" "I" ∈ gW := gW_u tb_2 215 (by rfl) (by decide +kernel)
theorem dX11_drawn_4 : decode cX11_drawn 4 = .ok (.iconst (-1), 1) := by decide +kernel
theorem dX11_drawn_5 : decode cX11_drawn 5 = .ok (.if_icmp .eq 12, 3) := by decide +kernel
theorem dX11_drawn_17 : decode cX11_drawn 17 = .ok (.iconst (-1), 1) := by decide +kernel
theorem dX11_drawn_18 : decode cX11_drawn 18 = .ok (.ireturn, 1) := by decide +kernel
theorem dX11_drawn_8 : decode cX11_drawn 8 = .ok (.iload_n 2, 1) := by decide +kernel
theorem dX11_drawn_9 : decode cX11_drawn 9 = .ok (.ifCond .lt 8, 3) := by decide +kernel
theorem dX11_drawn_12 : decode cX11_drawn 12 = .ok (.iload_n 2, 1) := by decide +kernel
theorem dX11_drawn_13 : decode cX11_drawn 13 = .ok (.iconst 2, 1) := by decide +kernel
theorem dX11_drawn_14 : decode cX11_drawn 14 = .ok (.if_icmp .le 5, 3) := by decide +kernel
theorem dX11_drawn_19 : decode cX11_drawn 19 = .ok (.iload_n 2, 1) := by decide +kernel
theorem dX11_drawn_20 : decode cX11_drawn 20 = .ok (.iconst 2, 1) := by decide +kernel
theorem dX11_drawn_21 : decode cX11_drawn 21 = .ok (.if_icmp .ne 8, 3) := by decide +kernel
theorem dX11_drawn_29 : decode cX11_drawn 29 = .ok (.iload_n 1, 1) := by decide +kernel
theorem dX11_drawn_30 : decode cX11_drawn 30 = .ok (.aload_n 0, 1) := by decide +kernel
theorem dX11_drawn_31 : decode cX11_drawn 31 = .ok (.getfield 63, 3) := by decide +kernel
theorem fl_RX11_63 : Cond.fieldLink RX11 63 RX11 "drawnCrew" "LListenWells$Crew;" ∈ gW := gW_u tb_2 214 (by rfl) (by decide +kernel)
theorem dX11_drawn_34 : decode cX11_drawn 34 = .ok (.getfield 137, 3) := by decide +kernel
theorem dX11_drawn_37 : decode cX11_drawn 37 = .ok (.invokestatic 82, 3) := by decide +kernel
theorem dX11_drawn_40 : decode cX11_drawn 40 = .ok (.ifCond .ne 5, 3) := by decide +kernel
theorem dX11_drawn_45 : decode cX11_drawn 45 = .ok (.iload_n 2, 1) := by decide +kernel
theorem dX11_drawn_46 : decode cX11_drawn 46 = .ok (.ifCond .ne 15, 3) := by decide +kernel
theorem dX11_drawn_61 : decode cX11_drawn 61 = .ok (.aload_n 0, 1) := by decide +kernel
theorem dX11_drawn_62 : decode cX11_drawn 62 = .ok (.getfield 63, 3) := by decide +kernel
theorem dX11_drawn_65 : decode cX11_drawn 65 = .ok (.getfield 150, 3) := by decide +kernel
theorem dX11_drawn_68 : decode cX11_drawn 68 = .ok (.iload_n 1, 1) := by decide +kernel
theorem dX11_drawn_69 : decode cX11_drawn 69 = .ok (.iaload, 1) := by decide +kernel
theorem dX11_drawn_70 : decode cX11_drawn 70 = .ok (.ireturn, 1) := by decide +kernel
theorem dX11_drawn_49 : decode cX11_drawn 49 = .ok (.aload_n 0, 1) := by decide +kernel
theorem dX11_drawn_50 : decode cX11_drawn 50 = .ok (.getfield 63, 3) := by decide +kernel
theorem dX11_drawn_53 : decode cX11_drawn 53 = .ok (.getfield 147, 3) := by decide +kernel
theorem dX11_drawn_56 : decode cX11_drawn 56 = .ok (.iload_n 1, 1) := by decide +kernel
theorem dX11_drawn_57 : decode cX11_drawn 57 = .ok (.iaload, 1) := by decide +kernel
theorem dX11_drawn_58 : decode cX11_drawn 58 = .ok (.goto 12, 3) := by decide +kernel
theorem dX11_drawn_43 : decode cX11_drawn 43 = .ok (.iconst (-1), 1) := by decide +kernel
theorem dX11_drawn_44 : decode cX11_drawn 44 = .ok (.ireturn, 1) := by decide +kernel
theorem dX11_drawn_24 : decode cX11_drawn 24 = .ok (.aload_n 0, 1) := by decide +kernel
theorem dX11_drawn_25 : decode cX11_drawn 25 = .ok (.getfield 67, 3) := by decide +kernel
theorem dX11_drawn_28 : decode cX11_drawn 28 = .ok (.ireturn, 1) := by decide +kernel
def yX11_image : MethodName := ⟨RX11, "image", "(I)I"⟩
abbrev cX11_image : ByteArray := prog_1_method_42_code
theorem dX11_image_0 : decode cX11_image 0 = .ok (.iload_n 1, 1) := by decide +kernel
theorem dX11_image_1 : decode cX11_image 1 = .ok (.iconst 2, 1) := by decide +kernel
theorem dX11_image_2 : decode cX11_image 2 = .ok (.invokestatic 82, 3) := by decide +kernel
theorem dX11_image_5 : decode cX11_image 5 = .ok (.ifCond .ne 9, 3) := by decide +kernel
theorem dX11_image_14 : decode cX11_image 14 = .ok (.aload_n 0, 1) := by decide +kernel
theorem dX11_image_15 : decode cX11_image 15 = .ok (.getfield 31, 3) := by decide +kernel
theorem fl_RX11_31 : Cond.fieldLink RX11 31 RX11 "images" "[LListenWells$World;" ∈ gW := gW_u tb_2 209 (by rfl) (by decide +kernel)
theorem dX11_image_18 : decode cX11_image 18 = .ok (.iload_n 1, 1) := by decide +kernel
theorem dX11_image_19 : decode cX11_image 19 = .ok (.aaload, 1) := by decide +kernel
theorem dX11_image_20 : decode cX11_image 20 = .ok (.aload_n 0, 1) := by decide +kernel
theorem dX11_image_21 : decode cX11_image 21 = .ok (.getfield 21, 3) := by decide +kernel
theorem dX11_image_24 : decode cX11_image 24 = .ok (.getfield 78, 3) := by decide +kernel
theorem dX11_image_27 : decode cX11_image 27 = .ok (.invokevirtual 380, 3) := by decide +kernel
theorem lk_RX11_380 : Cond.methodLink RX11 380 yX10_copyFrom ∈ gW := gW_u tb_6 32 (by rfl) (by decide +kernel)
theorem mI_X10_copyFrom : Cond.instanceMethod yX10_copyFrom ∈ gW := gW_u tb_4 120 (by rfl) (by decide +kernel)
theorem mS_X10_copyFrom : Cond.selects RX10 yX10_copyFrom yX10_copyFrom ∈ gW := gW_u tb_4 121 (by rfl) (by decide +kernel)
theorem mC_X10_copyFrom : Cond.code yX10_copyFrom cX10_copyFrom 3 none ∈ gW := gW_u tb_4 122 (by rfl) (by decide +kernel)
theorem ok_X10_copyFrom : okD yX10_copyFrom 1 := ⟨by decide +kernel, by decide +kernel, by decide +kernel⟩
theorem dX11_image_30 : decode cX11_image 30 = .ok (.aload_n 0, 1) := by decide +kernel
theorem dX11_image_31 : decode cX11_image 31 = .ok (.getfield 35, 3) := by decide +kernel
theorem fl_RX11_35 : Cond.fieldLink RX11 35 RX11 "kept" "[Z" ∈ gW := gW_u tb_2 210 (by rfl) (by decide +kernel)
theorem dX11_image_34 : decode cX11_image 34 = .ok (.iload_n 1, 1) := by decide +kernel
theorem dX11_image_35 : decode cX11_image 35 = .ok (.iconst 1, 1) := by decide +kernel
theorem dX11_image_36 : decode cX11_image 36 = .ok (.bastore, 1) := by decide +kernel
theorem dX11_image_37 : decode cX11_image 37 = .ok (.aload_n 0, 1) := by decide +kernel
theorem dX11_image_38 : decode cX11_image 38 = .ok (.iconst 0, 1) := by decide +kernel
theorem dX11_image_39 : decode cX11_image 39 = .ok (.invokevirtual 91, 3) := by decide +kernel
theorem dX11_image_42 : decode cX11_image 42 = .ok (.ireturn, 1) := by decide +kernel
theorem dX11_image_8 : decode cX11_image 8 = .ok (.aload_n 0, 1) := by decide +kernel
theorem dX11_image_9 : decode cX11_image 9 = .ok (.iconst (-1), 1) := by decide +kernel
theorem dX11_image_10 : decode cX11_image 10 = .ok (.invokevirtual 91, 3) := by decide +kernel
theorem dX11_image_13 : decode cX11_image 13 = .ok (.ireturn, 1) := by decide +kernel
def yX11_back : MethodName := ⟨RX11, "back", "(I)I"⟩
abbrev cX11_back : ByteArray := prog_1_method_43_code
theorem dX11_back_0 : decode cX11_back 0 = .ok (.iload_n 1, 1) := by decide +kernel
theorem dX11_back_1 : decode cX11_back 1 = .ok (.iconst 2, 1) := by decide +kernel
theorem dX11_back_2 : decode cX11_back 2 = .ok (.invokestatic 82, 3) := by decide +kernel
theorem dX11_back_5 : decode cX11_back 5 = .ok (.ifCond .ne 9, 3) := by decide +kernel
theorem dX11_back_14 : decode cX11_back 14 = .ok (.aload_n 0, 1) := by decide +kernel
theorem dX11_back_15 : decode cX11_back 15 = .ok (.getfield 35, 3) := by decide +kernel
theorem dX11_back_18 : decode cX11_back 18 = .ok (.iload_n 1, 1) := by decide +kernel
theorem dX11_back_19 : decode cX11_back 19 = .ok (.baload, 1) := by decide +kernel
theorem dX11_back_20 : decode cX11_back 20 = .ok (.ifCond .ne 10, 3) := by decide +kernel
theorem dX11_back_30 : decode cX11_back 30 = .ok (.aload_n 0, 1) := by decide +kernel
theorem dX11_back_31 : decode cX11_back 31 = .ok (.getfield 21, 3) := by decide +kernel
theorem dX11_back_34 : decode cX11_back 34 = .ok (.getfield 78, 3) := by decide +kernel
theorem dX11_back_37 : decode cX11_back 37 = .ok (.aload_n 0, 1) := by decide +kernel
theorem dX11_back_38 : decode cX11_back 38 = .ok (.getfield 31, 3) := by decide +kernel
theorem dX11_back_41 : decode cX11_back 41 = .ok (.iload_n 1, 1) := by decide +kernel
theorem dX11_back_42 : decode cX11_back 42 = .ok (.aaload, 1) := by decide +kernel
theorem dX11_back_43 : decode cX11_back 43 = .ok (.invokevirtual 380, 3) := by decide +kernel
theorem dX11_back_46 : decode cX11_back 46 = .ok (.aload_n 0, 1) := by decide +kernel
theorem dX11_back_47 : decode cX11_back 47 = .ok (.getfield 21, 3) := by decide +kernel
theorem dX11_back_50 : decode cX11_back 50 = .ok (.getfield 107, 3) := by decide +kernel
theorem dX11_back_53 : decode cX11_back 53 = .ok (.invokevirtual 111, 3) := by decide +kernel
theorem dX11_back_56 : decode cX11_back 56 = .ok (.aload_n 0, 1) := by decide +kernel
theorem dX11_back_57 : decode cX11_back 57 = .ok (.iconst 0, 1) := by decide +kernel
theorem dX11_back_58 : decode cX11_back 58 = .ok (.invokevirtual 91, 3) := by decide +kernel
theorem dX11_back_61 : decode cX11_back 61 = .ok (.ireturn, 1) := by decide +kernel
theorem dX11_back_23 : decode cX11_back 23 = .ok (.aload_n 0, 1) := by decide +kernel
theorem dX11_back_24 : decode cX11_back 24 = .ok (.bipush (-2), 2) := by decide +kernel
theorem dX11_back_26 : decode cX11_back 26 = .ok (.invokevirtual 91, 3) := by decide +kernel
theorem dX11_back_29 : decode cX11_back 29 = .ok (.ireturn, 1) := by decide +kernel
theorem dX11_back_8 : decode cX11_back 8 = .ok (.aload_n 0, 1) := by decide +kernel
theorem dX11_back_9 : decode cX11_back 9 = .ok (.iconst (-1), 1) := by decide +kernel
theorem dX11_back_10 : decode cX11_back 10 = .ok (.invokevirtual 91, 3) := by decide +kernel
theorem dX11_back_13 : decode cX11_back 13 = .ok (.ireturn, 1) := by decide +kernel
def yX11_status : MethodName := ⟨RX11, "status", "()I"⟩
abbrev cX11_status : ByteArray := prog_1_method_45_code
theorem dX11_status_0 : decode cX11_status 0 = .ok (.aload_n 0, 1) := by decide +kernel
theorem dX11_status_1 : decode cX11_status 1 = .ok (.getfield 249, 3) := by decide +kernel
theorem dX11_status_4 : decode cX11_status 4 = .ok (.ireturn, 1) := by decide +kernel
def yX11_stepsTo : MethodName := ⟨RX11, "stepsTo", "(II)I"⟩
abbrev cX11_stepsTo : ByteArray := prog_1_method_49_code
theorem dX11_stepsTo_0 : decode cX11_stepsTo 0 = .ok (.iload_n 0, 1) := by decide +kernel
theorem dX11_stepsTo_1 : decode cX11_stepsTo 1 = .ok (.bipush 8, 2) := by decide +kernel
theorem dX11_stepsTo_3 : decode cX11_stepsTo 3 = .ok (.irem, 1) := by decide +kernel
theorem dX11_stepsTo_4 : decode cX11_stepsTo 4 = .ok (.iload_n 1, 1) := by decide +kernel
theorem dX11_stepsTo_5 : decode cX11_stepsTo 5 = .ok (.isub, 1) := by decide +kernel
theorem dX11_stepsTo_6 : decode cX11_stepsTo 6 = .ok (.invokestatic 400, 3) := by decide +kernel
theorem lk_RX11_400 : Cond.methodLink RX11 400 Lib.Math.abs.name ∈ gW := gW_u tb_5 12 (by rfl) (by decide +kernel)
theorem dX11_stepsTo_9 : decode cX11_stepsTo 9 = .ok (.iload_n 0, 1) := by decide +kernel
theorem dX11_stepsTo_10 : decode cX11_stepsTo 10 = .ok (.bipush 8, 2) := by decide +kernel
theorem dX11_stepsTo_12 : decode cX11_stepsTo 12 = .ok (.idiv, 1) := by decide +kernel
theorem dX11_stepsTo_13 : decode cX11_stepsTo 13 = .ok (.iadd, 1) := by decide +kernel
theorem dX11_stepsTo_14 : decode cX11_stepsTo 14 = .ok (.iconst 1, 1) := by decide +kernel
theorem dX11_stepsTo_15 : decode cX11_stepsTo 15 = .ok (.iadd, 1) := by decide +kernel
theorem dX11_stepsTo_16 : decode cX11_stepsTo 16 = .ok (.ireturn, 1) := by decide +kernel
def yX11_nearest : MethodName := ⟨RX11, "nearest", "(III)I"⟩
abbrev cX11_nearest : ByteArray := prog_1_method_50_code
theorem dX11_nearest_0 : decode cX11_nearest 0 = .ok (.iload_n 1, 1) := by decide +kernel
theorem dX11_nearest_1 : decode cX11_nearest 1 = .ok (.iload_n 2, 1) := by decide +kernel
theorem dX11_nearest_2 : decode cX11_nearest 2 = .ok (.iload_n 0, 1) := by decide +kernel
theorem dX11_nearest_3 : decode cX11_nearest 3 = .ok (.invokestatic 405, 3) := by decide +kernel
theorem lk_RX11_405 : Cond.methodLink RX11 405 Lib.Math.min.name ∈ gW := gW_u tb_3 84 (by rfl) (by decide +kernel)
theorem dX11_nearest_6 : decode cX11_nearest 6 = .ok (.invokestatic 408, 3) := by decide +kernel
theorem lk_RX11_408 : Cond.methodLink RX11 408 Lib.Math.max.name ∈ gW := gW_u tb_3 87 (by rfl) (by decide +kernel)
theorem dX11_nearest_9 : decode cX11_nearest 9 = .ok (.ireturn, 1) := by decide +kernel
def yJ6_bitCount_0f7a4 : MethodName := ⟨RJ6, "bitCount", "(I)I"⟩
abbrev cJ6_bitCount_0f7a4 : ByteArray := prog_15_method_49_code
theorem dJ6_bitCount_0f7a4_0 : decode cJ6_bitCount_0f7a4 0 = .ok (.iload_n 0, 1) := by decide +kernel
theorem dJ6_bitCount_0f7a4_1 : decode cJ6_bitCount_0f7a4 1 = .ok (.iload_n 0, 1) := by decide +kernel
theorem dJ6_bitCount_0f7a4_2 : decode cJ6_bitCount_0f7a4 2 = .ok (.iconst 1, 1) := by decide +kernel
theorem dJ6_bitCount_0f7a4_3 : decode cJ6_bitCount_0f7a4 3 = .ok (.iushr, 1) := by decide +kernel
theorem dJ6_bitCount_0f7a4_4 : decode cJ6_bitCount_0f7a4 4 = .ok (.ldc_w 265, 3) := by decide +kernel
theorem ct_RJ6_265 : Cond.constant RJ6 265 1431655765 ∈ gW := gW_u tb_5 158 (by rfl) (by decide +kernel)
theorem dJ6_bitCount_0f7a4_7 : decode cJ6_bitCount_0f7a4 7 = .ok (.iand, 1) := by decide +kernel
theorem dJ6_bitCount_0f7a4_8 : decode cJ6_bitCount_0f7a4 8 = .ok (.isub, 1) := by decide +kernel
theorem dJ6_bitCount_0f7a4_9 : decode cJ6_bitCount_0f7a4 9 = .ok (.istore_n 0, 1) := by decide +kernel
theorem dJ6_bitCount_0f7a4_10 : decode cJ6_bitCount_0f7a4 10 = .ok (.iload_n 0, 1) := by decide +kernel
theorem dJ6_bitCount_0f7a4_11 : decode cJ6_bitCount_0f7a4 11 = .ok (.ldc_w 266, 3) := by decide +kernel
theorem ct_RJ6_266 : Cond.constant RJ6 266 858993459 ∈ gW := gW_u tb_5 159 (by rfl) (by decide +kernel)
theorem dJ6_bitCount_0f7a4_14 : decode cJ6_bitCount_0f7a4 14 = .ok (.iand, 1) := by decide +kernel
theorem dJ6_bitCount_0f7a4_15 : decode cJ6_bitCount_0f7a4 15 = .ok (.iload_n 0, 1) := by decide +kernel
theorem dJ6_bitCount_0f7a4_16 : decode cJ6_bitCount_0f7a4 16 = .ok (.iconst 2, 1) := by decide +kernel
theorem dJ6_bitCount_0f7a4_17 : decode cJ6_bitCount_0f7a4 17 = .ok (.iushr, 1) := by decide +kernel
theorem dJ6_bitCount_0f7a4_18 : decode cJ6_bitCount_0f7a4 18 = .ok (.ldc_w 266, 3) := by decide +kernel
theorem dJ6_bitCount_0f7a4_21 : decode cJ6_bitCount_0f7a4 21 = .ok (.iand, 1) := by decide +kernel
theorem dJ6_bitCount_0f7a4_22 : decode cJ6_bitCount_0f7a4 22 = .ok (.iadd, 1) := by decide +kernel
theorem dJ6_bitCount_0f7a4_23 : decode cJ6_bitCount_0f7a4 23 = .ok (.istore_n 0, 1) := by decide +kernel
theorem dJ6_bitCount_0f7a4_24 : decode cJ6_bitCount_0f7a4 24 = .ok (.iload_n 0, 1) := by decide +kernel
theorem dJ6_bitCount_0f7a4_25 : decode cJ6_bitCount_0f7a4 25 = .ok (.iload_n 0, 1) := by decide +kernel
theorem dJ6_bitCount_0f7a4_26 : decode cJ6_bitCount_0f7a4 26 = .ok (.iconst 4, 1) := by decide +kernel
theorem dJ6_bitCount_0f7a4_27 : decode cJ6_bitCount_0f7a4 27 = .ok (.iushr, 1) := by decide +kernel
theorem dJ6_bitCount_0f7a4_28 : decode cJ6_bitCount_0f7a4 28 = .ok (.iadd, 1) := by decide +kernel
theorem dJ6_bitCount_0f7a4_29 : decode cJ6_bitCount_0f7a4 29 = .ok (.ldc_w 267, 3) := by decide +kernel
theorem ct_RJ6_267 : Cond.constant RJ6 267 252645135 ∈ gW := gW_u tb_5 160 (by rfl) (by decide +kernel)
theorem dJ6_bitCount_0f7a4_32 : decode cJ6_bitCount_0f7a4 32 = .ok (.iand, 1) := by decide +kernel
theorem dJ6_bitCount_0f7a4_33 : decode cJ6_bitCount_0f7a4 33 = .ok (.istore_n 0, 1) := by decide +kernel
theorem dJ6_bitCount_0f7a4_34 : decode cJ6_bitCount_0f7a4 34 = .ok (.iload_n 0, 1) := by decide +kernel
theorem dJ6_bitCount_0f7a4_35 : decode cJ6_bitCount_0f7a4 35 = .ok (.iload_n 0, 1) := by decide +kernel
theorem dJ6_bitCount_0f7a4_36 : decode cJ6_bitCount_0f7a4 36 = .ok (.bipush 8, 2) := by decide +kernel
theorem dJ6_bitCount_0f7a4_38 : decode cJ6_bitCount_0f7a4 38 = .ok (.iushr, 1) := by decide +kernel
theorem dJ6_bitCount_0f7a4_39 : decode cJ6_bitCount_0f7a4 39 = .ok (.iadd, 1) := by decide +kernel
theorem dJ6_bitCount_0f7a4_40 : decode cJ6_bitCount_0f7a4 40 = .ok (.istore_n 0, 1) := by decide +kernel
theorem dJ6_bitCount_0f7a4_41 : decode cJ6_bitCount_0f7a4 41 = .ok (.iload_n 0, 1) := by decide +kernel
theorem dJ6_bitCount_0f7a4_42 : decode cJ6_bitCount_0f7a4 42 = .ok (.iload_n 0, 1) := by decide +kernel
theorem dJ6_bitCount_0f7a4_43 : decode cJ6_bitCount_0f7a4 43 = .ok (.bipush 16, 2) := by decide +kernel
theorem dJ6_bitCount_0f7a4_45 : decode cJ6_bitCount_0f7a4 45 = .ok (.iushr, 1) := by decide +kernel
theorem dJ6_bitCount_0f7a4_46 : decode cJ6_bitCount_0f7a4 46 = .ok (.iadd, 1) := by decide +kernel
theorem dJ6_bitCount_0f7a4_47 : decode cJ6_bitCount_0f7a4 47 = .ok (.istore_n 0, 1) := by decide +kernel
theorem dJ6_bitCount_0f7a4_48 : decode cJ6_bitCount_0f7a4 48 = .ok (.iload_n 0, 1) := by decide +kernel
theorem dJ6_bitCount_0f7a4_49 : decode cJ6_bitCount_0f7a4 49 = .ok (.bipush 63, 2) := by decide +kernel
theorem dJ6_bitCount_0f7a4_51 : decode cJ6_bitCount_0f7a4 51 = .ok (.iand, 1) := by decide +kernel
theorem dJ6_bitCount_0f7a4_52 : decode cJ6_bitCount_0f7a4 52 = .ok (.ireturn, 1) := by decide +kernel
def yJ13_bitCount_95d88 : MethodName := ⟨RJ13, "bitCount", "(J)I"⟩
abbrev cJ13_bitCount_95d88 : ByteArray := prog_16_method_50_code
theorem dJ13_bitCount_95d88_0 : decode cJ13_bitCount_95d88 0 = .ok (.lload_n 0, 1) := by decide +kernel
theorem dJ13_bitCount_95d88_1 : decode cJ13_bitCount_95d88 1 = .ok (.lload_n 0, 1) := by decide +kernel
theorem dJ13_bitCount_95d88_2 : decode cJ13_bitCount_95d88 2 = .ok (.iconst 1, 1) := by decide +kernel
theorem dJ13_bitCount_95d88_3 : decode cJ13_bitCount_95d88 3 = .ok (.lushr, 1) := by decide +kernel
theorem dJ13_bitCount_95d88_4 : decode cJ13_bitCount_95d88 4 = .ok (.ldc2_w 314, 3) := by decide +kernel
theorem ct_RJ13_314 : Cond.constantLong RJ13 314 6148914691236517205 ∈ gW := gW_u tb_5 121 (by rfl) (by decide +kernel)
theorem dJ13_bitCount_95d88_7 : decode cJ13_bitCount_95d88 7 = .ok (.land, 1) := by decide +kernel
theorem dJ13_bitCount_95d88_8 : decode cJ13_bitCount_95d88 8 = .ok (.lsub, 1) := by decide +kernel
theorem dJ13_bitCount_95d88_9 : decode cJ13_bitCount_95d88 9 = .ok (.lstore_n 0, 1) := by decide +kernel
theorem dJ13_bitCount_95d88_10 : decode cJ13_bitCount_95d88 10 = .ok (.lload_n 0, 1) := by decide +kernel
theorem dJ13_bitCount_95d88_11 : decode cJ13_bitCount_95d88 11 = .ok (.ldc2_w 316, 3) := by decide +kernel
theorem ct_RJ13_316 : Cond.constantLong RJ13 316 3689348814741910323 ∈ gW := gW_u tb_5 122 (by rfl) (by decide +kernel)
theorem dJ13_bitCount_95d88_14 : decode cJ13_bitCount_95d88 14 = .ok (.land, 1) := by decide +kernel
theorem dJ13_bitCount_95d88_15 : decode cJ13_bitCount_95d88 15 = .ok (.lload_n 0, 1) := by decide +kernel
theorem dJ13_bitCount_95d88_16 : decode cJ13_bitCount_95d88 16 = .ok (.iconst 2, 1) := by decide +kernel
theorem dJ13_bitCount_95d88_17 : decode cJ13_bitCount_95d88 17 = .ok (.lushr, 1) := by decide +kernel
theorem dJ13_bitCount_95d88_18 : decode cJ13_bitCount_95d88 18 = .ok (.ldc2_w 316, 3) := by decide +kernel
theorem dJ13_bitCount_95d88_21 : decode cJ13_bitCount_95d88 21 = .ok (.land, 1) := by decide +kernel
theorem dJ13_bitCount_95d88_22 : decode cJ13_bitCount_95d88 22 = .ok (.ladd, 1) := by decide +kernel
theorem dJ13_bitCount_95d88_23 : decode cJ13_bitCount_95d88 23 = .ok (.lstore_n 0, 1) := by decide +kernel
theorem dJ13_bitCount_95d88_24 : decode cJ13_bitCount_95d88 24 = .ok (.lload_n 0, 1) := by decide +kernel
theorem dJ13_bitCount_95d88_25 : decode cJ13_bitCount_95d88 25 = .ok (.lload_n 0, 1) := by decide +kernel
theorem dJ13_bitCount_95d88_26 : decode cJ13_bitCount_95d88 26 = .ok (.iconst 4, 1) := by decide +kernel
theorem dJ13_bitCount_95d88_27 : decode cJ13_bitCount_95d88 27 = .ok (.lushr, 1) := by decide +kernel
theorem dJ13_bitCount_95d88_28 : decode cJ13_bitCount_95d88 28 = .ok (.ladd, 1) := by decide +kernel
theorem dJ13_bitCount_95d88_29 : decode cJ13_bitCount_95d88 29 = .ok (.ldc2_w 318, 3) := by decide +kernel
theorem ct_RJ13_318 : Cond.constantLong RJ13 318 1085102592571150095 ∈ gW := gW_u tb_5 123 (by rfl) (by decide +kernel)
theorem dJ13_bitCount_95d88_32 : decode cJ13_bitCount_95d88 32 = .ok (.land, 1) := by decide +kernel
theorem dJ13_bitCount_95d88_33 : decode cJ13_bitCount_95d88 33 = .ok (.lstore_n 0, 1) := by decide +kernel
theorem dJ13_bitCount_95d88_34 : decode cJ13_bitCount_95d88 34 = .ok (.lload_n 0, 1) := by decide +kernel
theorem dJ13_bitCount_95d88_35 : decode cJ13_bitCount_95d88 35 = .ok (.lload_n 0, 1) := by decide +kernel
theorem dJ13_bitCount_95d88_36 : decode cJ13_bitCount_95d88 36 = .ok (.bipush 8, 2) := by decide +kernel
theorem dJ13_bitCount_95d88_38 : decode cJ13_bitCount_95d88 38 = .ok (.lushr, 1) := by decide +kernel
theorem dJ13_bitCount_95d88_39 : decode cJ13_bitCount_95d88 39 = .ok (.ladd, 1) := by decide +kernel
theorem dJ13_bitCount_95d88_40 : decode cJ13_bitCount_95d88 40 = .ok (.lstore_n 0, 1) := by decide +kernel
theorem dJ13_bitCount_95d88_41 : decode cJ13_bitCount_95d88 41 = .ok (.lload_n 0, 1) := by decide +kernel
theorem dJ13_bitCount_95d88_42 : decode cJ13_bitCount_95d88 42 = .ok (.lload_n 0, 1) := by decide +kernel
theorem dJ13_bitCount_95d88_43 : decode cJ13_bitCount_95d88 43 = .ok (.bipush 16, 2) := by decide +kernel
theorem dJ13_bitCount_95d88_45 : decode cJ13_bitCount_95d88 45 = .ok (.lushr, 1) := by decide +kernel
theorem dJ13_bitCount_95d88_46 : decode cJ13_bitCount_95d88 46 = .ok (.ladd, 1) := by decide +kernel
theorem dJ13_bitCount_95d88_47 : decode cJ13_bitCount_95d88 47 = .ok (.lstore_n 0, 1) := by decide +kernel
theorem dJ13_bitCount_95d88_48 : decode cJ13_bitCount_95d88 48 = .ok (.lload_n 0, 1) := by decide +kernel
theorem dJ13_bitCount_95d88_49 : decode cJ13_bitCount_95d88 49 = .ok (.lload_n 0, 1) := by decide +kernel
theorem dJ13_bitCount_95d88_50 : decode cJ13_bitCount_95d88 50 = .ok (.bipush 32, 2) := by decide +kernel
theorem dJ13_bitCount_95d88_52 : decode cJ13_bitCount_95d88 52 = .ok (.lushr, 1) := by decide +kernel
theorem dJ13_bitCount_95d88_53 : decode cJ13_bitCount_95d88 53 = .ok (.ladd, 1) := by decide +kernel
theorem dJ13_bitCount_95d88_54 : decode cJ13_bitCount_95d88 54 = .ok (.lstore_n 0, 1) := by decide +kernel
theorem dJ13_bitCount_95d88_55 : decode cJ13_bitCount_95d88 55 = .ok (.lload_n 0, 1) := by decide +kernel
theorem dJ13_bitCount_95d88_56 : decode cJ13_bitCount_95d88 56 = .ok (.l2i, 1) := by decide +kernel
theorem dJ13_bitCount_95d88_57 : decode cJ13_bitCount_95d88 57 = .ok (.bipush 127, 2) := by decide +kernel
theorem dJ13_bitCount_95d88_59 : decode cJ13_bitCount_95d88 59 = .ok (.iand, 1) := by decide +kernel
theorem dJ13_bitCount_95d88_60 : decode cJ13_bitCount_95d88 60 = .ok (.ireturn, 1) := by decide +kernel
def yJ7_fill_d0a16 : MethodName := ⟨RJ7, "fill", "([JJ)V"⟩
abbrev cJ7_fill_d0a16 : ByteArray := prog_22_method_101_code
theorem dJ7_fill_d0a16_0 : decode cJ7_fill_d0a16 0 = .ok (.iconst 0, 1) := by decide +kernel
theorem dJ7_fill_d0a16_1 : decode cJ7_fill_d0a16 1 = .ok (.istore_n 3, 1) := by decide +kernel
theorem dJ7_fill_d0a16_2 : decode cJ7_fill_d0a16 2 = .ok (.aload_n 0, 1) := by decide +kernel
theorem dJ7_fill_d0a16_3 : decode cJ7_fill_d0a16 3 = .ok (.arraylength, 1) := by decide +kernel
theorem dJ7_fill_d0a16_4 : decode cJ7_fill_d0a16 4 = .ok (.istore 4, 2) := by decide +kernel
theorem dJ7_fill_d0a16_6 : decode cJ7_fill_d0a16 6 = .ok (.iload_n 3, 1) := by decide +kernel
theorem dJ7_fill_d0a16_7 : decode cJ7_fill_d0a16 7 = .ok (.iload 4, 2) := by decide +kernel
theorem dJ7_fill_d0a16_9 : decode cJ7_fill_d0a16 9 = .ok (.if_icmp .ge 13, 3) := by decide +kernel
theorem dJ7_fill_d0a16_12 : decode cJ7_fill_d0a16 12 = .ok (.aload_n 0, 1) := by decide +kernel
theorem dJ7_fill_d0a16_13 : decode cJ7_fill_d0a16 13 = .ok (.iload_n 3, 1) := by decide +kernel
theorem dJ7_fill_d0a16_14 : decode cJ7_fill_d0a16 14 = .ok (.lload_n 1, 1) := by decide +kernel
theorem dJ7_fill_d0a16_15 : decode cJ7_fill_d0a16 15 = .ok (.lastore, 1) := by decide +kernel
theorem dJ7_fill_d0a16_16 : decode cJ7_fill_d0a16 16 = .ok (.iinc 3 1, 3) := by decide +kernel
theorem dJ7_fill_d0a16_19 : decode cJ7_fill_d0a16 19 = .ok (.goto (-13), 3) := by decide +kernel
theorem dJ7_fill_d0a16_22 : decode cJ7_fill_d0a16 22 = .ok (.return_, 1) := by decide +kernel
def yJ7_fill_53178 : MethodName := ⟨RJ7, "fill", "([II)V"⟩
abbrev cJ7_fill_53178 : ByteArray := prog_22_method_103_code
theorem dJ7_fill_53178_0 : decode cJ7_fill_53178 0 = .ok (.iconst 0, 1) := by decide +kernel
theorem dJ7_fill_53178_1 : decode cJ7_fill_53178 1 = .ok (.istore_n 2, 1) := by decide +kernel
theorem dJ7_fill_53178_2 : decode cJ7_fill_53178 2 = .ok (.aload_n 0, 1) := by decide +kernel
theorem dJ7_fill_53178_3 : decode cJ7_fill_53178 3 = .ok (.arraylength, 1) := by decide +kernel
theorem dJ7_fill_53178_4 : decode cJ7_fill_53178 4 = .ok (.istore_n 3, 1) := by decide +kernel
theorem dJ7_fill_53178_5 : decode cJ7_fill_53178 5 = .ok (.iload_n 2, 1) := by decide +kernel
theorem dJ7_fill_53178_6 : decode cJ7_fill_53178 6 = .ok (.iload_n 3, 1) := by decide +kernel
theorem dJ7_fill_53178_7 : decode cJ7_fill_53178 7 = .ok (.if_icmp .ge 13, 3) := by decide +kernel
theorem dJ7_fill_53178_10 : decode cJ7_fill_53178 10 = .ok (.aload_n 0, 1) := by decide +kernel
theorem dJ7_fill_53178_11 : decode cJ7_fill_53178 11 = .ok (.iload_n 2, 1) := by decide +kernel
theorem dJ7_fill_53178_12 : decode cJ7_fill_53178 12 = .ok (.iload_n 1, 1) := by decide +kernel
theorem dJ7_fill_53178_13 : decode cJ7_fill_53178 13 = .ok (.iastore, 1) := by decide +kernel
theorem dJ7_fill_53178_14 : decode cJ7_fill_53178 14 = .ok (.iinc 2 1, 3) := by decide +kernel
theorem dJ7_fill_53178_17 : decode cJ7_fill_53178 17 = .ok (.goto (-12), 3) := by decide +kernel
theorem dJ7_fill_53178_20 : decode cJ7_fill_53178 20 = .ok (.return_, 1) := by decide +kernel
def yX0_saysOf : MethodName := ⟨RX0, "saysOf", "(II)I"⟩
abbrev cX0_saysOf : ByteArray := prog_2_method_4_code
theorem dX0_saysOf_0 : decode cX0_saysOf 0 = .ok (.aload_n 0, 1) := by decide +kernel
theorem dX0_saysOf_1 : decode cX0_saysOf 1 = .ok (.iload_n 1, 1) := by decide +kernel
theorem dX0_saysOf_2 : decode cX0_saysOf 2 = .ok (.iconst (-1), 1) := by decide +kernel
theorem dX0_saysOf_3 : decode cX0_saysOf 3 = .ok (.iload_n 2, 1) := by decide +kernel
theorem dX0_saysOf_4 : decode cX0_saysOf 4 = .ok (.invokevirtual 30, 3) := by decide +kernel
theorem lk_RX0_30 : Cond.methodLink RX0 30 yX0_askOf ∈ gW := gW_u tb_3 55 (by rfl) (by decide +kernel)
theorem mI_X0_askOf : Cond.instanceMethod yX0_askOf ∈ gW := gW_u tb_3 57 (by rfl) (by decide +kernel)
theorem mS_X0_askOf : Cond.selects RX0 yX0_askOf yX0_askOf ∈ gW := gW_p (q := (yX0_askOf, 9)) 1 (by decide +kernel)
theorem mN_RX0 : Cond.initialized RX0 ∈ gW := gW_u tb_1 2 (by rfl) (by decide +kernel)
theorem mC_X0_askOf : Cond.code yX0_askOf cX0_askOf 4 none ∈ gW := gW_u tb_3 58 (by rfl) (by decide +kernel)
theorem ok_X0_askOf : okD yX0_askOf 3 := ⟨by decide +kernel, by decide +kernel, by decide +kernel⟩
theorem dX0_saysOf_7 : decode cX0_saysOf 7 = .ok (.aload_n 0, 1) := by decide +kernel
theorem dX0_saysOf_8 : decode cX0_saysOf 8 = .ok (.iconst 0, 1) := by decide +kernel
theorem dX0_saysOf_9 : decode cX0_saysOf 9 = .ok (.bipush 20, 2) := by decide +kernel
theorem dX0_saysOf_11 : decode cX0_saysOf 11 = .ok (.invokevirtual 36, 3) := by decide +kernel
theorem lk_RX0_36 : Cond.methodLink RX0 36 yX0_tells ∈ gW := gW_u tb_3 59 (by rfl) (by decide +kernel)
theorem mI_X0_tells : Cond.instanceMethod yX0_tells ∈ gW := gW_u tb_3 61 (by rfl) (by decide +kernel)
theorem mS_X0_tells : Cond.selects RX0 yX0_tells yX0_tells ∈ gW := gW_p (q := (yX0_tells, 9)) 2 (by decide +kernel)
theorem mC_X0_tells : Cond.code yX0_tells cX0_tells 6 (some .int) ∈ gW := gW_u tb_3 62 (by rfl) (by decide +kernel)
theorem ok_X0_tells : okD yX0_tells 2 := ⟨by decide +kernel, by decide +kernel, by decide +kernel⟩
theorem dX0_saysOf_14 : decode cX0_saysOf 14 = .ok (.iconst 0, 1) := by decide +kernel
theorem dX0_saysOf_15 : decode cX0_saysOf 15 = .ok (.bipush 99, 2) := by decide +kernel
theorem dX0_saysOf_17 : decode cX0_saysOf 17 = .ok (.invokestatic 40, 3) := by decide +kernel
theorem nl_RX0_40 : Cond.methodLinkNest RX0 40 yX11_nearest RX11 ∈ nW := by decide +kernel
theorem mT_X11_nearest : Cond.static yX11_nearest ∈ gW := gW_u tb_3 82 (by rfl) (by decide +kernel)
theorem mC_X11_nearest : Cond.code yX11_nearest cX11_nearest 3 (some .int) ∈ gW := gW_u tb_3 83 (by rfl) (by decide +kernel)
theorem ok_X11_nearest : okD yX11_nearest 3 := ⟨by decide +kernel, by decide +kernel, by decide +kernel⟩
theorem dX0_saysOf_20 : decode cX0_saysOf 20 = .ok (.ireturn, 1) := by decide +kernel
def yX0_losesOf : MethodName := ⟨RX0, "losesOf", "(II)I"⟩
abbrev cX0_losesOf : ByteArray := prog_2_method_5_code
theorem dX0_losesOf_0 : decode cX0_losesOf 0 = .ok (.aload_n 0, 1) := by decide +kernel
theorem dX0_losesOf_1 : decode cX0_losesOf 1 = .ok (.iload_n 1, 1) := by decide +kernel
theorem dX0_losesOf_2 : decode cX0_losesOf 2 = .ok (.iconst (-1), 1) := by decide +kernel
theorem dX0_losesOf_3 : decode cX0_losesOf 3 = .ok (.iload_n 2, 1) := by decide +kernel
theorem dX0_losesOf_4 : decode cX0_losesOf 4 = .ok (.invokevirtual 30, 3) := by decide +kernel
theorem dX0_losesOf_7 : decode cX0_losesOf 7 = .ok (.aload_n 0, 1) := by decide +kernel
theorem dX0_losesOf_8 : decode cX0_losesOf 8 = .ok (.iconst 1, 1) := by decide +kernel
theorem dX0_losesOf_9 : decode cX0_losesOf 9 = .ok (.iconst 2, 1) := by decide +kernel
theorem dX0_losesOf_10 : decode cX0_losesOf 10 = .ok (.invokevirtual 36, 3) := by decide +kernel
theorem dX0_losesOf_13 : decode cX0_losesOf 13 = .ok (.iconst 0, 1) := by decide +kernel
theorem dX0_losesOf_14 : decode cX0_losesOf 14 = .ok (.bipush 9, 2) := by decide +kernel
theorem dX0_losesOf_16 : decode cX0_losesOf 16 = .ok (.invokestatic 40, 3) := by decide +kernel
theorem dX0_losesOf_19 : decode cX0_losesOf 19 = .ok (.ireturn, 1) := by decide +kernel
def yX0_digsOf : MethodName := ⟨RX0, "digsOf", "(II)I"⟩
abbrev cX0_digsOf : ByteArray := prog_2_method_6_code
theorem dX0_digsOf_0 : decode cX0_digsOf 0 = .ok (.aload_n 0, 1) := by decide +kernel
theorem dX0_digsOf_1 : decode cX0_digsOf 1 = .ok (.iload_n 2, 1) := by decide +kernel
theorem dX0_digsOf_2 : decode cX0_digsOf 2 = .ok (.iload_n 1, 1) := by decide +kernel
theorem dX0_digsOf_3 : decode cX0_digsOf 3 = .ok (.aload_n 0, 1) := by decide +kernel
theorem dX0_digsOf_4 : decode cX0_digsOf 4 = .ok (.getfield 15, 3) := by decide +kernel
theorem dX0_digsOf_7 : decode cX0_digsOf 7 = .ok (.getfield 44, 3) := by decide +kernel
theorem dX0_digsOf_10 : decode cX0_digsOf 10 = .ok (.getfield 50, 3) := by decide +kernel
theorem fl_RX0_50 : Cond.fieldLink RX0 50 RX6 "kind" "[I" ∈ gW := gW_u tb_1 92 (by rfl) (by decide +kernel)
theorem dX0_digsOf_13 : decode cX0_digsOf 13 = .ok (.iload_n 2, 1) := by decide +kernel
theorem dX0_digsOf_14 : decode cX0_digsOf 14 = .ok (.iaload, 1) := by decide +kernel
theorem dX0_digsOf_15 : decode cX0_digsOf 15 = .ok (.invokevirtual 30, 3) := by decide +kernel
theorem dX0_digsOf_18 : decode cX0_digsOf 18 = .ok (.aload_n 0, 1) := by decide +kernel
theorem dX0_digsOf_19 : decode cX0_digsOf 19 = .ok (.iconst 2, 1) := by decide +kernel
theorem dX0_digsOf_20 : decode cX0_digsOf 20 = .ok (.aload_n 0, 1) := by decide +kernel
theorem dX0_digsOf_21 : decode cX0_digsOf 21 = .ok (.getfield 15, 3) := by decide +kernel
theorem dX0_digsOf_24 : decode cX0_digsOf 24 = .ok (.getfield 44, 3) := by decide +kernel
theorem dX0_digsOf_27 : decode cX0_digsOf 27 = .ok (.getfield 56, 3) := by decide +kernel
theorem dX0_digsOf_30 : decode cX0_digsOf 30 = .ok (.iload_n 2, 1) := by decide +kernel
theorem dX0_digsOf_31 : decode cX0_digsOf 31 = .ok (.iaload, 1) := by decide +kernel
theorem dX0_digsOf_32 : decode cX0_digsOf 32 = .ok (.invokevirtual 36, 3) := by decide +kernel
theorem dX0_digsOf_35 : decode cX0_digsOf 35 = .ok (.iconst 1, 1) := by decide +kernel
theorem dX0_digsOf_36 : decode cX0_digsOf 36 = .ok (.bipush 99, 2) := by decide +kernel
theorem dX0_digsOf_38 : decode cX0_digsOf 38 = .ok (.invokestatic 40, 3) := by decide +kernel
theorem dX0_digsOf_41 : decode cX0_digsOf 41 = .ok (.ireturn, 1) := by decide +kernel
def yX0_givesOf : MethodName := ⟨RX0, "givesOf", "(II)I"⟩
abbrev cX0_givesOf : ByteArray := prog_2_method_7_code
theorem dX0_givesOf_0 : decode cX0_givesOf 0 = .ok (.aload_n 0, 1) := by decide +kernel
theorem dX0_givesOf_1 : decode cX0_givesOf 1 = .ok (.iload_n 2, 1) := by decide +kernel
theorem dX0_givesOf_2 : decode cX0_givesOf 2 = .ok (.iload_n 1, 1) := by decide +kernel
theorem dX0_givesOf_3 : decode cX0_givesOf 3 = .ok (.aload_n 0, 1) := by decide +kernel
theorem dX0_givesOf_4 : decode cX0_givesOf 4 = .ok (.getfield 15, 3) := by decide +kernel
theorem dX0_givesOf_7 : decode cX0_givesOf 7 = .ok (.getfield 44, 3) := by decide +kernel
theorem dX0_givesOf_10 : decode cX0_givesOf 10 = .ok (.getfield 50, 3) := by decide +kernel
theorem dX0_givesOf_13 : decode cX0_givesOf 13 = .ok (.iload_n 2, 1) := by decide +kernel
theorem dX0_givesOf_14 : decode cX0_givesOf 14 = .ok (.iaload, 1) := by decide +kernel
theorem dX0_givesOf_15 : decode cX0_givesOf 15 = .ok (.invokevirtual 30, 3) := by decide +kernel
theorem dX0_givesOf_18 : decode cX0_givesOf 18 = .ok (.aload_n 0, 1) := by decide +kernel
theorem dX0_givesOf_19 : decode cX0_givesOf 19 = .ok (.iconst 3, 1) := by decide +kernel
theorem dX0_givesOf_20 : decode cX0_givesOf 20 = .ok (.iconst 5, 1) := by decide +kernel
theorem dX0_givesOf_21 : decode cX0_givesOf 21 = .ok (.invokevirtual 36, 3) := by decide +kernel
theorem dX0_givesOf_24 : decode cX0_givesOf 24 = .ok (.iconst 0, 1) := by decide +kernel
theorem dX0_givesOf_25 : decode cX0_givesOf 25 = .ok (.bipush 99, 2) := by decide +kernel
theorem dX0_givesOf_27 : decode cX0_givesOf 27 = .ok (.invokestatic 40, 3) := by decide +kernel
theorem dX0_givesOf_30 : decode cX0_givesOf 30 = .ok (.aload_n 0, 1) := by decide +kernel
theorem dX0_givesOf_31 : decode cX0_givesOf 31 = .ok (.getfield 15, 3) := by decide +kernel
theorem dX0_givesOf_34 : decode cX0_givesOf 34 = .ok (.getfield 44, 3) := by decide +kernel
theorem dX0_givesOf_37 : decode cX0_givesOf 37 = .ok (.getfield 59, 3) := by decide +kernel
theorem dX0_givesOf_40 : decode cX0_givesOf 40 = .ok (.iload_n 2, 1) := by decide +kernel
theorem dX0_givesOf_41 : decode cX0_givesOf 41 = .ok (.iaload, 1) := by decide +kernel
theorem dX0_givesOf_42 : decode cX0_givesOf 42 = .ok (.invokestatic 62, 3) := by decide +kernel
theorem lk_RX0_62 : Cond.methodLink RX0 62 Lib.Math.min.name ∈ gW := gW_u tb_4 190 (by rfl) (by decide +kernel)
theorem dX0_givesOf_45 : decode cX0_givesOf 45 = .ok (.ireturn, 1) := by decide +kernel
def yX0_passesOf : MethodName := ⟨RX0, "passesOf", "(II)Z"⟩
abbrev cX0_passesOf : ByteArray := prog_2_method_8_code
theorem dX0_passesOf_0 : decode cX0_passesOf 0 = .ok (.aload_n 0, 1) := by decide +kernel
theorem dX0_passesOf_1 : decode cX0_passesOf 1 = .ok (.getfield 15, 3) := by decide +kernel
theorem dX0_passesOf_4 : decode cX0_passesOf 4 = .ok (.getfield 44, 3) := by decide +kernel
theorem dX0_passesOf_7 : decode cX0_passesOf 7 = .ok (.getfield 50, 3) := by decide +kernel
theorem dX0_passesOf_10 : decode cX0_passesOf 10 = .ok (.iload_n 2, 1) := by decide +kernel
theorem dX0_passesOf_11 : decode cX0_passesOf 11 = .ok (.iaload, 1) := by decide +kernel
theorem dX0_passesOf_12 : decode cX0_passesOf 12 = .ok (.iconst 1, 1) := by decide +kernel
theorem dX0_passesOf_13 : decode cX0_passesOf 13 = .ok (.if_icmp .eq 5, 3) := by decide +kernel
theorem dX0_passesOf_18 : decode cX0_passesOf 18 = .ok (.aload_n 0, 1) := by decide +kernel
theorem dX0_passesOf_19 : decode cX0_passesOf 19 = .ok (.iload_n 2, 1) := by decide +kernel
theorem dX0_passesOf_20 : decode cX0_passesOf 20 = .ok (.iload_n 1, 1) := by decide +kernel
theorem dX0_passesOf_21 : decode cX0_passesOf 21 = .ok (.iconst 1, 1) := by decide +kernel
theorem dX0_passesOf_22 : decode cX0_passesOf 22 = .ok (.invokevirtual 30, 3) := by decide +kernel
theorem dX0_passesOf_25 : decode cX0_passesOf 25 = .ok (.aload_n 0, 1) := by decide +kernel
theorem dX0_passesOf_26 : decode cX0_passesOf 26 = .ok (.iconst 4, 1) := by decide +kernel
theorem dX0_passesOf_27 : decode cX0_passesOf 27 = .ok (.iconst 0, 1) := by decide +kernel
theorem dX0_passesOf_28 : decode cX0_passesOf 28 = .ok (.invokevirtual 36, 3) := by decide +kernel
theorem dX0_passesOf_31 : decode cX0_passesOf 31 = .ok (.iconst 1, 1) := by decide +kernel
theorem dX0_passesOf_32 : decode cX0_passesOf 32 = .ok (.if_icmp .ne 7, 3) := by decide +kernel
theorem dX0_passesOf_39 : decode cX0_passesOf 39 = .ok (.iconst 0, 1) := by decide +kernel
theorem dX0_passesOf_40 : decode cX0_passesOf 40 = .ok (.ireturn, 1) := by decide +kernel
theorem dX0_passesOf_35 : decode cX0_passesOf 35 = .ok (.iconst 1, 1) := by decide +kernel
theorem dX0_passesOf_36 : decode cX0_passesOf 36 = .ok (.goto 4, 3) := by decide +kernel
theorem dX0_passesOf_16 : decode cX0_passesOf 16 = .ok (.iconst 1, 1) := by decide +kernel
theorem dX0_passesOf_17 : decode cX0_passesOf 17 = .ok (.ireturn, 1) := by decide +kernel
def yX0_reckon : MethodName := ⟨RX0, "reckon", "(LListenWells$Text;I)Z"⟩
abbrev cX0_reckon : ByteArray := prog_2_method_12_code
theorem dX0_reckon_0 : decode cX0_reckon 0 = .ok (.aload_n 1, 1) := by decide +kernel
theorem dX0_reckon_1 : decode cX0_reckon 1 = .ok (.getfield 90, 3) := by decide +kernel
theorem fl_RX0_90 : Cond.fieldLink RX0 90 RX8 "code" "[I" ∈ gW := gW_u tb_2 88 (by rfl) (by decide +kernel)
theorem dX0_reckon_4 : decode cX0_reckon 4 = .ok (.astore_n 3, 1) := by decide +kernel
theorem dX0_reckon_5 : decode cX0_reckon 5 = .ok (.iconst (-1), 1) := by decide +kernel
theorem dX0_reckon_6 : decode cX0_reckon 6 = .ok (.istore 4, 2) := by decide +kernel
theorem dX0_reckon_8 : decode cX0_reckon 8 = .ok (.iload_n 2, 1) := by decide +kernel
theorem dX0_reckon_9 : decode cX0_reckon 9 = .ok (.istore 5, 2) := by decide +kernel
theorem dX0_reckon_11 : decode cX0_reckon 11 = .ok (.iconst 0, 1) := by decide +kernel
theorem dX0_reckon_12 : decode cX0_reckon 12 = .ok (.istore 6, 2) := by decide +kernel
theorem dX0_reckon_14 : decode cX0_reckon 14 = .ok (.iload 6, 2) := by decide +kernel
theorem dX0_reckon_16 : decode cX0_reckon 16 = .ok (.sipush 400, 3) := by decide +kernel
theorem dX0_reckon_19 : decode cX0_reckon 19 = .ok (.if_icmp .ge 282, 3) := by decide +kernel
theorem dX0_reckon_22 : decode cX0_reckon 22 = .ok (.iload 5, 2) := by decide +kernel
theorem dX0_reckon_24 : decode cX0_reckon 24 = .ok (.ifCond .lt 277, 3) := by decide +kernel
theorem dX0_reckon_27 : decode cX0_reckon 27 = .ok (.iload 5, 2) := by decide +kernel
theorem dX0_reckon_29 : decode cX0_reckon 29 = .ok (.aload_n 1, 1) := by decide +kernel
theorem dX0_reckon_30 : decode cX0_reckon 30 = .ok (.getfield 93, 3) := by decide +kernel
theorem fl_RX0_93 : Cond.fieldLink RX0 93 RX8 "length" "I" ∈ gW := gW_u tb_2 96 (by rfl) (by decide +kernel)
theorem dX0_reckon_33 : decode cX0_reckon 33 = .ok (.if_icmp .ge 268, 3) := by decide +kernel
theorem dX0_reckon_36 : decode cX0_reckon 36 = .ok (.aload_n 3, 1) := by decide +kernel
theorem dX0_reckon_37 : decode cX0_reckon 37 = .ok (.iload 5, 2) := by decide +kernel
theorem dX0_reckon_39 : decode cX0_reckon 39 = .ok (.iaload, 1) := by decide +kernel
theorem dX0_reckon_40 : decode cX0_reckon 40 = .ok (.bipush 63, 2) := by decide +kernel
theorem dX0_reckon_42 : decode cX0_reckon 42 = .ok (.iand, 1) := by decide +kernel
theorem dX0_reckon_43 : decode cX0_reckon 43 = .ok (.istore 7, 2) := by decide +kernel
theorem dX0_reckon_45 : decode cX0_reckon 45 = .ok (.aload_n 3, 1) := by decide +kernel
theorem dX0_reckon_46 : decode cX0_reckon 46 = .ok (.iload 5, 2) := by decide +kernel
theorem dX0_reckon_48 : decode cX0_reckon 48 = .ok (.iaload, 1) := by decide +kernel
theorem dX0_reckon_49 : decode cX0_reckon 49 = .ok (.bipush 6, 2) := by decide +kernel
theorem dX0_reckon_51 : decode cX0_reckon 51 = .ok (.ishr, 1) := by decide +kernel
theorem dX0_reckon_52 : decode cX0_reckon 52 = .ok (.istore 8, 2) := by decide +kernel
theorem dX0_reckon_54 : decode cX0_reckon 54 = .ok (.iinc 5 1, 3) := by decide +kernel
theorem dX0_reckon_57 : decode cX0_reckon 57 = .ok (.iload 7, 2) := by decide +kernel
theorem dX0_reckon_59 : decode cX0_reckon 59 = .ok (.ifCond .ne 34, 3) := by decide +kernel
theorem dX0_reckon_93 : decode cX0_reckon 93 = .ok (.iload 7, 2) := by decide +kernel
theorem dX0_reckon_95 : decode cX0_reckon 95 = .ok (.iconst 1, 1) := by decide +kernel
theorem dX0_reckon_96 : decode cX0_reckon 96 = .ok (.if_icmp .eq 10, 3) := by decide +kernel
theorem dX0_reckon_99 : decode cX0_reckon 99 = .ok (.iload 7, 2) := by decide +kernel
theorem dX0_reckon_101 : decode cX0_reckon 101 = .ok (.bipush 13, 2) := by decide +kernel
theorem dX0_reckon_103 : decode cX0_reckon 103 = .ok (.if_icmp .lt 46, 3) := by decide +kernel
theorem dX0_reckon_149 : decode cX0_reckon 149 = .ok (.iload 7, 2) := by decide +kernel
theorem dX0_reckon_151 : decode cX0_reckon 151 = .ok (.bipush 10, 2) := by decide +kernel
theorem dX0_reckon_153 : decode cX0_reckon 153 = .ok (.if_icmp .lt 73, 3) := by decide +kernel
theorem dX0_reckon_226 : decode cX0_reckon 226 = .ok (.iload 4, 2) := by decide +kernel
theorem dX0_reckon_228 : decode cX0_reckon 228 = .ok (.iconst 1, 1) := by decide +kernel
theorem dX0_reckon_229 : decode cX0_reckon 229 = .ok (.if_icmp .ge 5, 3) := by decide +kernel
theorem dX0_reckon_234 : decode cX0_reckon 234 = .ok (.iinc 4 (-1), 3) := by decide +kernel
theorem dX0_reckon_237 : decode cX0_reckon 237 = .ok (.aload_n 0, 1) := by decide +kernel
theorem dX0_reckon_238 : decode cX0_reckon 238 = .ok (.getfield 11, 3) := by decide +kernel
theorem fl_RX0_11 : Cond.fieldLink RX0 11 RX0 "stack" "[J" ∈ gW := gW_u tb_1 37 (by rfl) (by decide +kernel)
theorem dX0_reckon_241 : decode cX0_reckon 241 = .ok (.iload 4, 2) := by decide +kernel
theorem dX0_reckon_243 : decode cX0_reckon 243 = .ok (.iload 7, 2) := by decide +kernel
theorem dX0_reckon_245 : decode cX0_reckon 245 = .ok (.aload_n 0, 1) := by decide +kernel
theorem dX0_reckon_246 : decode cX0_reckon 246 = .ok (.getfield 11, 3) := by decide +kernel
theorem dX0_reckon_249 : decode cX0_reckon 249 = .ok (.iload 4, 2) := by decide +kernel
theorem dX0_reckon_251 : decode cX0_reckon 251 = .ok (.laload, 1) := by decide +kernel
theorem dX0_reckon_252 : decode cX0_reckon 252 = .ok (.aload_n 0, 1) := by decide +kernel
theorem dX0_reckon_253 : decode cX0_reckon 253 = .ok (.getfield 11, 3) := by decide +kernel
theorem dX0_reckon_256 : decode cX0_reckon 256 = .ok (.iload 4, 2) := by decide +kernel
theorem dX0_reckon_258 : decode cX0_reckon 258 = .ok (.iconst 1, 1) := by decide +kernel
theorem dX0_reckon_259 : decode cX0_reckon 259 = .ok (.iadd, 1) := by decide +kernel
theorem dX0_reckon_260 : decode cX0_reckon 260 = .ok (.laload, 1) := by decide +kernel
theorem dX0_reckon_261 : decode cX0_reckon 261 = .ok (.invokestatic 99, 3) := by decide +kernel
theorem lk_RX0_99 : Cond.methodLink RX0 99 yX0_joined ∈ gW := gW_u tb_3 75 (by rfl) (by decide +kernel)
theorem mT_X0_joined : Cond.static yX0_joined ∈ gW := gW_u tb_3 76 (by rfl) (by decide +kernel)
theorem mC_X0_joined : Cond.code yX0_joined cX0_joined 5 (some .long) ∈ gW := gW_u tb_3 77 (by rfl) (by decide +kernel)
theorem ok_X0_joined : okD yX0_joined 3 := ⟨by decide +kernel, by decide +kernel, by decide +kernel⟩
theorem dX0_reckon_264 : decode cX0_reckon 264 = .ok (.lastore, 1) := by decide +kernel
theorem dX0_reckon_265 : decode cX0_reckon 265 = .ok (.aload_n 0, 1) := by decide +kernel
theorem dX0_reckon_266 : decode cX0_reckon 266 = .ok (.getfield 11, 3) := by decide +kernel
theorem dX0_reckon_269 : decode cX0_reckon 269 = .ok (.iload 4, 2) := by decide +kernel
theorem dX0_reckon_271 : decode cX0_reckon 271 = .ok (.laload, 1) := by decide +kernel
theorem dX0_reckon_272 : decode cX0_reckon 272 = .ok (.ldc2_w 103, 3) := by decide +kernel
theorem ct_RX0_103 : Cond.constantLong RX0 103 1000000000 ∈ gW := gW_u tb_3 79 (by rfl) (by decide +kernel)
theorem dX0_reckon_275 : decode cX0_reckon 275 = .ok (.lcmp, 1) := by decide +kernel
theorem dX0_reckon_276 : decode cX0_reckon 276 = .ok (.ifCond .gt 17, 3) := by decide +kernel
theorem dX0_reckon_293 : decode cX0_reckon 293 = .ok (.iconst 0, 1) := by decide +kernel
theorem dX0_reckon_294 : decode cX0_reckon 294 = .ok (.ireturn, 1) := by decide +kernel
theorem dX0_reckon_279 : decode cX0_reckon 279 = .ok (.aload_n 0, 1) := by decide +kernel
theorem dX0_reckon_280 : decode cX0_reckon 280 = .ok (.getfield 11, 3) := by decide +kernel
theorem dX0_reckon_283 : decode cX0_reckon 283 = .ok (.iload 4, 2) := by decide +kernel
theorem dX0_reckon_285 : decode cX0_reckon 285 = .ok (.laload, 1) := by decide +kernel
theorem dX0_reckon_286 : decode cX0_reckon 286 = .ok (.ldc2_w 105, 3) := by decide +kernel
theorem ct_RX0_105 : Cond.constantLong RX0 105 (-1000000000) ∈ gW := gW_u tb_3 80 (by rfl) (by decide +kernel)
theorem dX0_reckon_289 : decode cX0_reckon 289 = .ok (.lcmp, 1) := by decide +kernel
theorem dX0_reckon_290 : decode cX0_reckon 290 = .ok (.ifCond .ge 5, 3) := by decide +kernel
theorem dX0_reckon_295 : decode cX0_reckon 295 = .ok (.iinc 6 1, 3) := by decide +kernel
theorem dX0_reckon_298 : decode cX0_reckon 298 = .ok (.goto (-284), 3) := by decide +kernel
theorem dX0_reckon_232 : decode cX0_reckon 232 = .ok (.iconst 0, 1) := by decide +kernel
theorem dX0_reckon_233 : decode cX0_reckon 233 = .ok (.ireturn, 1) := by decide +kernel
theorem dX0_reckon_156 : decode cX0_reckon 156 = .ok (.iload 4, 2) := by decide +kernel
theorem dX0_reckon_158 : decode cX0_reckon 158 = .ok (.ifCond .ge 5, 3) := by decide +kernel
theorem dX0_reckon_163 : decode cX0_reckon 163 = .ok (.iload 7, 2) := by decide +kernel
theorem dX0_reckon_165 : decode cX0_reckon 165 = .ok (.bipush 10, 2) := by decide +kernel
theorem dX0_reckon_167 : decode cX0_reckon 167 = .ok (.if_icmp .ne 22, 3) := by decide +kernel
theorem dX0_reckon_189 : decode cX0_reckon 189 = .ok (.aload_n 0, 1) := by decide +kernel
theorem dX0_reckon_190 : decode cX0_reckon 190 = .ok (.getfield 11, 3) := by decide +kernel
theorem dX0_reckon_193 : decode cX0_reckon 193 = .ok (.iload 4, 2) := by decide +kernel
theorem dX0_reckon_195 : decode cX0_reckon 195 = .ok (.laload, 1) := by decide +kernel
theorem dX0_reckon_196 : decode cX0_reckon 196 = .ok (.iload 7, 2) := by decide +kernel
theorem dX0_reckon_198 : decode cX0_reckon 198 = .ok (.bipush 12, 2) := by decide +kernel
theorem dX0_reckon_200 : decode cX0_reckon 200 = .ok (.if_icmp .ne 7, 3) := by decide +kernel
theorem dX0_reckon_207 : decode cX0_reckon 207 = .ok (.iconst 0, 1) := by decide +kernel
theorem dX0_reckon_203 : decode cX0_reckon 203 = .ok (.iconst 1, 1) := by decide +kernel
theorem dX0_reckon_204 : decode cX0_reckon 204 = .ok (.goto 4, 3) := by decide +kernel
theorem dX0_reckon_208 : decode cX0_reckon 208 = .ok (.i2l, 1) := by decide +kernel
theorem dX0_reckon_209 : decode cX0_reckon 209 = .ok (.lcmp, 1) := by decide +kernel
theorem dX0_reckon_210 : decode cX0_reckon 210 = .ok (.ifCond .ne 10, 3) := by decide +kernel
theorem dX0_reckon_220 : decode cX0_reckon 220 = .ok (.iinc 4 (-1), 3) := by decide +kernel
theorem dX0_reckon_223 : decode cX0_reckon 223 = .ok (.goto 72, 3) := by decide +kernel
theorem dX0_reckon_213 : decode cX0_reckon 213 = .ok (.iload 8, 2) := by decide +kernel
theorem dX0_reckon_215 : decode cX0_reckon 215 = .ok (.istore 5, 2) := by decide +kernel
theorem dX0_reckon_217 : decode cX0_reckon 217 = .ok (.goto 78, 3) := by decide +kernel
theorem dX0_reckon_170 : decode cX0_reckon 170 = .ok (.aload_n 0, 1) := by decide +kernel
theorem dX0_reckon_171 : decode cX0_reckon 171 = .ok (.getfield 11, 3) := by decide +kernel
theorem dX0_reckon_174 : decode cX0_reckon 174 = .ok (.iload 4, 2) := by decide +kernel
theorem dX0_reckon_176 : decode cX0_reckon 176 = .ok (.lconst 1, 1) := by decide +kernel
theorem dX0_reckon_177 : decode cX0_reckon 177 = .ok (.aload_n 0, 1) := by decide +kernel
theorem dX0_reckon_178 : decode cX0_reckon 178 = .ok (.getfield 11, 3) := by decide +kernel
theorem dX0_reckon_181 : decode cX0_reckon 181 = .ok (.iload 4, 2) := by decide +kernel
theorem dX0_reckon_183 : decode cX0_reckon 183 = .ok (.laload, 1) := by decide +kernel
theorem dX0_reckon_184 : decode cX0_reckon 184 = .ok (.lsub, 1) := by decide +kernel
theorem dX0_reckon_185 : decode cX0_reckon 185 = .ok (.lastore, 1) := by decide +kernel
theorem dX0_reckon_186 : decode cX0_reckon 186 = .ok (.goto 109, 3) := by decide +kernel
theorem dX0_reckon_161 : decode cX0_reckon 161 = .ok (.iconst 0, 1) := by decide +kernel
theorem dX0_reckon_162 : decode cX0_reckon 162 = .ok (.ireturn, 1) := by decide +kernel
theorem dX0_reckon_106 : decode cX0_reckon 106 = .ok (.iinc 4 1, 3) := by decide +kernel
theorem dX0_reckon_109 : decode cX0_reckon 109 = .ok (.iload 4, 2) := by decide +kernel
theorem dX0_reckon_111 : decode cX0_reckon 111 = .ok (.bipush 64, 2) := by decide +kernel
theorem dX0_reckon_113 : decode cX0_reckon 113 = .ok (.if_icmp .lt 5, 3) := by decide +kernel
theorem dX0_reckon_118 : decode cX0_reckon 118 = .ok (.aload_n 0, 1) := by decide +kernel
theorem dX0_reckon_119 : decode cX0_reckon 119 = .ok (.getfield 11, 3) := by decide +kernel
theorem dX0_reckon_122 : decode cX0_reckon 122 = .ok (.iload 4, 2) := by decide +kernel
theorem dX0_reckon_124 : decode cX0_reckon 124 = .ok (.iload 7, 2) := by decide +kernel
theorem dX0_reckon_126 : decode cX0_reckon 126 = .ok (.iconst 1, 1) := by decide +kernel
theorem dX0_reckon_127 : decode cX0_reckon 127 = .ok (.if_icmp .ne 9, 3) := by decide +kernel
theorem dX0_reckon_136 : decode cX0_reckon 136 = .ok (.aload_n 0, 1) := by decide +kernel
theorem dX0_reckon_137 : decode cX0_reckon 137 = .ok (.iload 7, 2) := by decide +kernel
theorem dX0_reckon_139 : decode cX0_reckon 139 = .ok (.iload 8, 2) := by decide +kernel
theorem dX0_reckon_141 : decode cX0_reckon 141 = .ok (.invokevirtual 96, 3) := by decide +kernel
theorem lk_RX0_96 : Cond.methodLink RX0 96 yX0_wordValue ∈ gW := gW_u tb_3 71 (by rfl) (by decide +kernel)
theorem mI_X0_wordValue : Cond.instanceMethod yX0_wordValue ∈ gW := gW_u tb_3 73 (by rfl) (by decide +kernel)
theorem mS_X0_wordValue : Cond.selects RX0 yX0_wordValue yX0_wordValue ∈ gW := gW_p (q := (yX0_wordValue, 9)) 3 (by decide +kernel)
theorem mC_X0_wordValue : Cond.code yX0_wordValue cX0_wordValue 3 (some .int) ∈ gW := gW_u tb_3 74 (by rfl) (by decide +kernel)
theorem ok_X0_wordValue : okD yX0_wordValue 2 := ⟨by decide +kernel, by decide +kernel, by decide +kernel⟩
theorem dX0_reckon_144 : decode cX0_reckon 144 = .ok (.i2l, 1) := by decide +kernel
theorem dX0_reckon_145 : decode cX0_reckon 145 = .ok (.lastore, 1) := by decide +kernel
theorem dX0_reckon_146 : decode cX0_reckon 146 = .ok (.goto 149, 3) := by decide +kernel
theorem dX0_reckon_130 : decode cX0_reckon 130 = .ok (.iload 8, 2) := by decide +kernel
theorem dX0_reckon_132 : decode cX0_reckon 132 = .ok (.i2l, 1) := by decide +kernel
theorem dX0_reckon_133 : decode cX0_reckon 133 = .ok (.goto 12, 3) := by decide +kernel
theorem dX0_reckon_116 : decode cX0_reckon 116 = .ok (.iconst 0, 1) := by decide +kernel
theorem dX0_reckon_117 : decode cX0_reckon 117 = .ok (.ireturn, 1) := by decide +kernel
theorem dX0_reckon_62 : decode cX0_reckon 62 = .ok (.aload_n 0, 1) := by decide +kernel
theorem dX0_reckon_63 : decode cX0_reckon 63 = .ok (.iload 4, 2) := by decide +kernel
theorem dX0_reckon_65 : decode cX0_reckon 65 = .ok (.ifCond .ne 13, 3) := by decide +kernel
theorem dX0_reckon_78 : decode cX0_reckon 78 = .ok (.iconst 0, 1) := by decide +kernel
theorem dX0_reckon_79 : decode cX0_reckon 79 = .ok (.putfield 87, 3) := by decide +kernel
theorem dX0_reckon_82 : decode cX0_reckon 82 = .ok (.iload 4, 2) := by decide +kernel
theorem dX0_reckon_84 : decode cX0_reckon 84 = .ok (.ifCond .ne 7, 3) := by decide +kernel
theorem dX0_reckon_91 : decode cX0_reckon 91 = .ok (.iconst 0, 1) := by decide +kernel
theorem dX0_reckon_92 : decode cX0_reckon 92 = .ok (.ireturn, 1) := by decide +kernel
theorem dX0_reckon_68 : decode cX0_reckon 68 = .ok (.aload_n 0, 1) := by decide +kernel
theorem dX0_reckon_69 : decode cX0_reckon 69 = .ok (.getfield 11, 3) := by decide +kernel
theorem dX0_reckon_72 : decode cX0_reckon 72 = .ok (.iconst 0, 1) := by decide +kernel
theorem dX0_reckon_73 : decode cX0_reckon 73 = .ok (.laload, 1) := by decide +kernel
theorem dX0_reckon_74 : decode cX0_reckon 74 = .ok (.l2i, 1) := by decide +kernel
theorem dX0_reckon_75 : decode cX0_reckon 75 = .ok (.goto 4, 3) := by decide +kernel
theorem dX0_reckon_87 : decode cX0_reckon 87 = .ok (.iconst 1, 1) := by decide +kernel
theorem dX0_reckon_88 : decode cX0_reckon 88 = .ok (.goto 4, 3) := by decide +kernel
theorem dX0_reckon_301 : decode cX0_reckon 301 = .ok (.iconst 0, 1) := by decide +kernel
theorem dX0_reckon_302 : decode cX0_reckon 302 = .ok (.ireturn, 1) := by decide +kernel
