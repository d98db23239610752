def yX5_aimHere : MethodName := ⟨RX5, "aimHere", "(I)V"⟩
abbrev cX5_aimHere : ByteArray := prog_7_method_32_code
theorem dX5_aimHere_0 : decode cX5_aimHere 0 = .ok (.iload_n 1, 1) := by decide +kernel
theorem dX5_aimHere_1 : decode cX5_aimHere 1 = .ok (.ifCond .lt 36, 3) := by decide +kernel
theorem dX5_aimHere_37 : decode cX5_aimHere 37 = .ok (.return_, 1) := by decide +kernel
theorem dX5_aimHere_4 : decode cX5_aimHere 4 = .ok (.iload_n 1, 1) := by decide +kernel
theorem dX5_aimHere_5 : decode cX5_aimHere 5 = .ok (.aload_n 0, 1) := by decide +kernel
theorem dX5_aimHere_6 : decode cX5_aimHere 6 = .ok (.getfield 30, 3) := by decide +kernel
theorem dX5_aimHere_9 : decode cX5_aimHere 9 = .ok (.getfield 72, 3) := by decide +kernel
theorem dX5_aimHere_12 : decode cX5_aimHere 12 = .ok (.if_icmp .ge 25, 3) := by decide +kernel
theorem dX5_aimHere_15 : decode cX5_aimHere 15 = .ok (.aload_n 0, 1) := by decide +kernel
theorem dX5_aimHere_16 : decode cX5_aimHere 16 = .ok (.getfield 30, 3) := by decide +kernel
theorem dX5_aimHere_19 : decode cX5_aimHere 19 = .ok (.getfield 182, 3) := by decide +kernel
theorem dX5_aimHere_22 : decode cX5_aimHere 22 = .ok (.iload_n 1, 1) := by decide +kernel
theorem dX5_aimHere_23 : decode cX5_aimHere 23 = .ok (.dup2, 1) := by decide +kernel
theorem dX5_aimHere_24 : decode cX5_aimHere 24 = .ok (.iaload, 1) := by decide +kernel
theorem dX5_aimHere_25 : decode cX5_aimHere 25 = .ok (.aload_n 0, 1) := by decide +kernel
theorem dX5_aimHere_26 : decode cX5_aimHere 26 = .ok (.getfield 30, 3) := by decide +kernel
theorem dX5_aimHere_29 : decode cX5_aimHere 29 = .ok (.getfield 72, 3) := by decide +kernel
theorem dX5_aimHere_32 : decode cX5_aimHere 32 = .ok (.bipush 6, 2) := by decide +kernel
theorem dX5_aimHere_34 : decode cX5_aimHere 34 = .ok (.ishl, 1) := by decide +kernel
theorem dX5_aimHere_35 : decode cX5_aimHere 35 = .ok (.ior, 1) := by decide +kernel
theorem dX5_aimHere_36 : decode cX5_aimHere 36 = .ok (.iastore, 1) := by decide +kernel
def yX6_veinOf : MethodName := ⟨RX6, "veinOf", "(I)J"⟩
abbrev cX6_veinOf : ByteArray := prog_8_method_8_code
theorem dX6_veinOf_0 : decode cX6_veinOf 0 = .ok (.lconst 0, 1) := by decide +kernel
theorem dX6_veinOf_1 : decode cX6_veinOf 1 = .ok (.lstore_n 2, 1) := by decide +kernel
theorem dX6_veinOf_2 : decode cX6_veinOf 2 = .ok (.iconst 0, 1) := by decide +kernel
theorem dX6_veinOf_3 : decode cX6_veinOf 3 = .ok (.istore 4, 2) := by decide +kernel
theorem dX6_veinOf_5 : decode cX6_veinOf 5 = .ok (.iload 4, 2) := by decide +kernel
theorem dX6_veinOf_7 : decode cX6_veinOf 7 = .ok (.bipush 40, 2) := by decide +kernel
theorem dX6_veinOf_9 : decode cX6_veinOf 9 = .ok (.if_icmp .ge 27, 3) := by decide +kernel
theorem dX6_veinOf_12 : decode cX6_veinOf 12 = .ok (.aload_n 0, 1) := by decide +kernel
theorem dX6_veinOf_13 : decode cX6_veinOf 13 = .ok (.getfield 9, 3) := by decide +kernel
theorem dX6_veinOf_16 : decode cX6_veinOf 16 = .ok (.iload 4, 2) := by decide +kernel
theorem dX6_veinOf_18 : decode cX6_veinOf 18 = .ok (.iaload, 1) := by decide +kernel
theorem dX6_veinOf_19 : decode cX6_veinOf 19 = .ok (.iconst 3, 1) := by decide +kernel
theorem dX6_veinOf_20 : decode cX6_veinOf 20 = .ok (.if_icmp .ne 10, 3) := by decide +kernel
theorem dX6_veinOf_30 : decode cX6_veinOf 30 = .ok (.iinc 4 1, 3) := by decide +kernel
theorem dX6_veinOf_33 : decode cX6_veinOf 33 = .ok (.goto (-28), 3) := by decide +kernel
theorem dX6_veinOf_23 : decode cX6_veinOf 23 = .ok (.lload_n 2, 1) := by decide +kernel
theorem dX6_veinOf_24 : decode cX6_veinOf 24 = .ok (.lconst 1, 1) := by decide +kernel
theorem dX6_veinOf_25 : decode cX6_veinOf 25 = .ok (.iload 4, 2) := by decide +kernel
theorem dX6_veinOf_27 : decode cX6_veinOf 27 = .ok (.lshl, 1) := by decide +kernel
theorem dX6_veinOf_28 : decode cX6_veinOf 28 = .ok (.lor, 1) := by decide +kernel
theorem dX6_veinOf_29 : decode cX6_veinOf 29 = .ok (.lstore_n 2, 1) := by decide +kernel
theorem dX6_veinOf_36 : decode cX6_veinOf 36 = .ok (.lconst 1, 1) := by decide +kernel
theorem dX6_veinOf_37 : decode cX6_veinOf 37 = .ok (.iload_n 1, 1) := by decide +kernel
theorem dX6_veinOf_38 : decode cX6_veinOf 38 = .ok (.lshl, 1) := by decide +kernel
theorem dX6_veinOf_39 : decode cX6_veinOf 39 = .ok (.lload_n 2, 1) := by decide +kernel
theorem dX6_veinOf_40 : decode cX6_veinOf 40 = .ok (.land, 1) := by decide +kernel
theorem dX6_veinOf_41 : decode cX6_veinOf 41 = .ok (.lstore 4, 2) := by decide +kernel
theorem dX6_veinOf_43 : decode cX6_veinOf 43 = .ok (.iconst 0, 1) := by decide +kernel
theorem dX6_veinOf_44 : decode cX6_veinOf 44 = .ok (.istore 6, 2) := by decide +kernel
theorem dX6_veinOf_46 : decode cX6_veinOf 46 = .ok (.iload 6, 2) := by decide +kernel
theorem dX6_veinOf_48 : decode cX6_veinOf 48 = .ok (.bipush 40, 2) := by decide +kernel
theorem dX6_veinOf_50 : decode cX6_veinOf 50 = .ok (.if_icmp .ge 68, 3) := by decide +kernel
theorem dX6_veinOf_53 : decode cX6_veinOf 53 = .ok (.lload 4, 2) := by decide +kernel
theorem dX6_veinOf_55 : decode cX6_veinOf 55 = .ok (.ldc2_w 33, 3) := by decide +kernel
theorem ct_RX6_33 : Cond.constantLong RX6 33 (-4311810306) ∈ gW := gW_u tb_3 116 (by rfl) (by decide +kernel)
theorem dX6_veinOf_58 : decode cX6_veinOf 58 = .ok (.land, 1) := by decide +kernel
theorem dX6_veinOf_59 : decode cX6_veinOf 59 = .ok (.iconst 1, 1) := by decide +kernel
theorem dX6_veinOf_60 : decode cX6_veinOf 60 = .ok (.lshr, 1) := by decide +kernel
theorem dX6_veinOf_61 : decode cX6_veinOf 61 = .ok (.lstore 7, 2) := by decide +kernel
theorem dX6_veinOf_63 : decode cX6_veinOf 63 = .ok (.lload 4, 2) := by decide +kernel
theorem dX6_veinOf_65 : decode cX6_veinOf 65 = .ok (.ldc2_w 35, 3) := by decide +kernel
theorem ct_RX6_35 : Cond.constantLong RX6 35 (-551911719041) ∈ gW := gW_u tb_3 117 (by rfl) (by decide +kernel)
theorem dX6_veinOf_68 : decode cX6_veinOf 68 = .ok (.land, 1) := by decide +kernel
theorem dX6_veinOf_69 : decode cX6_veinOf 69 = .ok (.iconst 1, 1) := by decide +kernel
theorem dX6_veinOf_70 : decode cX6_veinOf 70 = .ok (.lshl, 1) := by decide +kernel
theorem dX6_veinOf_71 : decode cX6_veinOf 71 = .ok (.lstore 9, 2) := by decide +kernel
theorem dX6_veinOf_73 : decode cX6_veinOf 73 = .ok (.lload 4, 2) := by decide +kernel
theorem dX6_veinOf_75 : decode cX6_veinOf 75 = .ok (.lload 7, 2) := by decide +kernel
theorem dX6_veinOf_77 : decode cX6_veinOf 77 = .ok (.lor, 1) := by decide +kernel
theorem dX6_veinOf_78 : decode cX6_veinOf 78 = .ok (.lload 9, 2) := by decide +kernel
theorem dX6_veinOf_80 : decode cX6_veinOf 80 = .ok (.lor, 1) := by decide +kernel
theorem dX6_veinOf_81 : decode cX6_veinOf 81 = .ok (.lload 4, 2) := by decide +kernel
theorem dX6_veinOf_83 : decode cX6_veinOf 83 = .ok (.bipush 8, 2) := by decide +kernel
theorem dX6_veinOf_85 : decode cX6_veinOf 85 = .ok (.lshl, 1) := by decide +kernel
theorem dX6_veinOf_86 : decode cX6_veinOf 86 = .ok (.lor, 1) := by decide +kernel
theorem dX6_veinOf_87 : decode cX6_veinOf 87 = .ok (.lload 4, 2) := by decide +kernel
theorem dX6_veinOf_89 : decode cX6_veinOf 89 = .ok (.bipush 8, 2) := by decide +kernel
theorem dX6_veinOf_91 : decode cX6_veinOf 91 = .ok (.lshr, 1) := by decide +kernel
theorem dX6_veinOf_92 : decode cX6_veinOf 92 = .ok (.lor, 1) := by decide +kernel
theorem dX6_veinOf_93 : decode cX6_veinOf 93 = .ok (.lload_n 2, 1) := by decide +kernel
theorem dX6_veinOf_94 : decode cX6_veinOf 94 = .ok (.land, 1) := by decide +kernel
theorem dX6_veinOf_95 : decode cX6_veinOf 95 = .ok (.lstore 11, 2) := by decide +kernel
theorem dX6_veinOf_97 : decode cX6_veinOf 97 = .ok (.lload 11, 2) := by decide +kernel
theorem dX6_veinOf_99 : decode cX6_veinOf 99 = .ok (.lload 4, 2) := by decide +kernel
theorem dX6_veinOf_101 : decode cX6_veinOf 101 = .ok (.lcmp, 1) := by decide +kernel
theorem dX6_veinOf_102 : decode cX6_veinOf 102 = .ok (.ifCond .ne 6, 3) := by decide +kernel
theorem dX6_veinOf_108 : decode cX6_veinOf 108 = .ok (.lload 11, 2) := by decide +kernel
theorem dX6_veinOf_110 : decode cX6_veinOf 110 = .ok (.lstore 4, 2) := by decide +kernel
theorem dX6_veinOf_112 : decode cX6_veinOf 112 = .ok (.iinc 6 1, 3) := by decide +kernel
theorem dX6_veinOf_115 : decode cX6_veinOf 115 = .ok (.goto (-69), 3) := by decide +kernel
theorem dX6_veinOf_105 : decode cX6_veinOf 105 = .ok (.goto 13, 3) := by decide +kernel
theorem dX6_veinOf_118 : decode cX6_veinOf 118 = .ok (.lload 4, 2) := by decide +kernel
theorem dX6_veinOf_120 : decode cX6_veinOf 120 = .ok (.lreturn, 1) := by decide +kernel
def yX6_copyFrom : MethodName := ⟨RX6, "copyFrom", "(LListenWells$Rock;)V"⟩
abbrev cX6_copyFrom : ByteArray := prog_8_method_10_code
theorem dX6_copyFrom_0 : decode cX6_copyFrom 0 = .ok (.aload_n 1, 1) := by decide +kernel
theorem dX6_copyFrom_1 : decode cX6_copyFrom 1 = .ok (.getfield 9, 3) := by decide +kernel
theorem dX6_copyFrom_4 : decode cX6_copyFrom 4 = .ok (.iconst 0, 1) := by decide +kernel
theorem dX6_copyFrom_5 : decode cX6_copyFrom 5 = .ok (.aload_n 0, 1) := by decide +kernel
theorem dX6_copyFrom_6 : decode cX6_copyFrom 6 = .ok (.getfield 9, 3) := by decide +kernel
theorem dX6_copyFrom_9 : decode cX6_copyFrom 9 = .ok (.iconst 0, 1) := by decide +kernel
theorem dX6_copyFrom_10 : decode cX6_copyFrom 10 = .ok (.bipush 40, 2) := by decide +kernel
theorem dX6_copyFrom_12 : decode cX6_copyFrom 12 = .ok (.invokestatic 37, 3) := by decide +kernel
theorem lk_RX6_37 : Cond.methodLink RX6 37 arraycopyName ∈ gW := gW_u tb_4 127 (by rfl) (by decide +kernel)
theorem dX6_copyFrom_15 : decode cX6_copyFrom 15 = .ok (.aload_n 1, 1) := by decide +kernel
theorem dX6_copyFrom_16 : decode cX6_copyFrom 16 = .ok (.getfield 15, 3) := by decide +kernel
theorem dX6_copyFrom_19 : decode cX6_copyFrom 19 = .ok (.iconst 0, 1) := by decide +kernel
theorem dX6_copyFrom_20 : decode cX6_copyFrom 20 = .ok (.aload_n 0, 1) := by decide +kernel
theorem dX6_copyFrom_21 : decode cX6_copyFrom 21 = .ok (.getfield 15, 3) := by decide +kernel
theorem dX6_copyFrom_24 : decode cX6_copyFrom 24 = .ok (.iconst 0, 1) := by decide +kernel
theorem dX6_copyFrom_25 : decode cX6_copyFrom 25 = .ok (.bipush 40, 2) := by decide +kernel
theorem dX6_copyFrom_27 : decode cX6_copyFrom 27 = .ok (.invokestatic 37, 3) := by decide +kernel
theorem dX6_copyFrom_30 : decode cX6_copyFrom 30 = .ok (.aload_n 1, 1) := by decide +kernel
theorem dX6_copyFrom_31 : decode cX6_copyFrom 31 = .ok (.getfield 18, 3) := by decide +kernel
theorem dX6_copyFrom_34 : decode cX6_copyFrom 34 = .ok (.iconst 0, 1) := by decide +kernel
theorem dX6_copyFrom_35 : decode cX6_copyFrom 35 = .ok (.aload_n 0, 1) := by decide +kernel
theorem dX6_copyFrom_36 : decode cX6_copyFrom 36 = .ok (.getfield 18, 3) := by decide +kernel
theorem dX6_copyFrom_39 : decode cX6_copyFrom 39 = .ok (.iconst 0, 1) := by decide +kernel
theorem dX6_copyFrom_40 : decode cX6_copyFrom 40 = .ok (.bipush 40, 2) := by decide +kernel
theorem dX6_copyFrom_42 : decode cX6_copyFrom 42 = .ok (.invokestatic 37, 3) := by decide +kernel
theorem dX6_copyFrom_45 : decode cX6_copyFrom 45 = .ok (.aload_n 0, 1) := by decide +kernel
theorem dX6_copyFrom_46 : decode cX6_copyFrom 46 = .ok (.aload_n 1, 1) := by decide +kernel
theorem dX6_copyFrom_47 : decode cX6_copyFrom 47 = .ok (.getfield 27, 3) := by decide +kernel
theorem dX6_copyFrom_50 : decode cX6_copyFrom 50 = .ok (.putfield 27, 3) := by decide +kernel
theorem dX6_copyFrom_53 : decode cX6_copyFrom 53 = .ok (.return_, 1) := by decide +kernel
def yX7_neighbour : MethodName := ⟨RX7, "neighbour", "(II)I"⟩
abbrev cX7_neighbour : ByteArray := prog_9_method_4_code
theorem dX7_neighbour_0 : decode cX7_neighbour 0 = .ok (.iload_n 0, 1) := by decide +kernel
theorem dX7_neighbour_1 : decode cX7_neighbour 1 = .ok (.bipush 8, 2) := by decide +kernel
theorem dX7_neighbour_3 : decode cX7_neighbour 3 = .ok (.irem, 1) := by decide +kernel
theorem dX7_neighbour_4 : decode cX7_neighbour 4 = .ok (.istore_n 2, 1) := by decide +kernel
theorem dX7_neighbour_5 : decode cX7_neighbour 5 = .ok (.iload_n 1, 1) := by decide +kernel
theorem dX7_neighbour_6 : decode cX7_neighbour 6 = .ok (.ifCond .ne 15, 3) := by decide +kernel
theorem dX7_neighbour_21 : decode cX7_neighbour 21 = .ok (.iload_n 1, 1) := by decide +kernel
theorem dX7_neighbour_22 : decode cX7_neighbour 22 = .ok (.iconst 2, 1) := by decide +kernel
theorem dX7_neighbour_23 : decode cX7_neighbour 23 = .ok (.if_icmp .ne 17, 3) := by decide +kernel
theorem dX7_neighbour_40 : decode cX7_neighbour 40 = .ok (.iload_n 0, 1) := by decide +kernel
theorem dX7_neighbour_41 : decode cX7_neighbour 41 = .ok (.bipush 8, 2) := by decide +kernel
theorem dX7_neighbour_43 : decode cX7_neighbour 43 = .ok (.iadd, 1) := by decide +kernel
theorem dX7_neighbour_44 : decode cX7_neighbour 44 = .ok (.bipush 40, 2) := by decide +kernel
theorem dX7_neighbour_46 : decode cX7_neighbour 46 = .ok (.if_icmp .ge 10, 3) := by decide +kernel
theorem dX7_neighbour_56 : decode cX7_neighbour 56 = .ok (.iconst (-1), 1) := by decide +kernel
theorem dX7_neighbour_57 : decode cX7_neighbour 57 = .ok (.ireturn, 1) := by decide +kernel
theorem dX7_neighbour_49 : decode cX7_neighbour 49 = .ok (.iload_n 0, 1) := by decide +kernel
theorem dX7_neighbour_50 : decode cX7_neighbour 50 = .ok (.bipush 8, 2) := by decide +kernel
theorem dX7_neighbour_52 : decode cX7_neighbour 52 = .ok (.iadd, 1) := by decide +kernel
theorem dX7_neighbour_53 : decode cX7_neighbour 53 = .ok (.goto 4, 3) := by decide +kernel
theorem dX7_neighbour_26 : decode cX7_neighbour 26 = .ok (.iload_n 2, 1) := by decide +kernel
theorem dX7_neighbour_27 : decode cX7_neighbour 27 = .ok (.bipush 7, 2) := by decide +kernel
theorem dX7_neighbour_29 : decode cX7_neighbour 29 = .ok (.if_icmp .ge 9, 3) := by decide +kernel
theorem dX7_neighbour_38 : decode cX7_neighbour 38 = .ok (.iconst (-1), 1) := by decide +kernel
theorem dX7_neighbour_39 : decode cX7_neighbour 39 = .ok (.ireturn, 1) := by decide +kernel
theorem dX7_neighbour_32 : decode cX7_neighbour 32 = .ok (.iload_n 0, 1) := by decide +kernel
theorem dX7_neighbour_33 : decode cX7_neighbour 33 = .ok (.iconst 1, 1) := by decide +kernel
theorem dX7_neighbour_34 : decode cX7_neighbour 34 = .ok (.iadd, 1) := by decide +kernel
theorem dX7_neighbour_35 : decode cX7_neighbour 35 = .ok (.goto 4, 3) := by decide +kernel
theorem dX7_neighbour_9 : decode cX7_neighbour 9 = .ok (.iload_n 2, 1) := by decide +kernel
theorem dX7_neighbour_10 : decode cX7_neighbour 10 = .ok (.ifCond .le 9, 3) := by decide +kernel
theorem dX7_neighbour_19 : decode cX7_neighbour 19 = .ok (.iconst (-1), 1) := by decide +kernel
theorem dX7_neighbour_20 : decode cX7_neighbour 20 = .ok (.ireturn, 1) := by decide +kernel
theorem dX7_neighbour_13 : decode cX7_neighbour 13 = .ok (.iload_n 0, 1) := by decide +kernel
theorem dX7_neighbour_14 : decode cX7_neighbour 14 = .ok (.iconst 1, 1) := by decide +kernel
theorem dX7_neighbour_15 : decode cX7_neighbour 15 = .ok (.isub, 1) := by decide +kernel
theorem dX7_neighbour_16 : decode cX7_neighbour 16 = .ok (.goto 4, 3) := by decide +kernel
def yX7_tryHush : MethodName := ⟨RX7, "tryHush", "(I)I"⟩
abbrev cX7_tryHush : ByteArray := prog_9_method_6_code
theorem dX7_tryHush_0 : decode cX7_tryHush 0 = .ok (.aload_n 0, 1) := by decide +kernel
theorem dX7_tryHush_1 : decode cX7_tryHush 1 = .ok (.getfield 12, 3) := by decide +kernel
theorem fl_RX7_12 : Cond.fieldLink RX7 12 RX7 "world" "LListenWells$World;" ∈ gW := gW_u tb_2 49 (by rfl) (by decide +kernel)
theorem dX7_tryHush_4 : decode cX7_tryHush 4 = .ok (.getfield 115, 3) := by decide +kernel
theorem fl_RX7_115 : Cond.fieldLink RX7 115 RX10 "folk" "LListenWells$Folk;" ∈ gW := gW_u tb_1 225 (by rfl) (by decide +kernel)
theorem dX7_tryHush_7 : decode cX7_tryHush 7 = .ok (.astore_n 2, 1) := by decide +kernel
theorem dX7_tryHush_8 : decode cX7_tryHush 8 = .ok (.iload_n 1, 1) := by decide +kernel
theorem dX7_tryHush_9 : decode cX7_tryHush 9 = .ok (.aload_n 2, 1) := by decide +kernel
theorem dX7_tryHush_10 : decode cX7_tryHush 10 = .ok (.getfield 119, 3) := by decide +kernel
theorem fl_RX7_119 : Cond.fieldLink RX7 119 RX4 "noises" "I" ∈ gW := gW_u tb_1 165 (by rfl) (by decide +kernel)
theorem dX7_tryHush_13 : decode cX7_tryHush 13 = .ok (.invokestatic 46, 3) := by decide +kernel
theorem nl_RX7_46 : Cond.methodLinkNest RX7 46 yX11_isWithin RX11 ∈ nW := by decide +kernel
theorem dX7_tryHush_16 : decode cX7_tryHush 16 = .ok (.ifCond .ne 6, 3) := by decide +kernel
theorem dX7_tryHush_22 : decode cX7_tryHush 22 = .ok (.aload_n 2, 1) := by decide +kernel
theorem dX7_tryHush_23 : decode cX7_tryHush 23 = .ok (.getfield 124, 3) := by decide +kernel
theorem fl_RX7_124 : Cond.fieldLink RX7 124 RX4 "hushed" "I" ∈ gW := gW_u tb_1 169 (by rfl) (by decide +kernel)
theorem dX7_tryHush_26 : decode cX7_tryHush 26 = .ok (.iload_n 1, 1) := by decide +kernel
theorem dX7_tryHush_27 : decode cX7_tryHush 27 = .ok (.ishr, 1) := by decide +kernel
theorem dX7_tryHush_28 : decode cX7_tryHush 28 = .ok (.iconst 1, 1) := by decide +kernel
theorem dX7_tryHush_29 : decode cX7_tryHush 29 = .ok (.iand, 1) := by decide +kernel
theorem dX7_tryHush_30 : decode cX7_tryHush 30 = .ok (.ifCond .eq 6, 3) := by decide +kernel
theorem dX7_tryHush_36 : decode cX7_tryHush 36 = .ok (.aload_n 0, 1) := by decide +kernel
theorem dX7_tryHush_37 : decode cX7_tryHush 37 = .ok (.getfield 21, 3) := by decide +kernel
theorem fl_RX7_21 : Cond.fieldLink RX7 21 RX7 "diary" "LListenWells$Diary;" ∈ gW := gW_u tb_2 51 (by rfl) (by decide +kernel)
theorem dX7_tryHush_40 : decode cX7_tryHush 40 = .ok (.iconst 2, 1) := by decide +kernel
theorem dX7_tryHush_41 : decode cX7_tryHush 41 = .ok (.iload_n 1, 1) := by decide +kernel
theorem dX7_tryHush_42 : decode cX7_tryHush 42 = .ok (.iconst 0, 1) := by decide +kernel
theorem dX7_tryHush_43 : decode cX7_tryHush 43 = .ok (.iconst 0, 1) := by decide +kernel
theorem dX7_tryHush_44 : decode cX7_tryHush 44 = .ok (.iconst 0, 1) := by decide +kernel
theorem dX7_tryHush_45 : decode cX7_tryHush 45 = .ok (.invokevirtual 90, 3) := by decide +kernel
theorem lk_RX7_90 : Cond.methodLink RX7 90 yX2_add ∈ gW := gW_u tb_4 167 (by rfl) (by decide +kernel)
theorem mI_X2_add : Cond.instanceMethod yX2_add ∈ gW := gW_u tb_4 168 (by rfl) (by decide +kernel)
theorem mS_X2_add : Cond.selects RX2 yX2_add yX2_add ∈ gW := gW_u tb_4 169 (by rfl) (by decide +kernel)
theorem mC_X2_add : Cond.code yX2_add cX2_add 6 none ∈ gW := gW_u tb_4 170 (by rfl) (by decide +kernel)
theorem ok_X2_add : okD yX2_add 5 := ⟨by decide +kernel, by decide +kernel, by decide +kernel⟩
theorem dX7_tryHush_48 : decode cX7_tryHush 48 = .ok (.aload_n 2, 1) := by decide +kernel
theorem dX7_tryHush_49 : decode cX7_tryHush 49 = .ok (.dup, 1) := by decide +kernel
theorem dX7_tryHush_50 : decode cX7_tryHush 50 = .ok (.getfield 124, 3) := by decide +kernel
theorem dX7_tryHush_53 : decode cX7_tryHush 53 = .ok (.iconst 1, 1) := by decide +kernel
theorem dX7_tryHush_54 : decode cX7_tryHush 54 = .ok (.iload_n 1, 1) := by decide +kernel
theorem dX7_tryHush_55 : decode cX7_tryHush 55 = .ok (.ishl, 1) := by decide +kernel
theorem dX7_tryHush_56 : decode cX7_tryHush 56 = .ok (.ior, 1) := by decide +kernel
theorem dX7_tryHush_57 : decode cX7_tryHush 57 = .ok (.putfield 124, 3) := by decide +kernel
theorem dX7_tryHush_60 : decode cX7_tryHush 60 = .ok (.aload_n 2, 1) := by decide +kernel
theorem dX7_tryHush_61 : decode cX7_tryHush 61 = .ok (.aload_n 2, 1) := by decide +kernel
theorem dX7_tryHush_62 : decode cX7_tryHush 62 = .ok (.getfield 127, 3) := by decide +kernel
theorem fl_RX7_127 : Cond.fieldLink RX7 127 RX4 "noiseColumn" "[I" ∈ gW := gW_u tb_1 160 (by rfl) (by decide +kernel)
theorem dX7_tryHush_65 : decode cX7_tryHush 65 = .ok (.iload_n 1, 1) := by decide +kernel
theorem dX7_tryHush_66 : decode cX7_tryHush 66 = .ok (.iaload, 1) := by decide +kernel
theorem dX7_tryHush_67 : decode cX7_tryHush 67 = .ok (.iconst 0, 1) := by decide +kernel
theorem dX7_tryHush_68 : decode cX7_tryHush 68 = .ok (.invokevirtual 130, 3) := by decide +kernel
theorem lk_RX7_130 : Cond.methodLink RX7 130 yX4_noiseIn ∈ gW := gW_u tb_4 172 (by rfl) (by decide +kernel)
theorem mI_X4_noiseIn : Cond.instanceMethod yX4_noiseIn ∈ gW := gW_u tb_4 173 (by rfl) (by decide +kernel)
theorem mS_X4_noiseIn : Cond.selects RX4 yX4_noiseIn yX4_noiseIn ∈ gW := gW_u tb_4 174 (by rfl) (by decide +kernel)
theorem mC_X4_noiseIn : Cond.code yX4_noiseIn cX4_noiseIn 6 (some .int) ∈ gW := gW_u tb_4 175 (by rfl) (by decide +kernel)
theorem ok_X4_noiseIn : okD yX4_noiseIn 2 := ⟨by decide +kernel, by decide +kernel, by decide +kernel⟩
theorem dX7_tryHush_71 : decode cX7_tryHush 71 = .ok (.ireturn, 1) := by decide +kernel
theorem dX7_tryHush_33 : decode cX7_tryHush 33 = .ok (.bipush (-3), 2) := by decide +kernel
theorem dX7_tryHush_35 : decode cX7_tryHush 35 = .ok (.ireturn, 1) := by decide +kernel
theorem dX7_tryHush_19 : decode cX7_tryHush 19 = .ok (.bipush (-2), 2) := by decide +kernel
theorem dX7_tryHush_21 : decode cX7_tryHush 21 = .ok (.ireturn, 1) := by decide +kernel
def yX7_tryLie : MethodName := ⟨RX7, "tryLie", "(II)I"⟩
abbrev cX7_tryLie : ByteArray := prog_9_method_7_code
theorem dX7_tryLie_0 : decode cX7_tryLie 0 = .ok (.iload_n 2, 1) := by decide +kernel
theorem dX7_tryLie_1 : decode cX7_tryLie 1 = .ok (.bipush 8, 2) := by decide +kernel
theorem dX7_tryLie_3 : decode cX7_tryLie 3 = .ok (.invokestatic 46, 3) := by decide +kernel
theorem dX7_tryLie_6 : decode cX7_tryLie 6 = .ok (.ifCond .ne 5, 3) := by decide +kernel
theorem dX7_tryLie_11 : decode cX7_tryLie 11 = .ok (.iload_n 1, 1) := by decide +kernel
theorem dX7_tryLie_12 : decode cX7_tryLie 12 = .ok (.aload_n 0, 1) := by decide +kernel
theorem dX7_tryLie_13 : decode cX7_tryLie 13 = .ok (.getfield 12, 3) := by decide +kernel
theorem dX7_tryLie_16 : decode cX7_tryLie 16 = .ok (.getfield 115, 3) := by decide +kernel
theorem dX7_tryLie_19 : decode cX7_tryLie 19 = .ok (.getfield 133, 3) := by decide +kernel
theorem fl_RX7_133 : Cond.fieldLink RX7 133 RX4 "listeners" "I" ∈ gW := gW_u tb_1 157 (by rfl) (by decide +kernel)
theorem dX7_tryLie_22 : decode cX7_tryLie 22 = .ok (.invokestatic 46, 3) := by decide +kernel
theorem dX7_tryLie_25 : decode cX7_tryLie 25 = .ok (.ifCond .ne 6, 3) := by decide +kernel
theorem dX7_tryLie_31 : decode cX7_tryLie 31 = .ok (.aload_n 0, 1) := by decide +kernel
theorem dX7_tryLie_32 : decode cX7_tryLie 32 = .ok (.getfield 12, 3) := by decide +kernel
theorem dX7_tryLie_35 : decode cX7_tryLie 35 = .ok (.getfield 115, 3) := by decide +kernel
theorem dX7_tryLie_38 : decode cX7_tryLie 38 = .ok (.getfield 136, 3) := by decide +kernel
theorem fl_RX7_136 : Cond.fieldLink RX7 136 RX4 "column" "[I" ∈ gW := gW_u tb_1 148 (by rfl) (by decide +kernel)
theorem dX7_tryLie_41 : decode cX7_tryLie 41 = .ok (.iload_n 1, 1) := by decide +kernel
theorem dX7_tryLie_42 : decode cX7_tryLie 42 = .ok (.iaload, 1) := by decide +kernel
theorem dX7_tryLie_43 : decode cX7_tryLie 43 = .ok (.istore_n 3, 1) := by decide +kernel
theorem dX7_tryLie_44 : decode cX7_tryLie 44 = .ok (.aload_n 0, 1) := by decide +kernel
theorem dX7_tryLie_45 : decode cX7_tryLie 45 = .ok (.getfield 21, 3) := by decide +kernel
theorem dX7_tryLie_48 : decode cX7_tryLie 48 = .ok (.iconst 3, 1) := by decide +kernel
theorem dX7_tryLie_49 : decode cX7_tryLie 49 = .ok (.iload_n 1, 1) := by decide +kernel
theorem dX7_tryLie_50 : decode cX7_tryLie 50 = .ok (.iload_n 3, 1) := by decide +kernel
theorem dX7_tryLie_51 : decode cX7_tryLie 51 = .ok (.iconst 0, 1) := by decide +kernel
theorem dX7_tryLie_52 : decode cX7_tryLie 52 = .ok (.iconst 0, 1) := by decide +kernel
theorem dX7_tryLie_53 : decode cX7_tryLie 53 = .ok (.invokevirtual 90, 3) := by decide +kernel
theorem dX7_tryLie_56 : decode cX7_tryLie 56 = .ok (.aload_n 0, 1) := by decide +kernel
theorem dX7_tryLie_57 : decode cX7_tryLie 57 = .ok (.getfield 12, 3) := by decide +kernel
theorem dX7_tryLie_60 : decode cX7_tryLie 60 = .ok (.getfield 115, 3) := by decide +kernel
theorem dX7_tryLie_63 : decode cX7_tryLie 63 = .ok (.getfield 136, 3) := by decide +kernel
theorem dX7_tryLie_66 : decode cX7_tryLie 66 = .ok (.iload_n 1, 1) := by decide +kernel
theorem dX7_tryLie_67 : decode cX7_tryLie 67 = .ok (.iload_n 2, 1) := by decide +kernel
theorem dX7_tryLie_68 : decode cX7_tryLie 68 = .ok (.iastore, 1) := by decide +kernel
theorem dX7_tryLie_69 : decode cX7_tryLie 69 = .ok (.iload_n 3, 1) := by decide +kernel
theorem dX7_tryLie_70 : decode cX7_tryLie 70 = .ok (.ireturn, 1) := by decide +kernel
theorem dX7_tryLie_28 : decode cX7_tryLie 28 = .ok (.bipush (-2), 2) := by decide +kernel
theorem dX7_tryLie_30 : decode cX7_tryLie 30 = .ok (.ireturn, 1) := by decide +kernel
theorem dX7_tryLie_9 : decode cX7_tryLie 9 = .ok (.iconst (-1), 1) := by decide +kernel
theorem dX7_tryLie_10 : decode cX7_tryLie 10 = .ok (.ireturn, 1) := by decide +kernel
def yX7_takeBack : MethodName := ⟨RX7, "takeBack", "()I"⟩
abbrev cX7_takeBack : ByteArray := prog_9_method_8_code
theorem dX7_takeBack_0 : decode cX7_takeBack 0 = .ok (.aload_n 0, 1) := by decide +kernel
theorem dX7_takeBack_1 : decode cX7_takeBack 1 = .ok (.getfield 21, 3) := by decide +kernel
theorem dX7_takeBack_4 : decode cX7_takeBack 4 = .ok (.getfield 139, 3) := by decide +kernel
theorem fl_RX7_139 : Cond.fieldLink RX7 139 RX2 "kept" "I" ∈ gW := gW_u tb_2 30 (by rfl) (by decide +kernel)
theorem dX7_takeBack_7 : decode cX7_takeBack 7 = .ok (.ifCond .ne 6, 3) := by decide +kernel
theorem dX7_takeBack_13 : decode cX7_takeBack 13 = .ok (.aload_n 0, 1) := by decide +kernel
theorem dX7_takeBack_14 : decode cX7_takeBack 14 = .ok (.getfield 21, 3) := by decide +kernel
theorem dX7_takeBack_17 : decode cX7_takeBack 17 = .ok (.getfield 142, 3) := by decide +kernel
theorem fl_RX7_142 : Cond.fieldLink RX7 142 RX2 "latest" "I" ∈ gW := gW_u tb_2 33 (by rfl) (by decide +kernel)
theorem dX7_takeBack_20 : decode cX7_takeBack 20 = .ok (.istore_n 1, 1) := by decide +kernel
theorem dX7_takeBack_21 : decode cX7_takeBack 21 = .ok (.aload_n 0, 1) := by decide +kernel
theorem dX7_takeBack_22 : decode cX7_takeBack 22 = .ok (.getfield 21, 3) := by decide +kernel
theorem dX7_takeBack_25 : decode cX7_takeBack 25 = .ok (.getfield 145, 3) := by decide +kernel
theorem fl_RX7_145 : Cond.fieldLink RX7 145 RX2 "whose" "[I" ∈ gW := gW_u tb_2 22 (by rfl) (by decide +kernel)
theorem dX7_takeBack_28 : decode cX7_takeBack 28 = .ok (.iload_n 1, 1) := by decide +kernel
theorem dX7_takeBack_29 : decode cX7_takeBack 29 = .ok (.iaload, 1) := by decide +kernel
theorem dX7_takeBack_30 : decode cX7_takeBack 30 = .ok (.istore_n 2, 1) := by decide +kernel
theorem dX7_takeBack_31 : decode cX7_takeBack 31 = .ok (.aload_n 0, 1) := by decide +kernel
theorem dX7_takeBack_32 : decode cX7_takeBack 32 = .ok (.getfield 21, 3) := by decide +kernel
theorem dX7_takeBack_35 : decode cX7_takeBack 35 = .ok (.getfield 148, 3) := by decide +kernel
theorem fl_RX7_148 : Cond.fieldLink RX7 148 RX2 "deed" "[I" ∈ gW := gW_u tb_2 20 (by rfl) (by decide +kernel)
theorem dX7_takeBack_38 : decode cX7_takeBack 38 = .ok (.iload_n 1, 1) := by decide +kernel
theorem dX7_takeBack_39 : decode cX7_takeBack 39 = .ok (.iaload, 1) := by decide +kernel
theorem dX7_takeBack_40 : decode cX7_takeBack 40 = .ok (.istore_n 3, 1) := by decide +kernel
theorem dX7_takeBack_41 : decode cX7_takeBack 41 = .ok (.aload_n 0, 1) := by decide +kernel
theorem dX7_takeBack_42 : decode cX7_takeBack 42 = .ok (.getfield 21, 3) := by decide +kernel
theorem dX7_takeBack_45 : decode cX7_takeBack 45 = .ok (.invokevirtual 151, 3) := by decide +kernel
theorem lk_RX7_151 : Cond.methodLink RX7 151 yX2_dropLatest ∈ gW := gW_u tb_5 72 (by rfl) (by decide +kernel)
theorem mI_X2_dropLatest : Cond.instanceMethod yX2_dropLatest ∈ gW := gW_u tb_5 73 (by rfl) (by decide +kernel)
theorem mS_X2_dropLatest : Cond.selects RX2 yX2_dropLatest yX2_dropLatest ∈ gW := gW_u tb_5 74 (by rfl) (by decide +kernel)
theorem mC_X2_dropLatest : Cond.code yX2_dropLatest cX2_dropLatest 1 none ∈ gW := gW_u tb_5 75 (by rfl) (by decide +kernel)
theorem ok_X2_dropLatest : okD yX2_dropLatest 0 := ⟨by decide +kernel, by decide +kernel, by decide +kernel⟩
theorem dX7_takeBack_48 : decode cX7_takeBack 48 = .ok (.iload_n 3, 1) := by decide +kernel
theorem dX7_takeBack_49 : decode cX7_takeBack 49 = .ok (.tableswitch 188 0 2 #[27, 91, 165], 27) := by decide +kernel
theorem dX7_takeBack_76 : decode cX7_takeBack 76 = .ok (.aload_n 0, 1) := by decide +kernel
theorem dX7_takeBack_77 : decode cX7_takeBack 77 = .ok (.getfield 12, 3) := by decide +kernel
theorem dX7_takeBack_80 : decode cX7_takeBack 80 = .ok (.getfield 62, 3) := by decide +kernel
theorem fl_RX7_62 : Cond.fieldLink RX7 62 RX10 "rock" "LListenWells$Rock;" ∈ gW := gW_u tb_1 215 (by rfl) (by decide +kernel)
theorem dX7_takeBack_83 : decode cX7_takeBack 83 = .ok (.aload_n 0, 1) := by decide +kernel
theorem dX7_takeBack_84 : decode cX7_takeBack 84 = .ok (.getfield 12, 3) := by decide +kernel
theorem dX7_takeBack_87 : decode cX7_takeBack 87 = .ok (.getfield 36, 3) := by decide +kernel
theorem fl_RX7_36 : Cond.fieldLink RX7 36 RX10 "crew" "LListenWells$Crew;" ∈ gW := gW_u tb_1 219 (by rfl) (by decide +kernel)
theorem dX7_takeBack_90 : decode cX7_takeBack 90 = .ok (.getfield 50, 3) := by decide +kernel
theorem fl_RX7_50 : Cond.fieldLink RX7 50 RX1 "cell" "[I" ∈ gW := gW_u tb_1 119 (by rfl) (by decide +kernel)
theorem dX7_takeBack_93 : decode cX7_takeBack 93 = .ok (.iload_n 2, 1) := by decide +kernel
theorem dX7_takeBack_94 : decode cX7_takeBack 94 = .ok (.iaload, 1) := by decide +kernel
theorem dX7_takeBack_95 : decode cX7_takeBack 95 = .ok (.invokevirtual 154, 3) := by decide +kernel
theorem lk_RX7_154 : Cond.methodLink RX7 154 yX6_unmark ∈ gW := gW_u tb_5 77 (by rfl) (by decide +kernel)
theorem mI_X6_unmark : Cond.instanceMethod yX6_unmark ∈ gW := gW_u tb_5 78 (by rfl) (by decide +kernel)
theorem mS_X6_unmark : Cond.selects RX6 yX6_unmark yX6_unmark ∈ gW := gW_u tb_5 79 (by rfl) (by decide +kernel)
theorem mC_X6_unmark : Cond.code yX6_unmark cX6_unmark 2 none ∈ gW := gW_u tb_5 80 (by rfl) (by decide +kernel)
theorem ok_X6_unmark : okD yX6_unmark 1 := ⟨by decide +kernel, by decide +kernel, by decide +kernel⟩
theorem dX7_takeBack_98 : decode cX7_takeBack 98 = .ok (.aload_n 0, 1) := by decide +kernel
theorem dX7_takeBack_99 : decode cX7_takeBack 99 = .ok (.getfield 12, 3) := by decide +kernel
theorem dX7_takeBack_102 : decode cX7_takeBack 102 = .ok (.getfield 36, 3) := by decide +kernel
theorem dX7_takeBack_105 : decode cX7_takeBack 105 = .ok (.getfield 50, 3) := by decide +kernel
theorem dX7_takeBack_108 : decode cX7_takeBack 108 = .ok (.iload_n 2, 1) := by decide +kernel
theorem dX7_takeBack_109 : decode cX7_takeBack 109 = .ok (.aload_n 0, 1) := by decide +kernel
theorem dX7_takeBack_110 : decode cX7_takeBack 110 = .ok (.getfield 21, 3) := by decide +kernel
theorem dX7_takeBack_113 : decode cX7_takeBack 113 = .ok (.getfield 157, 3) := by decide +kernel
theorem fl_RX7_157 : Cond.fieldLink RX7 157 RX2 "before" "[I" ∈ gW := gW_u tb_2 24 (by rfl) (by decide +kernel)
theorem dX7_takeBack_116 : decode cX7_takeBack 116 = .ok (.iload_n 1, 1) := by decide +kernel
theorem dX7_takeBack_117 : decode cX7_takeBack 117 = .ok (.iaload, 1) := by decide +kernel
theorem dX7_takeBack_118 : decode cX7_takeBack 118 = .ok (.iastore, 1) := by decide +kernel
theorem dX7_takeBack_119 : decode cX7_takeBack 119 = .ok (.aload_n 0, 1) := by decide +kernel
theorem dX7_takeBack_120 : decode cX7_takeBack 120 = .ok (.getfield 12, 3) := by decide +kernel
theorem dX7_takeBack_123 : decode cX7_takeBack 123 = .ok (.getfield 81, 3) := by decide +kernel
theorem fl_RX7_81 : Cond.fieldLink RX7 81 RX10 "term" "[I" ∈ gW := gW_u tb_1 229 (by rfl) (by decide +kernel)
theorem dX7_takeBack_126 : decode cX7_takeBack 126 = .ok (.iconst 0, 1) := by decide +kernel
theorem dX7_takeBack_127 : decode cX7_takeBack 127 = .ok (.aload_n 0, 1) := by decide +kernel
theorem dX7_takeBack_128 : decode cX7_takeBack 128 = .ok (.getfield 21, 3) := by decide +kernel
theorem dX7_takeBack_131 : decode cX7_takeBack 131 = .ok (.getfield 160, 3) := by decide +kernel
theorem fl_RX7_160 : Cond.fieldLink RX7 160 RX2 "dayBefore" "[I" ∈ gW := gW_u tb_2 28 (by rfl) (by decide +kernel)
theorem dX7_takeBack_134 : decode cX7_takeBack 134 = .ok (.iload_n 1, 1) := by decide +kernel
theorem dX7_takeBack_135 : decode cX7_takeBack 135 = .ok (.iaload, 1) := by decide +kernel
theorem dX7_takeBack_136 : decode cX7_takeBack 136 = .ok (.iastore, 1) := by decide +kernel
theorem dX7_takeBack_137 : decode cX7_takeBack 137 = .ok (.goto 121, 3) := by decide +kernel
theorem dX7_takeBack_258 : decode cX7_takeBack 258 = .ok (.iload_n 3, 1) := by decide +kernel
theorem dX7_takeBack_259 : decode cX7_takeBack 259 = .ok (.ireturn, 1) := by decide +kernel
theorem dX7_takeBack_140 : decode cX7_takeBack 140 = .ok (.aload_n 0, 1) := by decide +kernel
theorem dX7_takeBack_141 : decode cX7_takeBack 141 = .ok (.getfield 12, 3) := by decide +kernel
theorem dX7_takeBack_144 : decode cX7_takeBack 144 = .ok (.getfield 62, 3) := by decide +kernel
theorem dX7_takeBack_147 : decode cX7_takeBack 147 = .ok (.getfield 107, 3) := by decide +kernel
theorem fl_RX7_107 : Cond.fieldLink RX7 107 RX6 "water" "[I" ∈ gW := gW_u tb_1 98 (by rfl) (by decide +kernel)
theorem dX7_takeBack_150 : decode cX7_takeBack 150 = .ok (.aload_n 0, 1) := by decide +kernel
theorem dX7_takeBack_151 : decode cX7_takeBack 151 = .ok (.getfield 12, 3) := by decide +kernel
theorem dX7_takeBack_154 : decode cX7_takeBack 154 = .ok (.getfield 36, 3) := by decide +kernel
theorem dX7_takeBack_157 : decode cX7_takeBack 157 = .ok (.getfield 50, 3) := by decide +kernel
theorem dX7_takeBack_160 : decode cX7_takeBack 160 = .ok (.iload_n 2, 1) := by decide +kernel
theorem dX7_takeBack_161 : decode cX7_takeBack 161 = .ok (.iaload, 1) := by decide +kernel
theorem dX7_takeBack_162 : decode cX7_takeBack 162 = .ok (.aload_n 0, 1) := by decide +kernel
theorem dX7_takeBack_163 : decode cX7_takeBack 163 = .ok (.getfield 21, 3) := by decide +kernel
theorem dX7_takeBack_166 : decode cX7_takeBack 166 = .ok (.getfield 157, 3) := by decide +kernel
theorem dX7_takeBack_169 : decode cX7_takeBack 169 = .ok (.iload_n 1, 1) := by decide +kernel
theorem dX7_takeBack_170 : decode cX7_takeBack 170 = .ok (.iaload, 1) := by decide +kernel
theorem dX7_takeBack_171 : decode cX7_takeBack 171 = .ok (.iastore, 1) := by decide +kernel
theorem dX7_takeBack_172 : decode cX7_takeBack 172 = .ok (.aload_n 0, 1) := by decide +kernel
theorem dX7_takeBack_173 : decode cX7_takeBack 173 = .ok (.getfield 12, 3) := by decide +kernel
theorem dX7_takeBack_176 : decode cX7_takeBack 176 = .ok (.getfield 36, 3) := by decide +kernel
theorem dX7_takeBack_179 : decode cX7_takeBack 179 = .ok (.getfield 104, 3) := by decide +kernel
theorem fl_RX7_104 : Cond.fieldLink RX7 104 RX1 "buckets" "[I" ∈ gW := gW_u tb_1 126 (by rfl) (by decide +kernel)
theorem dX7_takeBack_182 : decode cX7_takeBack 182 = .ok (.iload_n 2, 1) := by decide +kernel
theorem dX7_takeBack_183 : decode cX7_takeBack 183 = .ok (.aload_n 0, 1) := by decide +kernel
theorem dX7_takeBack_184 : decode cX7_takeBack 184 = .ok (.getfield 21, 3) := by decide +kernel
theorem dX7_takeBack_187 : decode cX7_takeBack 187 = .ok (.getfield 163, 3) := by decide +kernel
theorem fl_RX7_163 : Cond.fieldLink RX7 163 RX2 "bucketsBefore" "[I" ∈ gW := gW_u tb_2 26 (by rfl) (by decide +kernel)
theorem dX7_takeBack_190 : decode cX7_takeBack 190 = .ok (.iload_n 1, 1) := by decide +kernel
theorem dX7_takeBack_191 : decode cX7_takeBack 191 = .ok (.iaload, 1) := by decide +kernel
theorem dX7_takeBack_192 : decode cX7_takeBack 192 = .ok (.iastore, 1) := by decide +kernel
theorem dX7_takeBack_193 : decode cX7_takeBack 193 = .ok (.aload_n 0, 1) := by decide +kernel
theorem dX7_takeBack_194 : decode cX7_takeBack 194 = .ok (.getfield 12, 3) := by decide +kernel
theorem dX7_takeBack_197 : decode cX7_takeBack 197 = .ok (.getfield 81, 3) := by decide +kernel
theorem dX7_takeBack_200 : decode cX7_takeBack 200 = .ok (.iconst 0, 1) := by decide +kernel
theorem dX7_takeBack_201 : decode cX7_takeBack 201 = .ok (.aload_n 0, 1) := by decide +kernel
theorem dX7_takeBack_202 : decode cX7_takeBack 202 = .ok (.getfield 21, 3) := by decide +kernel
theorem dX7_takeBack_205 : decode cX7_takeBack 205 = .ok (.getfield 160, 3) := by decide +kernel
theorem dX7_takeBack_208 : decode cX7_takeBack 208 = .ok (.iload_n 1, 1) := by decide +kernel
theorem dX7_takeBack_209 : decode cX7_takeBack 209 = .ok (.iaload, 1) := by decide +kernel
theorem dX7_takeBack_210 : decode cX7_takeBack 210 = .ok (.iastore, 1) := by decide +kernel
theorem dX7_takeBack_211 : decode cX7_takeBack 211 = .ok (.goto 47, 3) := by decide +kernel
theorem dX7_takeBack_214 : decode cX7_takeBack 214 = .ok (.aload_n 0, 1) := by decide +kernel
theorem dX7_takeBack_215 : decode cX7_takeBack 215 = .ok (.getfield 12, 3) := by decide +kernel
theorem dX7_takeBack_218 : decode cX7_takeBack 218 = .ok (.getfield 115, 3) := by decide +kernel
theorem dX7_takeBack_221 : decode cX7_takeBack 221 = .ok (.dup, 1) := by decide +kernel
theorem dX7_takeBack_222 : decode cX7_takeBack 222 = .ok (.getfield 124, 3) := by decide +kernel
theorem dX7_takeBack_225 : decode cX7_takeBack 225 = .ok (.iconst 1, 1) := by decide +kernel
theorem dX7_takeBack_226 : decode cX7_takeBack 226 = .ok (.iload_n 2, 1) := by decide +kernel
theorem dX7_takeBack_227 : decode cX7_takeBack 227 = .ok (.ishl, 1) := by decide +kernel
theorem dX7_takeBack_228 : decode cX7_takeBack 228 = .ok (.iconst (-1), 1) := by decide +kernel
theorem dX7_takeBack_229 : decode cX7_takeBack 229 = .ok (.ixor, 1) := by decide +kernel
theorem dX7_takeBack_230 : decode cX7_takeBack 230 = .ok (.iand, 1) := by decide +kernel
theorem dX7_takeBack_231 : decode cX7_takeBack 231 = .ok (.putfield 124, 3) := by decide +kernel
theorem dX7_takeBack_234 : decode cX7_takeBack 234 = .ok (.goto 24, 3) := by decide +kernel
theorem dX7_takeBack_237 : decode cX7_takeBack 237 = .ok (.aload_n 0, 1) := by decide +kernel
theorem dX7_takeBack_238 : decode cX7_takeBack 238 = .ok (.getfield 12, 3) := by decide +kernel
theorem dX7_takeBack_241 : decode cX7_takeBack 241 = .ok (.getfield 115, 3) := by decide +kernel
theorem dX7_takeBack_244 : decode cX7_takeBack 244 = .ok (.getfield 136, 3) := by decide +kernel
theorem dX7_takeBack_247 : decode cX7_takeBack 247 = .ok (.iload_n 2, 1) := by decide +kernel
theorem dX7_takeBack_248 : decode cX7_takeBack 248 = .ok (.aload_n 0, 1) := by decide +kernel
theorem dX7_takeBack_249 : decode cX7_takeBack 249 = .ok (.getfield 21, 3) := by decide +kernel
theorem dX7_takeBack_252 : decode cX7_takeBack 252 = .ok (.getfield 157, 3) := by decide +kernel
theorem dX7_takeBack_255 : decode cX7_takeBack 255 = .ok (.iload_n 1, 1) := by decide +kernel
theorem dX7_takeBack_256 : decode cX7_takeBack 256 = .ok (.iaload, 1) := by decide +kernel
theorem dX7_takeBack_257 : decode cX7_takeBack 257 = .ok (.iastore, 1) := by decide +kernel
theorem dX7_takeBack_10 : decode cX7_takeBack 10 = .ok (.bipush (-3), 2) := by decide +kernel
theorem dX7_takeBack_12 : decode cX7_takeBack 12 = .ok (.ireturn, 1) := by decide +kernel
def yX8_headOf : MethodName := ⟨RX8, "headOf", "(II)I"⟩
abbrev cX8_headOf : ByteArray := prog_10_method_2_code
theorem dX8_headOf_0 : decode cX8_headOf 0 = .ok (.iconst 5, 1) := by decide +kernel
theorem dX8_headOf_1 : decode cX8_headOf 1 = .ok (.iload_n 1, 1) := by decide +kernel
theorem dX8_headOf_2 : decode cX8_headOf 2 = .ok (.imul, 1) := by decide +kernel
theorem dX8_headOf_3 : decode cX8_headOf 3 = .ok (.iload_n 2, 1) := by decide +kernel
theorem dX8_headOf_4 : decode cX8_headOf 4 = .ok (.iadd, 1) := by decide +kernel
theorem dX8_headOf_5 : decode cX8_headOf 5 = .ok (.istore_n 3, 1) := by decide +kernel
theorem dX8_headOf_6 : decode cX8_headOf 6 = .ok (.iload_n 3, 1) := by decide +kernel
theorem dX8_headOf_7 : decode cX8_headOf 7 = .ok (.ifCond .lt 21, 3) := by decide +kernel
theorem dX8_headOf_28 : decode cX8_headOf 28 = .ok (.iconst (-1), 1) := by decide +kernel
theorem dX8_headOf_29 : decode cX8_headOf 29 = .ok (.ireturn, 1) := by decide +kernel
theorem dX8_headOf_10 : decode cX8_headOf 10 = .ok (.iload_n 3, 1) := by decide +kernel
theorem dX8_headOf_11 : decode cX8_headOf 11 = .ok (.aload_n 0, 1) := by decide +kernel
theorem dX8_headOf_12 : decode cX8_headOf 12 = .ok (.getfield 17, 3) := by decide +kernel
theorem fl_RX8_17 : Cond.fieldLink RX8 17 RX8 "heads" "[I" ∈ gW := gW_u tb_2 86 (by rfl) (by decide +kernel)
theorem dX8_headOf_15 : decode cX8_headOf 15 = .ok (.arraylength, 1) := by decide +kernel
theorem dX8_headOf_16 : decode cX8_headOf 16 = .ok (.if_icmp .ge 12, 3) := by decide +kernel
theorem dX8_headOf_19 : decode cX8_headOf 19 = .ok (.aload_n 0, 1) := by decide +kernel
theorem dX8_headOf_20 : decode cX8_headOf 20 = .ok (.getfield 17, 3) := by decide +kernel
theorem dX8_headOf_23 : decode cX8_headOf 23 = .ok (.iload_n 3, 1) := by decide +kernel
theorem dX8_headOf_24 : decode cX8_headOf 24 = .ok (.iaload, 1) := by decide +kernel
theorem dX8_headOf_25 : decode cX8_headOf 25 = .ok (.goto 4, 3) := by decide +kernel
def yX8_setHead : MethodName := ⟨RX8, "setHead", "(III)V"⟩
abbrev cX8_setHead : ByteArray := prog_10_method_3_code
theorem dX8_setHead_0 : decode cX8_setHead 0 = .ok (.iconst 5, 1) := by decide +kernel
theorem dX8_setHead_1 : decode cX8_setHead 1 = .ok (.iload_n 1, 1) := by decide +kernel
theorem dX8_setHead_2 : decode cX8_setHead 2 = .ok (.imul, 1) := by decide +kernel
theorem dX8_setHead_3 : decode cX8_setHead 3 = .ok (.iload_n 2, 1) := by decide +kernel
theorem dX8_setHead_4 : decode cX8_setHead 4 = .ok (.iadd, 1) := by decide +kernel
theorem dX8_setHead_5 : decode cX8_setHead 5 = .ok (.istore 4, 2) := by decide +kernel
theorem dX8_setHead_7 : decode cX8_setHead 7 = .ok (.iload 4, 2) := by decide +kernel
theorem dX8_setHead_9 : decode cX8_setHead 9 = .ok (.ifCond .lt 21, 3) := by decide +kernel
theorem dX8_setHead_30 : decode cX8_setHead 30 = .ok (.return_, 1) := by decide +kernel
theorem dX8_setHead_12 : decode cX8_setHead 12 = .ok (.iload 4, 2) := by decide +kernel
theorem dX8_setHead_14 : decode cX8_setHead 14 = .ok (.aload_n 0, 1) := by decide +kernel
theorem dX8_setHead_15 : decode cX8_setHead 15 = .ok (.getfield 17, 3) := by decide +kernel
theorem dX8_setHead_18 : decode cX8_setHead 18 = .ok (.arraylength, 1) := by decide +kernel
theorem dX8_setHead_19 : decode cX8_setHead 19 = .ok (.if_icmp .ge 11, 3) := by decide +kernel
theorem dX8_setHead_22 : decode cX8_setHead 22 = .ok (.aload_n 0, 1) := by decide +kernel
theorem dX8_setHead_23 : decode cX8_setHead 23 = .ok (.getfield 17, 3) := by decide +kernel
theorem dX8_setHead_26 : decode cX8_setHead 26 = .ok (.iload 4, 2) := by decide +kernel
theorem dX8_setHead_28 : decode cX8_setHead 28 = .ok (.iload_n 3, 1) := by decide +kernel
theorem dX8_setHead_29 : decode cX8_setHead 29 = .ok (.iastore, 1) := by decide +kernel
def yX9_daysBy : MethodName := ⟨RX9, "daysBy", "(II)I"⟩
abbrev cX9_daysBy : ByteArray := prog_11_method_4_code
theorem dX9_daysBy_0 : decode cX9_daysBy 0 = .ok (.iload_n 1, 1) := by decide +kernel
theorem dX9_daysBy_1 : decode cX9_daysBy 1 = .ok (.ifCond .lt 29, 3) := by decide +kernel
theorem dX9_daysBy_30 : decode cX9_daysBy 30 = .ok (.ldc 68, 2) := by decide +kernel
theorem ct_RX9_68 : Cond.constant RX9 68 1000000 ∈ gW := gW_u tb_5 107 (by rfl) (by decide +kernel)
theorem dX9_daysBy_32 : decode cX9_daysBy 32 = .ok (.ireturn, 1) := by decide +kernel
theorem dX9_daysBy_4 : decode cX9_daysBy 4 = .ok (.iload_n 1, 1) := by decide +kernel
theorem dX9_daysBy_5 : decode cX9_daysBy 5 = .ok (.bipush 40, 2) := by decide +kernel
theorem dX9_daysBy_7 : decode cX9_daysBy 7 = .ok (.if_icmp .ge 23, 3) := by decide +kernel
theorem dX9_daysBy_10 : decode cX9_daysBy 10 = .ok (.aload_n 0, 1) := by decide +kernel
theorem dX9_daysBy_11 : decode cX9_daysBy 11 = .ok (.getfield 9, 3) := by decide +kernel
theorem fl_RX9_9 : Cond.fieldLink RX9 9 RX9 "cost" "[I" ∈ gW := gW_u tb_2 147 (by rfl) (by decide +kernel)
theorem dX9_daysBy_14 : decode cX9_daysBy 14 = .ok (.iload_n 1, 1) := by decide +kernel
theorem dX9_daysBy_15 : decode cX9_daysBy 15 = .ok (.iaload, 1) := by decide +kernel
theorem dX9_daysBy_16 : decode cX9_daysBy 16 = .ok (.ifCond .eq 14, 3) := by decide +kernel
theorem dX9_daysBy_19 : decode cX9_daysBy 19 = .ok (.aload_n 0, 1) := by decide +kernel
theorem dX9_daysBy_20 : decode cX9_daysBy 20 = .ok (.getfield 19, 3) := by decide +kernel
theorem fl_RX9_19 : Cond.fieldLink RX9 19 RX9 "left" "[I" ∈ gW := gW_u tb_2 149 (by rfl) (by decide +kernel)
theorem dX9_daysBy_23 : decode cX9_daysBy 23 = .ok (.iload_n 1, 1) := by decide +kernel
theorem dX9_daysBy_24 : decode cX9_daysBy 24 = .ok (.iaload, 1) := by decide +kernel
theorem dX9_daysBy_25 : decode cX9_daysBy 25 = .ok (.ldc 68, 2) := by decide +kernel
theorem dX9_daysBy_27 : decode cX9_daysBy 27 = .ok (.if_icmp .lt 6, 3) := by decide +kernel
theorem dX9_daysBy_33 : decode cX9_daysBy 33 = .ok (.aload_n 0, 1) := by decide +kernel
theorem dX9_daysBy_34 : decode cX9_daysBy 34 = .ok (.getfield 15, 3) := by decide +kernel
theorem fl_RX9_15 : Cond.fieldLink RX9 15 RX9 "endsWay" "[Z" ∈ gW := gW_u tb_2 148 (by rfl) (by decide +kernel)
theorem dX9_daysBy_37 : decode cX9_daysBy 37 = .ok (.iload_n 1, 1) := by decide +kernel
theorem dX9_daysBy_38 : decode cX9_daysBy 38 = .ok (.baload, 1) := by decide +kernel
theorem dX9_daysBy_39 : decode cX9_daysBy 39 = .ok (.ifCond .eq 13, 3) := by decide +kernel
theorem dX9_daysBy_42 : decode cX9_daysBy 42 = .ok (.iload_n 1, 1) := by decide +kernel
theorem dX9_daysBy_43 : decode cX9_daysBy 43 = .ok (.iload_n 2, 1) := by decide +kernel
theorem dX9_daysBy_44 : decode cX9_daysBy 44 = .ok (.if_icmp .eq 8, 3) := by decide +kernel
theorem dX9_daysBy_47 : decode cX9_daysBy 47 = .ok (.ldc 68, 2) := by decide +kernel
theorem dX9_daysBy_49 : decode cX9_daysBy 49 = .ok (.goto 16, 3) := by decide +kernel
theorem dX9_daysBy_65 : decode cX9_daysBy 65 = .ok (.ireturn, 1) := by decide +kernel
theorem dX9_daysBy_52 : decode cX9_daysBy 52 = .ok (.aload_n 0, 1) := by decide +kernel
theorem dX9_daysBy_53 : decode cX9_daysBy 53 = .ok (.getfield 9, 3) := by decide +kernel
theorem dX9_daysBy_56 : decode cX9_daysBy 56 = .ok (.iload_n 1, 1) := by decide +kernel
theorem dX9_daysBy_57 : decode cX9_daysBy 57 = .ok (.iaload, 1) := by decide +kernel
theorem dX9_daysBy_58 : decode cX9_daysBy 58 = .ok (.aload_n 0, 1) := by decide +kernel
theorem dX9_daysBy_59 : decode cX9_daysBy 59 = .ok (.getfield 19, 3) := by decide +kernel
theorem dX9_daysBy_62 : decode cX9_daysBy 62 = .ok (.iload_n 1, 1) := by decide +kernel
theorem dX9_daysBy_63 : decode cX9_daysBy 63 = .ok (.iaload, 1) := by decide +kernel
theorem dX9_daysBy_64 : decode cX9_daysBy 64 = .ok (.iadd, 1) := by decide +kernel
def yX9_walk : MethodName := ⟨RX9, "walk", "(II)V"⟩
abbrev cX9_walk : ByteArray := prog_11_method_5_code
theorem dX9_walk_0 : decode cX9_walk 0 = .ok (.aload_n 0, 1) := by decide +kernel
theorem dX9_walk_1 : decode cX9_walk 1 = .ok (.iconst 0, 1) := by decide +kernel
theorem dX9_walk_2 : decode cX9_walk 2 = .ok (.putfield 69, 3) := by decide +kernel
theorem fl_RX9_69 : Cond.fieldLink RX9 69 RX9 "steps" "I" ∈ gW := gW_u tb_2 152 (by rfl) (by decide +kernel)
theorem dX9_walk_5 : decode cX9_walk 5 = .ok (.iload_n 1, 1) := by decide +kernel
theorem dX9_walk_6 : decode cX9_walk 6 = .ok (.istore_n 3, 1) := by decide +kernel
theorem dX9_walk_7 : decode cX9_walk 7 = .ok (.iconst 0, 1) := by decide +kernel
theorem dX9_walk_8 : decode cX9_walk 8 = .ok (.istore 4, 2) := by decide +kernel
theorem dX9_walk_10 : decode cX9_walk 10 = .ok (.iload 4, 2) := by decide +kernel
theorem dX9_walk_12 : decode cX9_walk 12 = .ok (.bipush 40, 2) := by decide +kernel
theorem dX9_walk_14 : decode cX9_walk 14 = .ok (.if_icmp .ge 114, 3) := by decide +kernel
theorem dX9_walk_17 : decode cX9_walk 17 = .ok (.iload_n 3, 1) := by decide +kernel
theorem dX9_walk_18 : decode cX9_walk 18 = .ok (.iload_n 2, 1) := by decide +kernel
theorem dX9_walk_19 : decode cX9_walk 19 = .ok (.if_icmp .eq 109, 3) := by decide +kernel
theorem dX9_walk_22 : decode cX9_walk 22 = .ok (.iload_n 3, 1) := by decide +kernel
theorem dX9_walk_23 : decode cX9_walk 23 = .ok (.bipush 8, 2) := by decide +kernel
theorem dX9_walk_25 : decode cX9_walk 25 = .ok (.irem, 1) := by decide +kernel
theorem dX9_walk_26 : decode cX9_walk 26 = .ok (.istore 5, 2) := by decide +kernel
theorem dX9_walk_28 : decode cX9_walk 28 = .ok (.iload 5, 2) := by decide +kernel
theorem dX9_walk_30 : decode cX9_walk 30 = .ok (.ifCond .le 27, 3) := by decide +kernel
theorem dX9_walk_57 : decode cX9_walk 57 = .ok (.iload 5, 2) := by decide +kernel
theorem dX9_walk_59 : decode cX9_walk 59 = .ok (.bipush 7, 2) := by decide +kernel
theorem dX9_walk_61 : decode cX9_walk 61 = .ok (.if_icmp .ge 27, 3) := by decide +kernel
theorem dX9_walk_88 : decode cX9_walk 88 = .ok (.iload_n 3, 1) := by decide +kernel
theorem dX9_walk_89 : decode cX9_walk 89 = .ok (.bipush 8, 2) := by decide +kernel
theorem dX9_walk_91 : decode cX9_walk 91 = .ok (.iadd, 1) := by decide +kernel
theorem dX9_walk_92 : decode cX9_walk 92 = .ok (.bipush 40, 2) := by decide +kernel
theorem dX9_walk_94 : decode cX9_walk 94 = .ok (.if_icmp .ge 8, 3) := by decide +kernel
theorem dX9_walk_97 : decode cX9_walk 97 = .ok (.iload_n 3, 1) := by decide +kernel
theorem dX9_walk_98 : decode cX9_walk 98 = .ok (.bipush 8, 2) := by decide +kernel
theorem dX9_walk_100 : decode cX9_walk 100 = .ok (.iadd, 1) := by decide +kernel
theorem dX9_walk_101 : decode cX9_walk 101 = .ok (.istore_n 3, 1) := by decide +kernel
theorem dX9_walk_64 : decode cX9_walk 64 = .ok (.aload_n 0, 1) := by decide +kernel
theorem dX9_walk_65 : decode cX9_walk 65 = .ok (.iload_n 3, 1) := by decide +kernel
theorem dX9_walk_66 : decode cX9_walk 66 = .ok (.iconst 1, 1) := by decide +kernel
theorem dX9_walk_67 : decode cX9_walk 67 = .ok (.iadd, 1) := by decide +kernel
theorem dX9_walk_68 : decode cX9_walk 68 = .ok (.iload_n 2, 1) := by decide +kernel
theorem dX9_walk_69 : decode cX9_walk 69 = .ok (.invokevirtual 60, 3) := by decide +kernel
theorem lk_RX9_60 : Cond.methodLink RX9 60 yX9_daysBy ∈ gW := gW_u tb_5 103 (by rfl) (by decide +kernel)
theorem mI_X9_daysBy : Cond.instanceMethod yX9_daysBy ∈ gW := gW_u tb_5 105 (by rfl) (by decide +kernel)
theorem mS_X9_daysBy : Cond.selects RX9 yX9_daysBy yX9_daysBy ∈ gW := gW_p (q := (yX9_daysBy, 11)) 32 (by decide +kernel)
theorem mN_RX9 : Cond.initialized RX9 ∈ gW := gW_u tb_1 13 (by rfl) (by decide +kernel)
theorem mC_X9_daysBy : Cond.code yX9_daysBy cX9_daysBy 3 (some .int) ∈ gW := gW_u tb_5 106 (by rfl) (by decide +kernel)
theorem ok_X9_daysBy : okD yX9_daysBy 2 := ⟨by decide +kernel, by decide +kernel, by decide +kernel⟩
theorem dX9_walk_72 : decode cX9_walk 72 = .ok (.aload_n 0, 1) := by decide +kernel
theorem dX9_walk_73 : decode cX9_walk 73 = .ok (.getfield 19, 3) := by decide +kernel
theorem dX9_walk_76 : decode cX9_walk 76 = .ok (.iload_n 3, 1) := by decide +kernel
theorem dX9_walk_77 : decode cX9_walk 77 = .ok (.iaload, 1) := by decide +kernel
theorem dX9_walk_78 : decode cX9_walk 78 = .ok (.if_icmp .ne 10, 3) := by decide +kernel
theorem dX9_walk_81 : decode cX9_walk 81 = .ok (.iload_n 3, 1) := by decide +kernel
theorem dX9_walk_82 : decode cX9_walk 82 = .ok (.iconst 1, 1) := by decide +kernel
theorem dX9_walk_83 : decode cX9_walk 83 = .ok (.iadd, 1) := by decide +kernel
theorem dX9_walk_84 : decode cX9_walk 84 = .ok (.istore_n 3, 1) := by decide +kernel
theorem dX9_walk_85 : decode cX9_walk 85 = .ok (.goto 17, 3) := by decide +kernel
theorem dX9_walk_33 : decode cX9_walk 33 = .ok (.aload_n 0, 1) := by decide +kernel
theorem dX9_walk_34 : decode cX9_walk 34 = .ok (.iload_n 3, 1) := by decide +kernel
theorem dX9_walk_35 : decode cX9_walk 35 = .ok (.iconst 1, 1) := by decide +kernel
theorem dX9_walk_36 : decode cX9_walk 36 = .ok (.isub, 1) := by decide +kernel
theorem dX9_walk_37 : decode cX9_walk 37 = .ok (.iload_n 2, 1) := by decide +kernel
theorem dX9_walk_38 : decode cX9_walk 38 = .ok (.invokevirtual 60, 3) := by decide +kernel
theorem dX9_walk_41 : decode cX9_walk 41 = .ok (.aload_n 0, 1) := by decide +kernel
theorem dX9_walk_42 : decode cX9_walk 42 = .ok (.getfield 19, 3) := by decide +kernel
theorem dX9_walk_45 : decode cX9_walk 45 = .ok (.iload_n 3, 1) := by decide +kernel
theorem dX9_walk_46 : decode cX9_walk 46 = .ok (.iaload, 1) := by decide +kernel
theorem dX9_walk_47 : decode cX9_walk 47 = .ok (.if_icmp .ne 10, 3) := by decide +kernel
theorem dX9_walk_50 : decode cX9_walk 50 = .ok (.iload_n 3, 1) := by decide +kernel
theorem dX9_walk_51 : decode cX9_walk 51 = .ok (.iconst 1, 1) := by decide +kernel
theorem dX9_walk_52 : decode cX9_walk 52 = .ok (.isub, 1) := by decide +kernel
theorem dX9_walk_53 : decode cX9_walk 53 = .ok (.istore_n 3, 1) := by decide +kernel
theorem dX9_walk_54 : decode cX9_walk 54 = .ok (.goto 48, 3) := by decide +kernel
theorem dX9_walk_102 : decode cX9_walk 102 = .ok (.aload_n 0, 1) := by decide +kernel
theorem dX9_walk_103 : decode cX9_walk 103 = .ok (.getfield 22, 3) := by decide +kernel
theorem fl_RX9_22 : Cond.fieldLink RX9 22 RX9 "path" "[I" ∈ gW := gW_u tb_2 150 (by rfl) (by decide +kernel)
theorem dX9_walk_106 : decode cX9_walk 106 = .ok (.aload_n 0, 1) := by decide +kernel
theorem dX9_walk_107 : decode cX9_walk 107 = .ok (.getfield 69, 3) := by decide +kernel
theorem dX9_walk_110 : decode cX9_walk 110 = .ok (.iload_n 3, 1) := by decide +kernel
theorem dX9_walk_111 : decode cX9_walk 111 = .ok (.iastore, 1) := by decide +kernel
theorem dX9_walk_112 : decode cX9_walk 112 = .ok (.aload_n 0, 1) := by decide +kernel
theorem dX9_walk_113 : decode cX9_walk 113 = .ok (.dup, 1) := by decide +kernel
theorem dX9_walk_114 : decode cX9_walk 114 = .ok (.getfield 69, 3) := by decide +kernel
theorem dX9_walk_117 : decode cX9_walk 117 = .ok (.iconst 1, 1) := by decide +kernel
theorem dX9_walk_118 : decode cX9_walk 118 = .ok (.iadd, 1) := by decide +kernel
theorem dX9_walk_119 : decode cX9_walk 119 = .ok (.putfield 69, 3) := by decide +kernel
theorem dX9_walk_122 : decode cX9_walk 122 = .ok (.iinc 4 1, 3) := by decide +kernel
theorem dX9_walk_125 : decode cX9_walk 125 = .ok (.goto (-115), 3) := by decide +kernel
theorem dX9_walk_128 : decode cX9_walk 128 = .ok (.return_, 1) := by decide +kernel
def yX9_daysWith : MethodName := ⟨RX9, "daysWith", "(III)I"⟩
abbrev cX9_daysWith : ByteArray := prog_11_method_9_code
theorem dX9_daysWith_0 : decode cX9_daysWith 0 = .ok (.ldc 68, 2) := by decide +kernel
theorem dX9_daysWith_2 : decode cX9_daysWith 2 = .ok (.aload_n 0, 1) := by decide +kernel
theorem dX9_daysWith_3 : decode cX9_daysWith 3 = .ok (.getfield 28, 3) := by decide +kernel
theorem fl_RX9_28 : Cond.fieldLink RX9 28 RX9 "price" "[I" ∈ gW := gW_u tb_2 157 (by rfl) (by decide +kernel)
theorem dX9_daysWith_6 : decode cX9_daysWith 6 = .ok (.iload_n 1, 1) := by decide +kernel
theorem dX9_daysWith_7 : decode cX9_daysWith 7 = .ok (.bipush 6, 2) := by decide +kernel
theorem dX9_daysWith_9 : decode cX9_daysWith 9 = .ok (.imul, 1) := by decide +kernel
theorem dX9_daysWith_10 : decode cX9_daysWith 10 = .ok (.iload_n 3, 1) := by decide +kernel
theorem dX9_daysWith_11 : decode cX9_daysWith 11 = .ok (.iadd, 1) := by decide +kernel
theorem dX9_daysWith_12 : decode cX9_daysWith 12 = .ok (.iaload, 1) := by decide +kernel
theorem dX9_daysWith_13 : decode cX9_daysWith 13 = .ok (.aload_n 0, 1) := by decide +kernel
theorem dX9_daysWith_14 : decode cX9_daysWith 14 = .ok (.getfield 31, 3) := by decide +kernel
theorem fl_RX9_31 : Cond.fieldLink RX9 31 RX9 "fewest" "[I" ∈ gW := gW_u tb_2 158 (by rfl) (by decide +kernel)
theorem dX9_daysWith_17 : decode cX9_daysWith 17 = .ok (.iload_n 1, 1) := by decide +kernel
theorem dX9_daysWith_18 : decode cX9_daysWith 18 = .ok (.iconst 1, 1) := by decide +kernel
theorem dX9_daysWith_19 : decode cX9_daysWith 19 = .ok (.iadd, 1) := by decide +kernel
theorem dX9_daysWith_20 : decode cX9_daysWith 20 = .ok (.bipush 64, 2) := by decide +kernel
theorem dX9_daysWith_22 : decode cX9_daysWith 22 = .ok (.imul, 1) := by decide +kernel
theorem dX9_daysWith_23 : decode cX9_daysWith 23 = .ok (.iload_n 2, 1) := by decide +kernel
theorem dX9_daysWith_24 : decode cX9_daysWith 24 = .ok (.iconst 1, 1) := by decide +kernel
theorem dX9_daysWith_25 : decode cX9_daysWith 25 = .ok (.iload_n 3, 1) := by decide +kernel
theorem dX9_daysWith_26 : decode cX9_daysWith 26 = .ok (.ishl, 1) := by decide +kernel
theorem dX9_daysWith_27 : decode cX9_daysWith 27 = .ok (.ixor, 1) := by decide +kernel
theorem dX9_daysWith_28 : decode cX9_daysWith 28 = .ok (.iadd, 1) := by decide +kernel
theorem dX9_daysWith_29 : decode cX9_daysWith 29 = .ok (.iaload, 1) := by decide +kernel
theorem dX9_daysWith_30 : decode cX9_daysWith 30 = .ok (.iadd, 1) := by decide +kernel
theorem dX9_daysWith_31 : decode cX9_daysWith 31 = .ok (.invokestatic 63, 3) := by decide +kernel
theorem lk_RX9_63 : Cond.methodLink RX9 63 Lib.Math.min.name ∈ gW := gW_u tb_5 108 (by rfl) (by decide +kernel)
theorem dX9_daysWith_34 : decode cX9_daysWith 34 = .ok (.ireturn, 1) := by decide +kernel
def yX9_fillRow : MethodName := ⟨RX9, "fillRow", "(II)V"⟩
abbrev cX9_fillRow : ByteArray := prog_11_method_10_code
theorem dX9_fillRow_0 : decode cX9_fillRow 0 = .ok (.iconst 1, 1) := by decide +kernel
theorem dX9_fillRow_1 : decode cX9_fillRow 1 = .ok (.iload_n 2, 1) := by decide +kernel
theorem dX9_fillRow_2 : decode cX9_fillRow 2 = .ok (.ishl, 1) := by decide +kernel
theorem dX9_fillRow_3 : decode cX9_fillRow 3 = .ok (.iconst 1, 1) := by decide +kernel
theorem dX9_fillRow_4 : decode cX9_fillRow 4 = .ok (.isub, 1) := by decide +kernel
theorem dX9_fillRow_5 : decode cX9_fillRow 5 = .ok (.istore_n 3, 1) := by decide +kernel
theorem dX9_fillRow_6 : decode cX9_fillRow 6 = .ok (.iconst 0, 1) := by decide +kernel
theorem dX9_fillRow_7 : decode cX9_fillRow 7 = .ok (.istore 4, 2) := by decide +kernel
theorem dX9_fillRow_9 : decode cX9_fillRow 9 = .ok (.iload 4, 2) := by decide +kernel
theorem dX9_fillRow_11 : decode cX9_fillRow 11 = .ok (.iload_n 1, 1) := by decide +kernel
theorem dX9_fillRow_12 : decode cX9_fillRow 12 = .ok (.if_icmp .ge 112, 3) := by decide +kernel
theorem dX9_fillRow_15 : decode cX9_fillRow 15 = .ok (.iconst (-1), 1) := by decide +kernel
theorem dX9_fillRow_16 : decode cX9_fillRow 16 = .ok (.istore 5, 2) := by decide +kernel
theorem dX9_fillRow_18 : decode cX9_fillRow 18 = .ok (.iconst 0, 1) := by decide +kernel
theorem dX9_fillRow_19 : decode cX9_fillRow 19 = .ok (.istore 6, 2) := by decide +kernel
theorem dX9_fillRow_21 : decode cX9_fillRow 21 = .ok (.iload 6, 2) := by decide +kernel
theorem dX9_fillRow_23 : decode cX9_fillRow 23 = .ok (.iload_n 2, 1) := by decide +kernel
theorem dX9_fillRow_24 : decode cX9_fillRow 24 = .ok (.if_icmp .ge 52, 3) := by decide +kernel
theorem dX9_fillRow_27 : decode cX9_fillRow 27 = .ok (.iload 5, 2) := by decide +kernel
theorem dX9_fillRow_29 : decode cX9_fillRow 29 = .ok (.iconst (-1), 1) := by decide +kernel
theorem dX9_fillRow_30 : decode cX9_fillRow 30 = .ok (.if_icmp .ne 46, 3) := by decide +kernel
theorem dX9_fillRow_33 : decode cX9_fillRow 33 = .ok (.iload_n 3, 1) := by decide +kernel
theorem dX9_fillRow_34 : decode cX9_fillRow 34 = .ok (.iload 6, 2) := by decide +kernel
theorem dX9_fillRow_36 : decode cX9_fillRow 36 = .ok (.ishr, 1) := by decide +kernel
theorem dX9_fillRow_37 : decode cX9_fillRow 37 = .ok (.iconst 1, 1) := by decide +kernel
theorem dX9_fillRow_38 : decode cX9_fillRow 38 = .ok (.iand, 1) := by decide +kernel
theorem dX9_fillRow_39 : decode cX9_fillRow 39 = .ok (.ifCond .eq 31, 3) := by decide +kernel
theorem dX9_fillRow_70 : decode cX9_fillRow 70 = .ok (.iinc 6 1, 3) := by decide +kernel
theorem dX9_fillRow_73 : decode cX9_fillRow 73 = .ok (.goto (-52), 3) := by decide +kernel
theorem dX9_fillRow_42 : decode cX9_fillRow 42 = .ok (.aload_n 0, 1) := by decide +kernel
theorem dX9_fillRow_43 : decode cX9_fillRow 43 = .ok (.iload 4, 2) := by decide +kernel
theorem dX9_fillRow_45 : decode cX9_fillRow 45 = .ok (.iload_n 3, 1) := by decide +kernel
theorem dX9_fillRow_46 : decode cX9_fillRow 46 = .ok (.iload 6, 2) := by decide +kernel
theorem dX9_fillRow_48 : decode cX9_fillRow 48 = .ok (.invokevirtual 116, 3) := by decide +kernel
theorem lk_RX9_116 : Cond.methodLink RX9 116 yX9_daysWith ∈ gW := gW_u tb_5 139 (by rfl) (by decide +kernel)
theorem mI_X9_daysWith : Cond.instanceMethod yX9_daysWith ∈ gW := gW_u tb_5 141 (by rfl) (by decide +kernel)
theorem mS_X9_daysWith : Cond.selects RX9 yX9_daysWith yX9_daysWith ∈ gW := gW_p (q := (yX9_daysWith, 11)) 35 (by decide +kernel)
theorem mC_X9_daysWith : Cond.code yX9_daysWith cX9_daysWith 4 (some .int) ∈ gW := gW_u tb_5 142 (by rfl) (by decide +kernel)
theorem ok_X9_daysWith : okD yX9_daysWith 3 := ⟨by decide +kernel, by decide +kernel, by decide +kernel⟩
theorem dX9_fillRow_51 : decode cX9_fillRow 51 = .ok (.aload_n 0, 1) := by decide +kernel
theorem dX9_fillRow_52 : decode cX9_fillRow 52 = .ok (.getfield 31, 3) := by decide +kernel
theorem dX9_fillRow_55 : decode cX9_fillRow 55 = .ok (.iload 4, 2) := by decide +kernel
theorem dX9_fillRow_57 : decode cX9_fillRow 57 = .ok (.bipush 64, 2) := by decide +kernel
theorem dX9_fillRow_59 : decode cX9_fillRow 59 = .ok (.imul, 1) := by decide +kernel
theorem dX9_fillRow_60 : decode cX9_fillRow 60 = .ok (.iload_n 3, 1) := by decide +kernel
theorem dX9_fillRow_61 : decode cX9_fillRow 61 = .ok (.iadd, 1) := by decide +kernel
theorem dX9_fillRow_62 : decode cX9_fillRow 62 = .ok (.iaload, 1) := by decide +kernel
theorem dX9_fillRow_63 : decode cX9_fillRow 63 = .ok (.if_icmp .ne 7, 3) := by decide +kernel
theorem dX9_fillRow_66 : decode cX9_fillRow 66 = .ok (.iload 6, 2) := by decide +kernel
theorem dX9_fillRow_68 : decode cX9_fillRow 68 = .ok (.istore 5, 2) := by decide +kernel
theorem dX9_fillRow_76 : decode cX9_fillRow 76 = .ok (.aload_n 0, 1) := by decide +kernel
theorem dX9_fillRow_77 : decode cX9_fillRow 77 = .ok (.getfield 34, 3) := by decide +kernel
theorem fl_RX9_34 : Cond.fieldLink RX9 34 RX9 "cellOfShaft" "[I" ∈ gW := gW_u tb_2 159 (by rfl) (by decide +kernel)
theorem dX9_fillRow_80 : decode cX9_fillRow 80 = .ok (.iload 4, 2) := by decide +kernel
theorem dX9_fillRow_82 : decode cX9_fillRow 82 = .ok (.iload 5, 2) := by decide +kernel
theorem dX9_fillRow_84 : decode cX9_fillRow 84 = .ok (.iconst (-1), 1) := by decide +kernel
theorem dX9_fillRow_85 : decode cX9_fillRow 85 = .ok (.if_icmp .ne 8, 3) := by decide +kernel
theorem dX9_fillRow_93 : decode cX9_fillRow 93 = .ok (.aload_n 0, 1) := by decide +kernel
theorem dX9_fillRow_94 : decode cX9_fillRow 94 = .ok (.getfield 25, 3) := by decide +kernel
theorem fl_RX9_25 : Cond.fieldLink RX9 25 RX9 "told" "[I" ∈ gW := gW_u tb_2 156 (by rfl) (by decide +kernel)
theorem dX9_fillRow_97 : decode cX9_fillRow 97 = .ok (.iload 5, 2) := by decide +kernel
theorem dX9_fillRow_99 : decode cX9_fillRow 99 = .ok (.iaload, 1) := by decide +kernel
theorem dX9_fillRow_88 : decode cX9_fillRow 88 = .ok (.bipush 100, 2) := by decide +kernel
theorem dX9_fillRow_90 : decode cX9_fillRow 90 = .ok (.goto 10, 3) := by decide +kernel
theorem dX9_fillRow_100 : decode cX9_fillRow 100 = .ok (.iastore, 1) := by decide +kernel
theorem dX9_fillRow_101 : decode cX9_fillRow 101 = .ok (.iload 5, 2) := by decide +kernel
theorem dX9_fillRow_103 : decode cX9_fillRow 103 = .ok (.iconst (-1), 1) := by decide +kernel
theorem dX9_fillRow_104 : decode cX9_fillRow 104 = .ok (.if_icmp .ne 7, 3) := by decide +kernel
theorem dX9_fillRow_111 : decode cX9_fillRow 111 = .ok (.iload_n 3, 1) := by decide +kernel
theorem dX9_fillRow_112 : decode cX9_fillRow 112 = .ok (.iconst 1, 1) := by decide +kernel
theorem dX9_fillRow_113 : decode cX9_fillRow 113 = .ok (.iload 5, 2) := by decide +kernel
theorem dX9_fillRow_115 : decode cX9_fillRow 115 = .ok (.ishl, 1) := by decide +kernel
theorem dX9_fillRow_116 : decode cX9_fillRow 116 = .ok (.ixor, 1) := by decide +kernel
theorem dX9_fillRow_117 : decode cX9_fillRow 117 = .ok (.istore_n 3, 1) := by decide +kernel
theorem dX9_fillRow_118 : decode cX9_fillRow 118 = .ok (.iinc 4 1, 3) := by decide +kernel
theorem dX9_fillRow_121 : decode cX9_fillRow 121 = .ok (.goto (-112), 3) := by decide +kernel
theorem dX9_fillRow_107 : decode cX9_fillRow 107 = .ok (.iload_n 3, 1) := by decide +kernel
theorem dX9_fillRow_108 : decode cX9_fillRow 108 = .ok (.goto 9, 3) := by decide +kernel
theorem dX9_fillRow_124 : decode cX9_fillRow 124 = .ok (.return_, 1) := by decide +kernel
def yX10_lawOf : MethodName := ⟨RX10, "lawOf", "(I)LListenWells$Text;"⟩
abbrev cX10_lawOf : ByteArray := prog_12_method_4_code
theorem dX10_lawOf_0 : decode cX10_lawOf 0 = .ok (.iload_n 1, 1) := by decide +kernel
theorem dX10_lawOf_1 : decode cX10_lawOf 1 = .ok (.ifCond .lt 26, 3) := by decide +kernel
theorem dX10_lawOf_27 : decode cX10_lawOf 27 = .ok (.aconst_null, 1) := by decide +kernel
theorem dX10_lawOf_28 : decode cX10_lawOf 28 = .ok (.areturn, 1) := by decide +kernel
theorem dX10_lawOf_4 : decode cX10_lawOf 4 = .ok (.iload_n 1, 1) := by decide +kernel
theorem dX10_lawOf_5 : decode cX10_lawOf 5 = .ok (.aload_n 0, 1) := by decide +kernel
theorem dX10_lawOf_6 : decode cX10_lawOf 6 = .ok (.getfield 46, 3) := by decide +kernel
theorem dX10_lawOf_9 : decode cX10_lawOf 9 = .ok (.if_icmp .ge 18, 3) := by decide +kernel
theorem dX10_lawOf_12 : decode cX10_lawOf 12 = .ok (.iload_n 1, 1) := by decide +kernel
theorem dX10_lawOf_13 : decode cX10_lawOf 13 = .ok (.bipush 6, 2) := by decide +kernel
theorem dX10_lawOf_15 : decode cX10_lawOf 15 = .ok (.if_icmp .ge 12, 3) := by decide +kernel
theorem dX10_lawOf_18 : decode cX10_lawOf 18 = .ok (.aload_n 0, 1) := by decide +kernel
theorem dX10_lawOf_19 : decode cX10_lawOf 19 = .ok (.getfield 38, 3) := by decide +kernel
theorem fl_RX10_38 : Cond.fieldLink RX10 38 RX10 "laws" "[LListenWells$Text;" ∈ gW := gW_u tb_1 232 (by rfl) (by decide +kernel)
theorem dX10_lawOf_22 : decode cX10_lawOf 22 = .ok (.iload_n 1, 1) := by decide +kernel
theorem dX10_lawOf_23 : decode cX10_lawOf 23 = .ok (.aaload, 1) := by decide +kernel
theorem dX10_lawOf_24 : decode cX10_lawOf 24 = .ok (.goto 4, 3) := by decide +kernel
