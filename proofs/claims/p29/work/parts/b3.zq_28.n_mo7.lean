def yX12_loud : MethodName := ⟨RX12, "loud", "(II)I"⟩
abbrev cX12_loud : ByteArray := prog_14_method_80_code
theorem dX12_loud_0 : decode cX12_loud 0 = .ok (.aload_n 0, 1) := by decide +kernel
theorem dX12_loud_1 : decode cX12_loud 1 = .ok (.iconst 0, 1) := by decide +kernel
theorem dX12_loud_2 : decode cX12_loud 2 = .ok (.putfield 156, 3) := by decide +kernel
theorem dX12_loud_5 : decode cX12_loud 5 = .ok (.iload_n 1, 1) := by decide +kernel
theorem dX12_loud_6 : decode cX12_loud 6 = .ok (.invokestatic 197, 3) := by decide +kernel
theorem dX12_loud_9 : decode cX12_loud 9 = .ok (.ifCond .eq 28, 3) := by decide +kernel
theorem dX12_loud_37 : decode cX12_loud 37 = .ok (.ldc_w 460, 3) := by decide +kernel
theorem ct_RX12_460 : Cond.constant RX12 460 (-100000) ∈ gW := gW_u tb_8 105 (by rfl) (by decide +kernel)
theorem dX12_loud_40 : decode cX12_loud 40 = .ok (.ireturn, 1) := by decide +kernel
theorem dX12_loud_12 : decode cX12_loud 12 = .ok (.iload_n 2, 1) := by decide +kernel
theorem dX12_loud_13 : decode cX12_loud 13 = .ok (.invokestatic 218, 3) := by decide +kernel
theorem dX12_loud_16 : decode cX12_loud 16 = .ok (.ifCond .eq 21, 3) := by decide +kernel
theorem dX12_loud_19 : decode cX12_loud 19 = .ok (.aload_n 0, 1) := by decide +kernel
theorem dX12_loud_20 : decode cX12_loud 20 = .ok (.iload_n 1, 1) := by decide +kernel
theorem dX12_loud_21 : decode cX12_loud 21 = .ok (.aload_n 0, 1) := by decide +kernel
theorem dX12_loud_22 : decode cX12_loud 22 = .ok (.getfield 13, 3) := by decide +kernel
theorem dX12_loud_25 : decode cX12_loud 25 = .ok (.bipush 113, 2) := by decide +kernel
theorem dX12_loud_27 : decode cX12_loud 27 = .ok (.iload_n 1, 1) := by decide +kernel
theorem dX12_loud_28 : decode cX12_loud 28 = .ok (.iadd, 1) := by decide +kernel
theorem dX12_loud_29 : decode cX12_loud 29 = .ok (.iaload, 1) := by decide +kernel
theorem dX12_loud_30 : decode cX12_loud 30 = .ok (.iload_n 2, 1) := by decide +kernel
theorem dX12_loud_31 : decode cX12_loud 31 = .ok (.invokevirtual 456, 3) := by decide +kernel
theorem lk_RX12_456 : Cond.methodLink RX12 456 yX12_loudAs ∈ gW := gW_u tb_8 101 (by rfl) (by decide +kernel)
theorem mI_X12_loudAs : Cond.instanceMethod yX12_loudAs ∈ gW := gW_u tb_8 103 (by rfl) (by decide +kernel)
theorem mS_X12_loudAs : Cond.selects RX12 yX12_loudAs yX12_loudAs ∈ gW := gW_p (q := (yX12_loudAs, 59)) 87 (by decide +kernel)
theorem mC_X12_loudAs : Cond.code yX12_loudAs cX12_loudAs 5 (some .int) ∈ gW := gW_u tb_8 104 (by rfl) (by decide +kernel)
theorem ok_X12_loudAs : okD yX12_loudAs 3 := ⟨by decide +kernel, by decide +kernel, by decide +kernel⟩
theorem dX12_loud_34 : decode cX12_loud 34 = .ok (.goto 6, 3) := by decide +kernel
def yX12_dinBut : MethodName := ⟨RX12, "dinBut", "(II)I"⟩
abbrev cX12_dinBut : ByteArray := prog_14_method_81_code
theorem dX12_dinBut_0 : decode cX12_dinBut 0 = .ok (.iconst 0, 1) := by decide +kernel
theorem dX12_dinBut_1 : decode cX12_dinBut 1 = .ok (.istore_n 3, 1) := by decide +kernel
theorem dX12_dinBut_2 : decode cX12_dinBut 2 = .ok (.iconst 0, 1) := by decide +kernel
theorem dX12_dinBut_3 : decode cX12_dinBut 3 = .ok (.istore 4, 2) := by decide +kernel
theorem dX12_dinBut_5 : decode cX12_dinBut 5 = .ok (.iload 4, 2) := by decide +kernel
theorem dX12_dinBut_7 : decode cX12_dinBut 7 = .ok (.aload_n 0, 1) := by decide +kernel
theorem dX12_dinBut_8 : decode cX12_dinBut 8 = .ok (.getfield 13, 3) := by decide +kernel
theorem dX12_dinBut_11 : decode cX12_dinBut 11 = .ok (.iconst 2, 1) := by decide +kernel
theorem dX12_dinBut_12 : decode cX12_dinBut 12 = .ok (.iaload, 1) := by decide +kernel
theorem dX12_dinBut_13 : decode cX12_dinBut 13 = .ok (.if_icmp .ge 76, 3) := by decide +kernel
theorem dX12_dinBut_16 : decode cX12_dinBut 16 = .ok (.aload_n 0, 1) := by decide +kernel
theorem dX12_dinBut_17 : decode cX12_dinBut 17 = .ok (.getfield 13, 3) := by decide +kernel
theorem dX12_dinBut_20 : decode cX12_dinBut 20 = .ok (.sipush 204, 3) := by decide +kernel
theorem dX12_dinBut_23 : decode cX12_dinBut 23 = .ok (.iload 4, 2) := by decide +kernel
theorem dX12_dinBut_25 : decode cX12_dinBut 25 = .ok (.iadd, 1) := by decide +kernel
theorem dX12_dinBut_26 : decode cX12_dinBut 26 = .ok (.iaload, 1) := by decide +kernel
theorem dX12_dinBut_27 : decode cX12_dinBut 27 = .ok (.aload_n 0, 1) := by decide +kernel
theorem dX12_dinBut_28 : decode cX12_dinBut 28 = .ok (.getfield 13, 3) := by decide +kernel
theorem dX12_dinBut_31 : decode cX12_dinBut 31 = .ok (.sipush 198, 3) := by decide +kernel
theorem dX12_dinBut_34 : decode cX12_dinBut 34 = .ok (.iload 4, 2) := by decide +kernel
theorem dX12_dinBut_36 : decode cX12_dinBut 36 = .ok (.iadd, 1) := by decide +kernel
theorem dX12_dinBut_37 : decode cX12_dinBut 37 = .ok (.iaload, 1) := by decide +kernel
theorem dX12_dinBut_38 : decode cX12_dinBut 38 = .ok (.iload_n 1, 1) := by decide +kernel
theorem dX12_dinBut_39 : decode cX12_dinBut 39 = .ok (.invokestatic 453, 3) := by decide +kernel
theorem dX12_dinBut_42 : decode cX12_dinBut 42 = .ok (.isub, 1) := by decide +kernel
theorem dX12_dinBut_43 : decode cX12_dinBut 43 = .ok (.istore 5, 2) := by decide +kernel
theorem dX12_dinBut_45 : decode cX12_dinBut 45 = .ok (.iload_n 3, 1) := by decide +kernel
theorem dX12_dinBut_46 : decode cX12_dinBut 46 = .ok (.aload_n 0, 1) := by decide +kernel
theorem dX12_dinBut_47 : decode cX12_dinBut 47 = .ok (.getfield 13, 3) := by decide +kernel
theorem dX12_dinBut_50 : decode cX12_dinBut 50 = .ok (.bipush 22, 2) := by decide +kernel
theorem dX12_dinBut_52 : decode cX12_dinBut 52 = .ok (.iload 4, 2) := by decide +kernel
theorem dX12_dinBut_54 : decode cX12_dinBut 54 = .ok (.iadd, 1) := by decide +kernel
theorem dX12_dinBut_55 : decode cX12_dinBut 55 = .ok (.iaload, 1) := by decide +kernel
theorem dX12_dinBut_56 : decode cX12_dinBut 56 = .ok (.iconst 1, 1) := by decide +kernel
theorem dX12_dinBut_57 : decode cX12_dinBut 57 = .ok (.if_icmp .eq 18, 3) := by decide +kernel
theorem dX12_dinBut_75 : decode cX12_dinBut 75 = .ok (.iconst 0, 1) := by decide +kernel
theorem dX12_dinBut_76 : decode cX12_dinBut 76 = .ok (.goto 5, 3) := by decide +kernel
theorem dX12_dinBut_81 : decode cX12_dinBut 81 = .ok (.iadd, 1) := by decide +kernel
theorem dX12_dinBut_82 : decode cX12_dinBut 82 = .ok (.istore_n 3, 1) := by decide +kernel
theorem dX12_dinBut_83 : decode cX12_dinBut 83 = .ok (.iinc 4 1, 3) := by decide +kernel
theorem dX12_dinBut_86 : decode cX12_dinBut 86 = .ok (.goto (-81), 3) := by decide +kernel
theorem dX12_dinBut_60 : decode cX12_dinBut 60 = .ok (.iload_n 2, 1) := by decide +kernel
theorem dX12_dinBut_61 : decode cX12_dinBut 61 = .ok (.i2l, 1) := by decide +kernel
theorem dX12_dinBut_62 : decode cX12_dinBut 62 = .ok (.iload 4, 2) := by decide +kernel
theorem dX12_dinBut_64 : decode cX12_dinBut 64 = .ok (.invokestatic 159, 3) := by decide +kernel
theorem dX12_dinBut_67 : decode cX12_dinBut 67 = .ok (.ifCond .ne 8, 3) := by decide +kernel
theorem dX12_dinBut_70 : decode cX12_dinBut 70 = .ok (.iload 5, 2) := by decide +kernel
theorem dX12_dinBut_72 : decode cX12_dinBut 72 = .ok (.ifCond .ge 7, 3) := by decide +kernel
theorem dX12_dinBut_79 : decode cX12_dinBut 79 = .ok (.iload 5, 2) := by decide +kernel
theorem dX12_dinBut_89 : decode cX12_dinBut 89 = .ok (.iload_n 3, 1) := by decide +kernel
theorem dX12_dinBut_90 : decode cX12_dinBut 90 = .ok (.ireturn, 1) := by decide +kernel
def yX12_din : MethodName := ⟨RX12, "din", "(I)I"⟩
abbrev cX12_din : ByteArray := prog_14_method_82_code
theorem dX12_din_0 : decode cX12_din 0 = .ok (.aload_n 0, 1) := by decide +kernel
theorem dX12_din_1 : decode cX12_din 1 = .ok (.iconst 0, 1) := by decide +kernel
theorem dX12_din_2 : decode cX12_din 2 = .ok (.putfield 156, 3) := by decide +kernel
theorem dX12_din_5 : decode cX12_din 5 = .ok (.iload_n 1, 1) := by decide +kernel
theorem dX12_din_6 : decode cX12_din 6 = .ok (.invokestatic 218, 3) := by decide +kernel
theorem dX12_din_9 : decode cX12_din 9 = .ok (.ifCond .eq 12, 3) := by decide +kernel
theorem dX12_din_21 : decode cX12_din 21 = .ok (.iconst (-1), 1) := by decide +kernel
theorem dX12_din_22 : decode cX12_din 22 = .ok (.ireturn, 1) := by decide +kernel
theorem dX12_din_12 : decode cX12_din 12 = .ok (.aload_n 0, 1) := by decide +kernel
theorem dX12_din_13 : decode cX12_din 13 = .ok (.iload_n 1, 1) := by decide +kernel
theorem dX12_din_14 : decode cX12_din 14 = .ok (.iconst 0, 1) := by decide +kernel
theorem dX12_din_15 : decode cX12_din 15 = .ok (.invokevirtual 461, 3) := by decide +kernel
theorem lk_RX12_461 : Cond.methodLink RX12 461 yX12_dinBut ∈ gW := gW_u tb_8 110 (by rfl) (by decide +kernel)
theorem mI_X12_dinBut : Cond.instanceMethod yX12_dinBut ∈ gW := gW_u tb_8 112 (by rfl) (by decide +kernel)
theorem mS_X12_dinBut : Cond.selects RX12 yX12_dinBut yX12_dinBut ∈ gW := gW_p (q := (yX12_dinBut, 59)) 88 (by decide +kernel)
theorem mC_X12_dinBut : Cond.code yX12_dinBut cX12_dinBut 6 (some .int) ∈ gW := gW_u tb_8 113 (by rfl) (by decide +kernel)
theorem ok_X12_dinBut : okD yX12_dinBut 2 := ⟨by decide +kernel, by decide +kernel, by decide +kernel⟩
theorem dX12_din_18 : decode cX12_din 18 = .ok (.goto 4, 3) := by decide +kernel
def yX12_canHear : MethodName := ⟨RX12, "canHear", "(III)Z"⟩
abbrev cX12_canHear : ByteArray := prog_14_method_83_code
theorem dX12_canHear_0 : decode cX12_canHear 0 = .ok (.aload_n 0, 1) := by decide +kernel
theorem dX12_canHear_1 : decode cX12_canHear 1 = .ok (.getfield 13, 3) := by decide +kernel
theorem dX12_canHear_4 : decode cX12_canHear 4 = .ok (.bipush 28, 2) := by decide +kernel
theorem dX12_canHear_6 : decode cX12_canHear 6 = .ok (.iload_n 1, 1) := by decide +kernel
theorem dX12_canHear_7 : decode cX12_canHear 7 = .ok (.iadd, 1) := by decide +kernel
theorem dX12_canHear_8 : decode cX12_canHear 8 = .ok (.iaload, 1) := by decide +kernel
theorem dX12_canHear_9 : decode cX12_canHear 9 = .ok (.istore 4, 2) := by decide +kernel
theorem dX12_canHear_11 : decode cX12_canHear 11 = .ok (.aload_n 0, 1) := by decide +kernel
theorem dX12_canHear_12 : decode cX12_canHear 12 = .ok (.iload_n 2, 1) := by decide +kernel
theorem dX12_canHear_13 : decode cX12_canHear 13 = .ok (.iconst 3, 1) := by decide +kernel
theorem dX12_canHear_14 : decode cX12_canHear 14 = .ok (.iload 4, 2) := by decide +kernel
theorem dX12_canHear_16 : decode cX12_canHear 16 = .ok (.invokevirtual 456, 3) := by decide +kernel
theorem dX12_canHear_19 : decode cX12_canHear 19 = .ok (.aload_n 0, 1) := by decide +kernel
theorem dX12_canHear_20 : decode cX12_canHear 20 = .ok (.getfield 13, 3) := by decide +kernel
theorem dX12_canHear_23 : decode cX12_canHear 23 = .ok (.sipush 193, 3) := by decide +kernel
theorem dX12_canHear_26 : decode cX12_canHear 26 = .ok (.iload_n 1, 1) := by decide +kernel
theorem dX12_canHear_27 : decode cX12_canHear 27 = .ok (.iadd, 1) := by decide +kernel
theorem dX12_canHear_28 : decode cX12_canHear 28 = .ok (.iaload, 1) := by decide +kernel
theorem dX12_canHear_29 : decode cX12_canHear 29 = .ok (.iadd, 1) := by decide +kernel
theorem dX12_canHear_30 : decode cX12_canHear 30 = .ok (.aload_n 0, 1) := by decide +kernel
theorem dX12_canHear_31 : decode cX12_canHear 31 = .ok (.iload 4, 2) := by decide +kernel
theorem dX12_canHear_33 : decode cX12_canHear 33 = .ok (.iload_n 3, 1) := by decide +kernel
theorem dX12_canHear_34 : decode cX12_canHear 34 = .ok (.invokevirtual 461, 3) := by decide +kernel
theorem dX12_canHear_37 : decode cX12_canHear 37 = .ok (.if_icmp .le 7, 3) := by decide +kernel
theorem dX12_canHear_44 : decode cX12_canHear 44 = .ok (.iconst 0, 1) := by decide +kernel
theorem dX12_canHear_45 : decode cX12_canHear 45 = .ok (.ireturn, 1) := by decide +kernel
theorem dX12_canHear_40 : decode cX12_canHear 40 = .ok (.iconst 1, 1) := by decide +kernel
theorem dX12_canHear_41 : decode cX12_canHear 41 = .ok (.goto 4, 3) := by decide +kernel
def yX12_heardBy : MethodName := ⟨RX12, "heardBy", "(I)J"⟩
abbrev cX12_heardBy : ByteArray := prog_14_method_84_code
theorem dX12_heardBy_0 : decode cX12_heardBy 0 = .ok (.lconst 0, 1) := by decide +kernel
theorem dX12_heardBy_1 : decode cX12_heardBy 1 = .ok (.lstore_n 2, 1) := by decide +kernel
theorem dX12_heardBy_2 : decode cX12_heardBy 2 = .ok (.iconst 0, 1) := by decide +kernel
theorem dX12_heardBy_3 : decode cX12_heardBy 3 = .ok (.istore 4, 2) := by decide +kernel
theorem dX12_heardBy_5 : decode cX12_heardBy 5 = .ok (.iload 4, 2) := by decide +kernel
theorem dX12_heardBy_7 : decode cX12_heardBy 7 = .ok (.bipush 40, 2) := by decide +kernel
theorem dX12_heardBy_9 : decode cX12_heardBy 9 = .ok (.if_icmp .ge 45, 3) := by decide +kernel
theorem dX12_heardBy_12 : decode cX12_heardBy 12 = .ok (.lload_n 2, 1) := by decide +kernel
theorem dX12_heardBy_13 : decode cX12_heardBy 13 = .ok (.aload_n 0, 1) := by decide +kernel
theorem dX12_heardBy_14 : decode cX12_heardBy 14 = .ok (.getfield 13, 3) := by decide +kernel
theorem dX12_heardBy_17 : decode cX12_heardBy 17 = .ok (.bipush 113, 2) := by decide +kernel
theorem dX12_heardBy_19 : decode cX12_heardBy 19 = .ok (.iload 4, 2) := by decide +kernel
theorem dX12_heardBy_21 : decode cX12_heardBy 21 = .ok (.iadd, 1) := by decide +kernel
theorem dX12_heardBy_22 : decode cX12_heardBy 22 = .ok (.iaload, 1) := by decide +kernel
theorem dX12_heardBy_23 : decode cX12_heardBy 23 = .ok (.iconst 3, 1) := by decide +kernel
theorem dX12_heardBy_24 : decode cX12_heardBy 24 = .ok (.if_icmp .ne 21, 3) := by decide +kernel
theorem dX12_heardBy_45 : decode cX12_heardBy 45 = .ok (.lconst 0, 1) := by decide +kernel
theorem dX12_heardBy_46 : decode cX12_heardBy 46 = .ok (.lor, 1) := by decide +kernel
theorem dX12_heardBy_47 : decode cX12_heardBy 47 = .ok (.lstore_n 2, 1) := by decide +kernel
theorem dX12_heardBy_48 : decode cX12_heardBy 48 = .ok (.iinc 4 1, 3) := by decide +kernel
theorem dX12_heardBy_51 : decode cX12_heardBy 51 = .ok (.goto (-46), 3) := by decide +kernel
theorem dX12_heardBy_27 : decode cX12_heardBy 27 = .ok (.aload_n 0, 1) := by decide +kernel
theorem dX12_heardBy_28 : decode cX12_heardBy 28 = .ok (.iload_n 1, 1) := by decide +kernel
theorem dX12_heardBy_29 : decode cX12_heardBy 29 = .ok (.iload 4, 2) := by decide +kernel
theorem dX12_heardBy_31 : decode cX12_heardBy 31 = .ok (.iconst 0, 1) := by decide +kernel
theorem dX12_heardBy_32 : decode cX12_heardBy 32 = .ok (.invokevirtual 464, 3) := by decide +kernel
theorem lk_RX12_464 : Cond.methodLink RX12 464 yX12_canHear ∈ gW := gW_u tb_8 122 (by rfl) (by decide +kernel)
theorem mI_X12_canHear : Cond.instanceMethod yX12_canHear ∈ gW := gW_u tb_8 124 (by rfl) (by decide +kernel)
theorem mS_X12_canHear : Cond.selects RX12 yX12_canHear yX12_canHear ∈ gW := gW_p (q := (yX12_canHear, 59)) 90 (by decide +kernel)
theorem mC_X12_canHear : Cond.code yX12_canHear cX12_canHear 5 (some .boolean) ∈ gW := gW_u tb_8 125 (by rfl) (by decide +kernel)
theorem ok_X12_canHear : okD yX12_canHear 3 := ⟨by decide +kernel, by decide +kernel, by decide +kernel⟩
theorem dX12_heardBy_35 : decode cX12_heardBy 35 = .ok (.ifCond .eq 10, 3) := by decide +kernel
theorem dX12_heardBy_38 : decode cX12_heardBy 38 = .ok (.lconst 1, 1) := by decide +kernel
theorem dX12_heardBy_39 : decode cX12_heardBy 39 = .ok (.iload 4, 2) := by decide +kernel
theorem dX12_heardBy_41 : decode cX12_heardBy 41 = .ok (.lshl, 1) := by decide +kernel
theorem dX12_heardBy_42 : decode cX12_heardBy 42 = .ok (.goto 4, 3) := by decide +kernel
theorem dX12_heardBy_54 : decode cX12_heardBy 54 = .ok (.lload_n 2, 1) := by decide +kernel
theorem dX12_heardBy_55 : decode cX12_heardBy 55 = .ok (.lreturn, 1) := by decide +kernel
def yX12_hears : MethodName := ⟨RX12, "hears", "(I)J"⟩
abbrev cX12_hears : ByteArray := prog_14_method_85_code
theorem dX12_hears_0 : decode cX12_hears 0 = .ok (.aload_n 0, 1) := by decide +kernel
theorem dX12_hears_1 : decode cX12_hears 1 = .ok (.iconst 0, 1) := by decide +kernel
theorem dX12_hears_2 : decode cX12_hears 2 = .ok (.putfield 156, 3) := by decide +kernel
theorem dX12_hears_5 : decode cX12_hears 5 = .ok (.aload_n 0, 1) := by decide +kernel
theorem dX12_hears_6 : decode cX12_hears 6 = .ok (.iload_n 1, 1) := by decide +kernel
theorem dX12_hears_7 : decode cX12_hears 7 = .ok (.invokevirtual 237, 3) := by decide +kernel
theorem dX12_hears_10 : decode cX12_hears 10 = .ok (.ifCond .eq 11, 3) := by decide +kernel
theorem dX12_hears_21 : decode cX12_hears 21 = .ok (.ldc2_w 286, 3) := by decide +kernel
theorem dX12_hears_24 : decode cX12_hears 24 = .ok (.lreturn, 1) := by decide +kernel
theorem dX12_hears_13 : decode cX12_hears 13 = .ok (.aload_n 0, 1) := by decide +kernel
theorem dX12_hears_14 : decode cX12_hears 14 = .ok (.iload_n 1, 1) := by decide +kernel
theorem dX12_hears_15 : decode cX12_hears 15 = .ok (.invokevirtual 468, 3) := by decide +kernel
theorem lk_RX12_468 : Cond.methodLink RX12 468 yX12_heardBy ∈ gW := gW_u tb_8 118 (by rfl) (by decide +kernel)
theorem mI_X12_heardBy : Cond.instanceMethod yX12_heardBy ∈ gW := gW_u tb_8 120 (by rfl) (by decide +kernel)
theorem mS_X12_heardBy : Cond.selects RX12 yX12_heardBy yX12_heardBy ∈ gW := gW_p (q := (yX12_heardBy, 59)) 89 (by decide +kernel)
theorem mC_X12_heardBy : Cond.code yX12_heardBy cX12_heardBy 5 (some .long) ∈ gW := gW_u tb_8 121 (by rfl) (by decide +kernel)
theorem ok_X12_heardBy : okD yX12_heardBy 1 := ⟨by decide +kernel, by decide +kernel, by decide +kernel⟩
theorem dX12_hears_18 : decode cX12_hears 18 = .ok (.goto 6, 3) := by decide +kernel
def yX12_cellBy : MethodName := ⟨RX12, "cellBy", "(II)I"⟩
abbrev cX12_cellBy : ByteArray := prog_14_method_86_code
theorem dX12_cellBy_0 : decode cX12_cellBy 0 = .ok (.iload_n 0, 1) := by decide +kernel
theorem dX12_cellBy_1 : decode cX12_cellBy 1 = .ok (.bipush 8, 2) := by decide +kernel
theorem dX12_cellBy_3 : decode cX12_cellBy 3 = .ok (.irem, 1) := by decide +kernel
theorem dX12_cellBy_4 : decode cX12_cellBy 4 = .ok (.iload_n 1, 1) := by decide +kernel
theorem dX12_cellBy_5 : decode cX12_cellBy 5 = .ok (.iadd, 1) := by decide +kernel
theorem dX12_cellBy_6 : decode cX12_cellBy 6 = .ok (.iconst 1, 1) := by decide +kernel
theorem dX12_cellBy_7 : decode cX12_cellBy 7 = .ok (.isub, 1) := by decide +kernel
theorem dX12_cellBy_8 : decode cX12_cellBy 8 = .ok (.istore_n 2, 1) := by decide +kernel
theorem dX12_cellBy_9 : decode cX12_cellBy 9 = .ok (.iload_n 1, 1) := by decide +kernel
theorem dX12_cellBy_10 : decode cX12_cellBy 10 = .ok (.iconst 1, 1) := by decide +kernel
theorem dX12_cellBy_11 : decode cX12_cellBy 11 = .ok (.if_icmp .ne 23, 3) := by decide +kernel
theorem dX12_cellBy_34 : decode cX12_cellBy 34 = .ok (.iload_n 2, 1) := by decide +kernel
theorem dX12_cellBy_35 : decode cX12_cellBy 35 = .ok (.invokestatic 218, 3) := by decide +kernel
theorem dX12_cellBy_38 : decode cX12_cellBy 38 = .ok (.ifCond .eq 11, 3) := by decide +kernel
theorem dX12_cellBy_49 : decode cX12_cellBy 49 = .ok (.iconst (-1), 1) := by decide +kernel
theorem dX12_cellBy_50 : decode cX12_cellBy 50 = .ok (.ireturn, 1) := by decide +kernel
theorem dX12_cellBy_41 : decode cX12_cellBy 41 = .ok (.iload_n 0, 1) := by decide +kernel
theorem dX12_cellBy_42 : decode cX12_cellBy 42 = .ok (.iload_n 1, 1) := by decide +kernel
theorem dX12_cellBy_43 : decode cX12_cellBy 43 = .ok (.iadd, 1) := by decide +kernel
theorem dX12_cellBy_44 : decode cX12_cellBy 44 = .ok (.iconst 1, 1) := by decide +kernel
theorem dX12_cellBy_45 : decode cX12_cellBy 45 = .ok (.isub, 1) := by decide +kernel
theorem dX12_cellBy_46 : decode cX12_cellBy 46 = .ok (.goto 4, 3) := by decide +kernel
theorem dX12_cellBy_14 : decode cX12_cellBy 14 = .ok (.iload_n 0, 1) := by decide +kernel
theorem dX12_cellBy_15 : decode cX12_cellBy 15 = .ok (.bipush 8, 2) := by decide +kernel
theorem dX12_cellBy_17 : decode cX12_cellBy 17 = .ok (.iadd, 1) := by decide +kernel
theorem dX12_cellBy_18 : decode cX12_cellBy 18 = .ok (.bipush 40, 2) := by decide +kernel
theorem dX12_cellBy_20 : decode cX12_cellBy 20 = .ok (.if_icmp .ge 10, 3) := by decide +kernel
theorem dX12_cellBy_30 : decode cX12_cellBy 30 = .ok (.iconst (-1), 1) := by decide +kernel
theorem dX12_cellBy_31 : decode cX12_cellBy 31 = .ok (.goto 19, 3) := by decide +kernel
theorem dX12_cellBy_23 : decode cX12_cellBy 23 = .ok (.iload_n 0, 1) := by decide +kernel
theorem dX12_cellBy_24 : decode cX12_cellBy 24 = .ok (.bipush 8, 2) := by decide +kernel
theorem dX12_cellBy_26 : decode cX12_cellBy 26 = .ok (.iadd, 1) := by decide +kernel
theorem dX12_cellBy_27 : decode cX12_cellBy 27 = .ok (.goto 23, 3) := by decide +kernel
def yX12_mayDig : MethodName := ⟨RX12, "mayDig", "(I)Z"⟩
abbrev cX12_mayDig : ByteArray := prog_14_method_87_code
theorem dX12_mayDig_0 : decode cX12_mayDig 0 = .ok (.aload_n 0, 1) := by decide +kernel
theorem dX12_mayDig_1 : decode cX12_mayDig 1 = .ok (.iload_n 1, 1) := by decide +kernel
theorem dX12_mayDig_2 : decode cX12_mayDig 2 = .ok (.invokevirtual 224, 3) := by decide +kernel
theorem lk_RX12_224 : Cond.methodLink RX12 224 yX12_isSpoilt ∈ gW := gW_u tb_7 115 (by rfl) (by decide +kernel)
theorem mI_X12_isSpoilt : Cond.instanceMethod yX12_isSpoilt ∈ gW := gW_u tb_7 117 (by rfl) (by decide +kernel)
theorem mS_X12_isSpoilt : Cond.selects RX12 yX12_isSpoilt yX12_isSpoilt ∈ gW := gW_p (q := (yX12_isSpoilt, 59)) 52 (by decide +kernel)
theorem mC_X12_isSpoilt : Cond.code yX12_isSpoilt cX12_isSpoilt 2 (some .boolean) ∈ gW := gW_u tb_7 118 (by rfl) (by decide +kernel)
theorem ok_X12_isSpoilt : okD yX12_isSpoilt 1 := ⟨by decide +kernel, by decide +kernel, by decide +kernel⟩
theorem dX12_mayDig_5 : decode cX12_mayDig 5 = .ok (.ifCond .ne 15, 3) := by decide +kernel
theorem dX12_mayDig_20 : decode cX12_mayDig 20 = .ok (.iconst 0, 1) := by decide +kernel
theorem dX12_mayDig_21 : decode cX12_mayDig 21 = .ok (.ireturn, 1) := by decide +kernel
theorem dX12_mayDig_8 : decode cX12_mayDig 8 = .ok (.aload_n 0, 1) := by decide +kernel
theorem dX12_mayDig_9 : decode cX12_mayDig 9 = .ok (.iload_n 1, 1) := by decide +kernel
theorem dX12_mayDig_10 : decode cX12_mayDig 10 = .ok (.invokevirtual 227, 3) := by decide +kernel
theorem lk_RX12_227 : Cond.methodLink RX12 227 yX12_hasFound ∈ gW := gW_u tb_7 119 (by rfl) (by decide +kernel)
theorem mI_X12_hasFound : Cond.instanceMethod yX12_hasFound ∈ gW := gW_u tb_7 121 (by rfl) (by decide +kernel)
theorem mS_X12_hasFound : Cond.selects RX12 yX12_hasFound yX12_hasFound ∈ gW := gW_p (q := (yX12_hasFound, 59)) 53 (by decide +kernel)
theorem mC_X12_hasFound : Cond.code yX12_hasFound cX12_hasFound 2 (some .boolean) ∈ gW := gW_u tb_7 122 (by rfl) (by decide +kernel)
theorem ok_X12_hasFound : okD yX12_hasFound 1 := ⟨by decide +kernel, by decide +kernel, by decide +kernel⟩
theorem dX12_mayDig_13 : decode cX12_mayDig 13 = .ok (.ifCond .ne 7, 3) := by decide +kernel
theorem dX12_mayDig_16 : decode cX12_mayDig 16 = .ok (.iconst 1, 1) := by decide +kernel
theorem dX12_mayDig_17 : decode cX12_mayDig 17 = .ok (.goto 4, 3) := by decide +kernel
def yX12_canDig : MethodName := ⟨RX12, "canDig", "(II)Z"⟩
abbrev cX12_canDig : ByteArray := prog_14_method_88_code
theorem dX12_canDig_0 : decode cX12_canDig 0 = .ok (.aload_n 0, 1) := by decide +kernel
theorem dX12_canDig_1 : decode cX12_canDig 1 = .ok (.getfield 13, 3) := by decide +kernel
theorem dX12_canDig_4 : decode cX12_canDig 4 = .ok (.bipush 10, 2) := by decide +kernel
theorem dX12_canDig_6 : decode cX12_canDig 6 = .ok (.iload_n 1, 1) := by decide +kernel
theorem dX12_canDig_7 : decode cX12_canDig 7 = .ok (.iadd, 1) := by decide +kernel
theorem dX12_canDig_8 : decode cX12_canDig 8 = .ok (.iaload, 1) := by decide +kernel
theorem dX12_canDig_9 : decode cX12_canDig 9 = .ok (.iload_n 2, 1) := by decide +kernel
theorem dX12_canDig_10 : decode cX12_canDig 10 = .ok (.invokestatic 472, 3) := by decide +kernel
theorem lk_RX12_472 : Cond.methodLink RX12 472 yX12_cellBy ∈ gW := gW_u tb_8 138 (by rfl) (by decide +kernel)
theorem mT_X12_cellBy : Cond.static yX12_cellBy ∈ gW := gW_u tb_8 139 (by rfl) (by decide +kernel)
theorem mC_X12_cellBy : Cond.code yX12_cellBy cX12_cellBy 3 (some .int) ∈ gW := gW_u tb_8 140 (by rfl) (by decide +kernel)
theorem ok_X12_cellBy : okD yX12_cellBy 2 := ⟨by decide +kernel, by decide +kernel, by decide +kernel⟩
theorem dX12_canDig_13 : decode cX12_canDig 13 = .ok (.istore_n 3, 1) := by decide +kernel
theorem dX12_canDig_14 : decode cX12_canDig 14 = .ok (.aload_n 0, 1) := by decide +kernel
theorem dX12_canDig_15 : decode cX12_canDig 15 = .ok (.iload_n 1, 1) := by decide +kernel
theorem dX12_canDig_16 : decode cX12_canDig 16 = .ok (.invokevirtual 475, 3) := by decide +kernel
theorem lk_RX12_475 : Cond.methodLink RX12 475 yX12_mayDig ∈ gW := gW_u tb_8 141 (by rfl) (by decide +kernel)
theorem mI_X12_mayDig : Cond.instanceMethod yX12_mayDig ∈ gW := gW_u tb_8 143 (by rfl) (by decide +kernel)
theorem mS_X12_mayDig : Cond.selects RX12 yX12_mayDig yX12_mayDig ∈ gW := gW_p (q := (yX12_mayDig, 59)) 93 (by decide +kernel)
theorem mC_X12_mayDig : Cond.code yX12_mayDig cX12_mayDig 2 (some .boolean) ∈ gW := gW_u tb_8 144 (by rfl) (by decide +kernel)
theorem ok_X12_mayDig : okD yX12_mayDig 1 := ⟨by decide +kernel, by decide +kernel, by decide +kernel⟩
theorem dX12_canDig_19 : decode cX12_canDig 19 = .ok (.ifCond .eq 53, 3) := by decide +kernel
theorem dX12_canDig_72 : decode cX12_canDig 72 = .ok (.iconst 0, 1) := by decide +kernel
theorem dX12_canDig_73 : decode cX12_canDig 73 = .ok (.ireturn, 1) := by decide +kernel
theorem dX12_canDig_22 : decode cX12_canDig 22 = .ok (.iload_n 3, 1) := by decide +kernel
theorem dX12_canDig_23 : decode cX12_canDig 23 = .ok (.iconst (-1), 1) := by decide +kernel
theorem dX12_canDig_24 : decode cX12_canDig 24 = .ok (.if_icmp .eq 48, 3) := by decide +kernel
theorem dX12_canDig_27 : decode cX12_canDig 27 = .ok (.aload_n 0, 1) := by decide +kernel
theorem dX12_canDig_28 : decode cX12_canDig 28 = .ok (.getfield 13, 3) := by decide +kernel
theorem dX12_canDig_31 : decode cX12_canDig 31 = .ok (.bipush 33, 2) := by decide +kernel
theorem dX12_canDig_33 : decode cX12_canDig 33 = .ok (.iload_n 3, 1) := by decide +kernel
theorem dX12_canDig_34 : decode cX12_canDig 34 = .ok (.iadd, 1) := by decide +kernel
theorem dX12_canDig_35 : decode cX12_canDig 35 = .ok (.iaload, 1) := by decide +kernel
theorem dX12_canDig_36 : decode cX12_canDig 36 = .ok (.ifCond .ne 36, 3) := by decide +kernel
theorem dX12_canDig_39 : decode cX12_canDig 39 = .ok (.aload_n 0, 1) := by decide +kernel
theorem dX12_canDig_40 : decode cX12_canDig 40 = .ok (.iload_n 1, 1) := by decide +kernel
theorem dX12_canDig_41 : decode cX12_canDig 41 = .ok (.iload_n 3, 1) := by decide +kernel
theorem dX12_canDig_42 : decode cX12_canDig 42 = .ok (.invokevirtual 447, 3) := by decide +kernel
theorem dX12_canDig_45 : decode cX12_canDig 45 = .ok (.ifCond .eq 27, 3) := by decide +kernel
theorem dX12_canDig_48 : decode cX12_canDig 48 = .ok (.aload_n 0, 1) := by decide +kernel
theorem dX12_canDig_49 : decode cX12_canDig 49 = .ok (.getfield 13, 3) := by decide +kernel
theorem dX12_canDig_52 : decode cX12_canDig 52 = .ok (.bipush 7, 2) := by decide +kernel
theorem dX12_canDig_54 : decode cX12_canDig 54 = .ok (.iaload, 1) := by decide +kernel
theorem dX12_canDig_55 : decode cX12_canDig 55 = .ok (.aload_n 0, 1) := by decide +kernel
theorem dX12_canDig_56 : decode cX12_canDig 56 = .ok (.iload_n 1, 1) := by decide +kernel
theorem dX12_canDig_57 : decode cX12_canDig 57 = .ok (.iload_n 3, 1) := by decide +kernel
theorem dX12_canDig_58 : decode cX12_canDig 58 = .ok (.invokevirtual 444, 3) := by decide +kernel
theorem dX12_canDig_61 : decode cX12_canDig 61 = .ok (.iadd, 1) := by decide +kernel
theorem dX12_canDig_62 : decode cX12_canDig 62 = .ok (.sipush 9999, 3) := by decide +kernel
theorem dX12_canDig_65 : decode cX12_canDig 65 = .ok (.if_icmp .gt 7, 3) := by decide +kernel
theorem dX12_canDig_68 : decode cX12_canDig 68 = .ok (.iconst 1, 1) := by decide +kernel
theorem dX12_canDig_69 : decode cX12_canDig 69 = .ok (.goto 4, 3) := by decide +kernel
def yX12_digIt : MethodName := ⟨RX12, "digIt", "(II)I"⟩
abbrev cX12_digIt : ByteArray := prog_14_method_89_code
theorem dX12_digIt_0 : decode cX12_digIt 0 = .ok (.aload_n 0, 1) := by decide +kernel
theorem dX12_digIt_1 : decode cX12_digIt 1 = .ok (.getfield 13, 3) := by decide +kernel
theorem dX12_digIt_4 : decode cX12_digIt 4 = .ok (.bipush 10, 2) := by decide +kernel
theorem dX12_digIt_6 : decode cX12_digIt 6 = .ok (.iload_n 1, 1) := by decide +kernel
theorem dX12_digIt_7 : decode cX12_digIt 7 = .ok (.iadd, 1) := by decide +kernel
theorem dX12_digIt_8 : decode cX12_digIt 8 = .ok (.iaload, 1) := by decide +kernel
theorem dX12_digIt_9 : decode cX12_digIt 9 = .ok (.iload_n 2, 1) := by decide +kernel
theorem dX12_digIt_10 : decode cX12_digIt 10 = .ok (.invokestatic 472, 3) := by decide +kernel
theorem dX12_digIt_13 : decode cX12_digIt 13 = .ok (.istore_n 3, 1) := by decide +kernel
theorem dX12_digIt_14 : decode cX12_digIt 14 = .ok (.aload_n 0, 1) := by decide +kernel
theorem dX12_digIt_15 : decode cX12_digIt 15 = .ok (.getfield 13, 3) := by decide +kernel
theorem dX12_digIt_18 : decode cX12_digIt 18 = .ok (.bipush 7, 2) := by decide +kernel
theorem dX12_digIt_20 : decode cX12_digIt 20 = .ok (.dup2, 1) := by decide +kernel
theorem dX12_digIt_21 : decode cX12_digIt 21 = .ok (.iaload, 1) := by decide +kernel
theorem dX12_digIt_22 : decode cX12_digIt 22 = .ok (.aload_n 0, 1) := by decide +kernel
theorem dX12_digIt_23 : decode cX12_digIt 23 = .ok (.iload_n 1, 1) := by decide +kernel
theorem dX12_digIt_24 : decode cX12_digIt 24 = .ok (.iload_n 3, 1) := by decide +kernel
theorem dX12_digIt_25 : decode cX12_digIt 25 = .ok (.invokevirtual 444, 3) := by decide +kernel
theorem dX12_digIt_28 : decode cX12_digIt 28 = .ok (.iadd, 1) := by decide +kernel
theorem dX12_digIt_29 : decode cX12_digIt 29 = .ok (.iastore, 1) := by decide +kernel
theorem dX12_digIt_30 : decode cX12_digIt 30 = .ok (.aload_n 0, 1) := by decide +kernel
theorem dX12_digIt_31 : decode cX12_digIt 31 = .ok (.getfield 13, 3) := by decide +kernel
theorem dX12_digIt_34 : decode cX12_digIt 34 = .ok (.bipush 33, 2) := by decide +kernel
theorem dX12_digIt_36 : decode cX12_digIt 36 = .ok (.iload_n 3, 1) := by decide +kernel
theorem dX12_digIt_37 : decode cX12_digIt 37 = .ok (.iadd, 1) := by decide +kernel
theorem dX12_digIt_38 : decode cX12_digIt 38 = .ok (.iconst 1, 1) := by decide +kernel
theorem dX12_digIt_39 : decode cX12_digIt 39 = .ok (.iastore, 1) := by decide +kernel
theorem dX12_digIt_40 : decode cX12_digIt 40 = .ok (.aload_n 0, 1) := by decide +kernel
theorem dX12_digIt_41 : decode cX12_digIt 41 = .ok (.getfield 13, 3) := by decide +kernel
theorem dX12_digIt_44 : decode cX12_digIt 44 = .ok (.bipush 10, 2) := by decide +kernel
theorem dX12_digIt_46 : decode cX12_digIt 46 = .ok (.iload_n 1, 1) := by decide +kernel
theorem dX12_digIt_47 : decode cX12_digIt 47 = .ok (.iadd, 1) := by decide +kernel
theorem dX12_digIt_48 : decode cX12_digIt 48 = .ok (.iload_n 3, 1) := by decide +kernel
theorem dX12_digIt_49 : decode cX12_digIt 49 = .ok (.iastore, 1) := by decide +kernel
theorem dX12_digIt_50 : decode cX12_digIt 50 = .ok (.iload_n 3, 1) := by decide +kernel
theorem dX12_digIt_51 : decode cX12_digIt 51 = .ok (.ireturn, 1) := by decide +kernel
def yX12_digNow : MethodName := ⟨RX12, "digNow", "(II)I"⟩
abbrev cX12_digNow : ByteArray := prog_14_method_90_code
theorem dX12_digNow_0 : decode cX12_digNow 0 = .ok (.iload_n 2, 1) := by decide +kernel
theorem dX12_digNow_1 : decode cX12_digNow 1 = .ok (.i2l, 1) := by decide +kernel
theorem dX12_digNow_2 : decode cX12_digNow 2 = .ok (.lconst 0, 1) := by decide +kernel
theorem dX12_digNow_3 : decode cX12_digNow 3 = .ok (.ldc2_w 442, 3) := by decide +kernel
theorem dX12_digNow_6 : decode cX12_digNow 6 = .ok (.invokestatic 180, 3) := by decide +kernel
theorem dX12_digNow_9 : decode cX12_digNow 9 = .ok (.ifCond .ne 5, 3) := by decide +kernel
theorem dX12_digNow_14 : decode cX12_digNow 14 = .ok (.aload_n 0, 1) := by decide +kernel
theorem dX12_digNow_15 : decode cX12_digNow 15 = .ok (.iload_n 1, 1) := by decide +kernel
theorem dX12_digNow_16 : decode cX12_digNow 16 = .ok (.invokevirtual 221, 3) := by decide +kernel
theorem dX12_digNow_19 : decode cX12_digNow 19 = .ok (.ifCond .ne 6, 3) := by decide +kernel
theorem dX12_digNow_25 : decode cX12_digNow 25 = .ok (.aload_n 0, 1) := by decide +kernel
theorem dX12_digNow_26 : decode cX12_digNow 26 = .ok (.iload_n 1, 1) := by decide +kernel
theorem dX12_digNow_27 : decode cX12_digNow 27 = .ok (.iload_n 2, 1) := by decide +kernel
theorem dX12_digNow_28 : decode cX12_digNow 28 = .ok (.invokevirtual 478, 3) := by decide +kernel
theorem lk_RX12_478 : Cond.methodLink RX12 478 yX12_canDig ∈ gW := gW_u tb_8 134 (by rfl) (by decide +kernel)
theorem mI_X12_canDig : Cond.instanceMethod yX12_canDig ∈ gW := gW_u tb_8 136 (by rfl) (by decide +kernel)
theorem mS_X12_canDig : Cond.selects RX12 yX12_canDig yX12_canDig ∈ gW := gW_p (q := (yX12_canDig, 59)) 92 (by decide +kernel)
theorem mC_X12_canDig : Cond.code yX12_canDig cX12_canDig 4 (some .boolean) ∈ gW := gW_u tb_8 137 (by rfl) (by decide +kernel)
theorem ok_X12_canDig : okD yX12_canDig 2 := ⟨by decide +kernel, by decide +kernel, by decide +kernel⟩
theorem dX12_digNow_31 : decode cX12_digNow 31 = .ok (.ifCond .ne 6, 3) := by decide +kernel
theorem dX12_digNow_37 : decode cX12_digNow 37 = .ok (.aload_n 0, 1) := by decide +kernel
theorem dX12_digNow_38 : decode cX12_digNow 38 = .ok (.iconst 0, 1) := by decide +kernel
theorem dX12_digNow_39 : decode cX12_digNow 39 = .ok (.invokevirtual 481, 3) := by decide +kernel
theorem lk_RX12_481 : Cond.methodLink RX12 481 yX12_remember ∈ gW := gW_u tb_8 145 (by rfl) (by decide +kernel)
theorem mI_X12_remember : Cond.instanceMethod yX12_remember ∈ gW := gW_u tb_8 147 (by rfl) (by decide +kernel)
theorem mS_X12_remember : Cond.selects RX12 yX12_remember yX12_remember ∈ gW := gW_p (q := (yX12_remember, 59)) 94 (by decide +kernel)
theorem mC_X12_remember : Cond.code yX12_remember cX12_remember 3 none ∈ gW := gW_u tb_8 148 (by rfl) (by decide +kernel)
theorem ok_X12_remember : okD yX12_remember 1 := ⟨by decide +kernel, by decide +kernel, by decide +kernel⟩
theorem dX12_digNow_42 : decode cX12_digNow 42 = .ok (.aload_n 0, 1) := by decide +kernel
theorem dX12_digNow_43 : decode cX12_digNow 43 = .ok (.iload_n 1, 1) := by decide +kernel
theorem dX12_digNow_44 : decode cX12_digNow 44 = .ok (.iload_n 2, 1) := by decide +kernel
theorem dX12_digNow_45 : decode cX12_digNow 45 = .ok (.invokevirtual 484, 3) := by decide +kernel
theorem lk_RX12_484 : Cond.methodLink RX12 484 yX12_digIt ∈ gW := gW_u tb_8 153 (by rfl) (by decide +kernel)
theorem mI_X12_digIt : Cond.instanceMethod yX12_digIt ∈ gW := gW_u tb_8 155 (by rfl) (by decide +kernel)
theorem mS_X12_digIt : Cond.selects RX12 yX12_digIt yX12_digIt ∈ gW := gW_p (q := (yX12_digIt, 59)) 96 (by decide +kernel)
theorem mC_X12_digIt : Cond.code yX12_digIt cX12_digIt 4 (some .int) ∈ gW := gW_u tb_8 156 (by rfl) (by decide +kernel)
theorem ok_X12_digIt : okD yX12_digIt 2 := ⟨by decide +kernel, by decide +kernel, by decide +kernel⟩
theorem dX12_digNow_48 : decode cX12_digNow 48 = .ok (.ireturn, 1) := by decide +kernel
theorem dX12_digNow_34 : decode cX12_digNow 34 = .ok (.bipush (-3), 2) := by decide +kernel
theorem dX12_digNow_36 : decode cX12_digNow 36 = .ok (.ireturn, 1) := by decide +kernel
theorem dX12_digNow_22 : decode cX12_digNow 22 = .ok (.bipush (-2), 2) := by decide +kernel
theorem dX12_digNow_24 : decode cX12_digNow 24 = .ok (.ireturn, 1) := by decide +kernel
theorem dX12_digNow_12 : decode cX12_digNow 12 = .ok (.iconst (-1), 1) := by decide +kernel
theorem dX12_digNow_13 : decode cX12_digNow 13 = .ok (.ireturn, 1) := by decide +kernel
def yX12_dig : MethodName := ⟨RX12, "dig", "(II)I"⟩
abbrev cX12_dig : ByteArray := prog_14_method_91_code
theorem dX12_dig_0 : decode cX12_dig 0 = .ok (.aload_n 0, 1) := by decide +kernel
theorem dX12_dig_1 : decode cX12_dig 1 = .ok (.iconst 0, 1) := by decide +kernel
theorem dX12_dig_2 : decode cX12_dig 2 = .ok (.putfield 156, 3) := by decide +kernel
theorem dX12_dig_5 : decode cX12_dig 5 = .ok (.aload_n 0, 1) := by decide +kernel
theorem dX12_dig_6 : decode cX12_dig 6 = .ok (.aload_n 0, 1) := by decide +kernel
theorem dX12_dig_7 : decode cX12_dig 7 = .ok (.iload_n 1, 1) := by decide +kernel
theorem dX12_dig_8 : decode cX12_dig 8 = .ok (.iload_n 2, 1) := by decide +kernel
theorem dX12_dig_9 : decode cX12_dig 9 = .ok (.invokevirtual 487, 3) := by decide +kernel
theorem lk_RX12_487 : Cond.methodLink RX12 487 yX12_digNow ∈ gW := gW_u tb_8 130 (by rfl) (by decide +kernel)
theorem mI_X12_digNow : Cond.instanceMethod yX12_digNow ∈ gW := gW_u tb_8 132 (by rfl) (by decide +kernel)
theorem mS_X12_digNow : Cond.selects RX12 yX12_digNow yX12_digNow ∈ gW := gW_p (q := (yX12_digNow, 59)) 91 (by decide +kernel)
theorem mC_X12_digNow : Cond.code yX12_digNow cX12_digNow 3 (some .int) ∈ gW := gW_u tb_8 133 (by rfl) (by decide +kernel)
theorem ok_X12_digNow : okD yX12_digNow 2 := ⟨by decide +kernel, by decide +kernel, by decide +kernel⟩
theorem dX12_dig_12 : decode cX12_dig 12 = .ok (.invokevirtual 169, 3) := by decide +kernel
theorem dX12_dig_15 : decode cX12_dig 15 = .ok (.ireturn, 1) := by decide +kernel
def yX12_canHaul : MethodName := ⟨RX12, "canHaul", "(I)Z"⟩
abbrev cX12_canHaul : ByteArray := prog_14_method_92_code
theorem dX12_canHaul_0 : decode cX12_canHaul 0 = .ok (.aload_n 0, 1) := by decide +kernel
theorem dX12_canHaul_1 : decode cX12_canHaul 1 = .ok (.iload_n 1, 1) := by decide +kernel
theorem dX12_canHaul_2 : decode cX12_canHaul 2 = .ok (.invokevirtual 227, 3) := by decide +kernel
theorem dX12_canHaul_5 : decode cX12_canHaul 5 = .ok (.ifCond .eq 20, 3) := by decide +kernel
theorem dX12_canHaul_25 : decode cX12_canHaul 25 = .ok (.iconst 0, 1) := by decide +kernel
theorem dX12_canHaul_26 : decode cX12_canHaul 26 = .ok (.ireturn, 1) := by decide +kernel
theorem dX12_canHaul_8 : decode cX12_canHaul 8 = .ok (.aload_n 0, 1) := by decide +kernel
theorem dX12_canHaul_9 : decode cX12_canHaul 9 = .ok (.getfield 13, 3) := by decide +kernel
theorem dX12_canHaul_12 : decode cX12_canHaul 12 = .ok (.bipush 7, 2) := by decide +kernel
theorem dX12_canHaul_14 : decode cX12_canHaul 14 = .ok (.iaload, 1) := by decide +kernel
theorem dX12_canHaul_15 : decode cX12_canHaul 15 = .ok (.sipush 9999, 3) := by decide +kernel
theorem dX12_canHaul_18 : decode cX12_canHaul 18 = .ok (.if_icmp .ge 7, 3) := by decide +kernel
theorem dX12_canHaul_21 : decode cX12_canHaul 21 = .ok (.iconst 1, 1) := by decide +kernel
theorem dX12_canHaul_22 : decode cX12_canHaul 22 = .ok (.goto 4, 3) := by decide +kernel
def yX12_haulIt : MethodName := ⟨RX12, "haulIt", "(I)I"⟩
abbrev cX12_haulIt : ByteArray := prog_14_method_93_code
theorem dX12_haulIt_0 : decode cX12_haulIt 0 = .ok (.aload_n 0, 1) := by decide +kernel
theorem dX12_haulIt_1 : decode cX12_haulIt 1 = .ok (.iload_n 1, 1) := by decide +kernel
theorem dX12_haulIt_2 : decode cX12_haulIt 2 = .ok (.aload_n 0, 1) := by decide +kernel
theorem dX12_haulIt_3 : decode cX12_haulIt 3 = .ok (.getfield 13, 3) := by decide +kernel
theorem dX12_haulIt_6 : decode cX12_haulIt 6 = .ok (.bipush 10, 2) := by decide +kernel
theorem dX12_haulIt_8 : decode cX12_haulIt 8 = .ok (.iload_n 1, 1) := by decide +kernel
theorem dX12_haulIt_9 : decode cX12_haulIt 9 = .ok (.iadd, 1) := by decide +kernel
theorem dX12_haulIt_10 : decode cX12_haulIt 10 = .ok (.iaload, 1) := by decide +kernel
theorem dX12_haulIt_11 : decode cX12_haulIt 11 = .ok (.invokevirtual 450, 3) := by decide +kernel
theorem dX12_haulIt_14 : decode cX12_haulIt 14 = .ok (.istore_n 2, 1) := by decide +kernel
theorem dX12_haulIt_15 : decode cX12_haulIt 15 = .ok (.aload_n 0, 1) := by decide +kernel
theorem dX12_haulIt_16 : decode cX12_haulIt 16 = .ok (.getfield 13, 3) := by decide +kernel
theorem dX12_haulIt_19 : decode cX12_haulIt 19 = .ok (.bipush 73, 2) := by decide +kernel
theorem dX12_haulIt_21 : decode cX12_haulIt 21 = .ok (.aload_n 0, 1) := by decide +kernel
theorem dX12_haulIt_22 : decode cX12_haulIt 22 = .ok (.getfield 13, 3) := by decide +kernel
theorem dX12_haulIt_25 : decode cX12_haulIt 25 = .ok (.bipush 10, 2) := by decide +kernel
theorem dX12_haulIt_27 : decode cX12_haulIt 27 = .ok (.iload_n 1, 1) := by decide +kernel
theorem dX12_haulIt_28 : decode cX12_haulIt 28 = .ok (.iadd, 1) := by decide +kernel
theorem dX12_haulIt_29 : decode cX12_haulIt 29 = .ok (.iaload, 1) := by decide +kernel
theorem dX12_haulIt_30 : decode cX12_haulIt 30 = .ok (.iadd, 1) := by decide +kernel
theorem dX12_haulIt_31 : decode cX12_haulIt 31 = .ok (.dup2, 1) := by decide +kernel
theorem dX12_haulIt_32 : decode cX12_haulIt 32 = .ok (.iaload, 1) := by decide +kernel
theorem dX12_haulIt_33 : decode cX12_haulIt 33 = .ok (.iload_n 2, 1) := by decide +kernel
theorem dX12_haulIt_34 : decode cX12_haulIt 34 = .ok (.isub, 1) := by decide +kernel
theorem dX12_haulIt_35 : decode cX12_haulIt 35 = .ok (.iastore, 1) := by decide +kernel
theorem dX12_haulIt_36 : decode cX12_haulIt 36 = .ok (.aload_n 0, 1) := by decide +kernel
theorem dX12_haulIt_37 : decode cX12_haulIt 37 = .ok (.getfield 13, 3) := by decide +kernel
theorem dX12_haulIt_40 : decode cX12_haulIt 40 = .ok (.bipush 16, 2) := by decide +kernel
theorem dX12_haulIt_42 : decode cX12_haulIt 42 = .ok (.iload_n 1, 1) := by decide +kernel
theorem dX12_haulIt_43 : decode cX12_haulIt 43 = .ok (.iadd, 1) := by decide +kernel
theorem dX12_haulIt_44 : decode cX12_haulIt 44 = .ok (.aload_n 0, 1) := by decide +kernel
theorem dX12_haulIt_45 : decode cX12_haulIt 45 = .ok (.getfield 13, 3) := by decide +kernel
theorem dX12_haulIt_48 : decode cX12_haulIt 48 = .ok (.bipush 16, 2) := by decide +kernel
theorem dX12_haulIt_50 : decode cX12_haulIt 50 = .ok (.iload_n 1, 1) := by decide +kernel
theorem dX12_haulIt_51 : decode cX12_haulIt 51 = .ok (.iadd, 1) := by decide +kernel
theorem dX12_haulIt_52 : decode cX12_haulIt 52 = .ok (.iaload, 1) := by decide +kernel
theorem dX12_haulIt_53 : decode cX12_haulIt 53 = .ok (.iload_n 2, 1) := by decide +kernel
theorem dX12_haulIt_54 : decode cX12_haulIt 54 = .ok (.iadd, 1) := by decide +kernel
theorem dX12_haulIt_55 : decode cX12_haulIt 55 = .ok (.i2l, 1) := by decide +kernel
theorem dX12_haulIt_56 : decode cX12_haulIt 56 = .ok (.iconst 0, 1) := by decide +kernel
theorem dX12_haulIt_57 : decode cX12_haulIt 57 = .ok (.sipush 9999, 3) := by decide +kernel
theorem dX12_haulIt_60 : decode cX12_haulIt 60 = .ok (.invokestatic 438, 3) := by decide +kernel
theorem dX12_haulIt_63 : decode cX12_haulIt 63 = .ok (.iastore, 1) := by decide +kernel
theorem dX12_haulIt_64 : decode cX12_haulIt 64 = .ok (.aload_n 0, 1) := by decide +kernel
theorem dX12_haulIt_65 : decode cX12_haulIt 65 = .ok (.getfield 13, 3) := by decide +kernel
theorem dX12_haulIt_68 : decode cX12_haulIt 68 = .ok (.bipush 7, 2) := by decide +kernel
theorem dX12_haulIt_70 : decode cX12_haulIt 70 = .ok (.dup2, 1) := by decide +kernel
theorem dX12_haulIt_71 : decode cX12_haulIt 71 = .ok (.iaload, 1) := by decide +kernel
theorem dX12_haulIt_72 : decode cX12_haulIt 72 = .ok (.iconst 1, 1) := by decide +kernel
theorem dX12_haulIt_73 : decode cX12_haulIt 73 = .ok (.iadd, 1) := by decide +kernel
theorem dX12_haulIt_74 : decode cX12_haulIt 74 = .ok (.iastore, 1) := by decide +kernel
theorem dX12_haulIt_75 : decode cX12_haulIt 75 = .ok (.iload_n 2, 1) := by decide +kernel
theorem dX12_haulIt_76 : decode cX12_haulIt 76 = .ok (.ireturn, 1) := by decide +kernel
