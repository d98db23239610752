def yX12_haulNow : MethodName := ⟨RX12, "haulNow", "(I)I"⟩
abbrev cX12_haulNow : ByteArray := prog_14_method_94_code
theorem dX12_haulNow_0 : decode cX12_haulNow 0 = .ok (.aload_n 0, 1) := by decide +kernel
theorem dX12_haulNow_1 : decode cX12_haulNow 1 = .ok (.iload_n 1, 1) := by decide +kernel
theorem dX12_haulNow_2 : decode cX12_haulNow 2 = .ok (.invokevirtual 221, 3) := by decide +kernel
theorem dX12_haulNow_5 : decode cX12_haulNow 5 = .ok (.ifCond .ne 6, 3) := by decide +kernel
theorem dX12_haulNow_11 : decode cX12_haulNow 11 = .ok (.aload_n 0, 1) := by decide +kernel
theorem dX12_haulNow_12 : decode cX12_haulNow 12 = .ok (.iload_n 1, 1) := by decide +kernel
theorem dX12_haulNow_13 : decode cX12_haulNow 13 = .ok (.invokevirtual 490, 3) := by decide +kernel
theorem lk_RX12_490 : Cond.methodLink RX12 490 yX12_canHaul ∈ gW := gW_u tb_8 165 (by rfl) (by decide +kernel)
theorem mI_X12_canHaul : Cond.instanceMethod yX12_canHaul ∈ gW := gW_u tb_8 167 (by rfl) (by decide +kernel)
theorem mS_X12_canHaul : Cond.selects RX12 yX12_canHaul yX12_canHaul ∈ gW := gW_p (q := (yX12_canHaul, 59)) 98 (by decide +kernel)
theorem mC_X12_canHaul : Cond.code yX12_canHaul cX12_canHaul 2 (some .boolean) ∈ gW := gW_u tb_8 168 (by rfl) (by decide +kernel)
theorem ok_X12_canHaul : okD yX12_canHaul 1 := ⟨by decide +kernel, by decide +kernel, by decide +kernel⟩
theorem dX12_haulNow_16 : decode cX12_haulNow 16 = .ok (.ifCond .ne 6, 3) := by decide +kernel
theorem dX12_haulNow_22 : decode cX12_haulNow 22 = .ok (.aload_n 0, 1) := by decide +kernel
theorem dX12_haulNow_23 : decode cX12_haulNow 23 = .ok (.iconst 1, 1) := by decide +kernel
theorem dX12_haulNow_24 : decode cX12_haulNow 24 = .ok (.invokevirtual 481, 3) := by decide +kernel
theorem dX12_haulNow_27 : decode cX12_haulNow 27 = .ok (.aload_n 0, 1) := by decide +kernel
theorem dX12_haulNow_28 : decode cX12_haulNow 28 = .ok (.iload_n 1, 1) := by decide +kernel
theorem dX12_haulNow_29 : decode cX12_haulNow 29 = .ok (.invokevirtual 493, 3) := by decide +kernel
theorem lk_RX12_493 : Cond.methodLink RX12 493 yX12_haulIt ∈ gW := gW_u tb_8 169 (by rfl) (by decide +kernel)
theorem mI_X12_haulIt : Cond.instanceMethod yX12_haulIt ∈ gW := gW_u tb_8 171 (by rfl) (by decide +kernel)
theorem mS_X12_haulIt : Cond.selects RX12 yX12_haulIt yX12_haulIt ∈ gW := gW_p (q := (yX12_haulIt, 59)) 99 (by decide +kernel)
theorem mC_X12_haulIt : Cond.code yX12_haulIt cX12_haulIt 3 (some .int) ∈ gW := gW_u tb_8 172 (by rfl) (by decide +kernel)
theorem ok_X12_haulIt : okD yX12_haulIt 1 := ⟨by decide +kernel, by decide +kernel, by decide +kernel⟩
theorem dX12_haulNow_32 : decode cX12_haulNow 32 = .ok (.ireturn, 1) := by decide +kernel
theorem dX12_haulNow_19 : decode cX12_haulNow 19 = .ok (.bipush (-3), 2) := by decide +kernel
theorem dX12_haulNow_21 : decode cX12_haulNow 21 = .ok (.ireturn, 1) := by decide +kernel
theorem dX12_haulNow_8 : decode cX12_haulNow 8 = .ok (.bipush (-2), 2) := by decide +kernel
theorem dX12_haulNow_10 : decode cX12_haulNow 10 = .ok (.ireturn, 1) := by decide +kernel
def yX12_haul : MethodName := ⟨RX12, "haul", "(I)I"⟩
abbrev cX12_haul : ByteArray := prog_14_method_95_code
theorem dX12_haul_0 : decode cX12_haul 0 = .ok (.aload_n 0, 1) := by decide +kernel
theorem dX12_haul_1 : decode cX12_haul 1 = .ok (.iconst 0, 1) := by decide +kernel
theorem dX12_haul_2 : decode cX12_haul 2 = .ok (.putfield 156, 3) := by decide +kernel
theorem dX12_haul_5 : decode cX12_haul 5 = .ok (.aload_n 0, 1) := by decide +kernel
theorem dX12_haul_6 : decode cX12_haul 6 = .ok (.aload_n 0, 1) := by decide +kernel
theorem dX12_haul_7 : decode cX12_haul 7 = .ok (.iload_n 1, 1) := by decide +kernel
theorem dX12_haul_8 : decode cX12_haul 8 = .ok (.invokevirtual 496, 3) := by decide +kernel
theorem lk_RX12_496 : Cond.methodLink RX12 496 yX12_haulNow ∈ gW := gW_u tb_8 161 (by rfl) (by decide +kernel)
theorem mI_X12_haulNow : Cond.instanceMethod yX12_haulNow ∈ gW := gW_u tb_8 163 (by rfl) (by decide +kernel)
theorem mS_X12_haulNow : Cond.selects RX12 yX12_haulNow yX12_haulNow ∈ gW := gW_p (q := (yX12_haulNow, 59)) 97 (by decide +kernel)
theorem mC_X12_haulNow : Cond.code yX12_haulNow cX12_haulNow 2 (some .int) ∈ gW := gW_u tb_8 164 (by rfl) (by decide +kernel)
theorem ok_X12_haulNow : okD yX12_haulNow 1 := ⟨by decide +kernel, by decide +kernel, by decide +kernel⟩
theorem dX12_haul_11 : decode cX12_haul 11 = .ok (.invokevirtual 169, 3) := by decide +kernel
theorem dX12_haul_14 : decode cX12_haul 14 = .ok (.ireturn, 1) := by decide +kernel
def yX12_hushNow : MethodName := ⟨RX12, "hushNow", "(I)I"⟩
abbrev cX12_hushNow : ByteArray := prog_14_method_96_code
theorem dX12_hushNow_0 : decode cX12_hushNow 0 = .ok (.aload_n 0, 1) := by decide +kernel
theorem dX12_hushNow_1 : decode cX12_hushNow 1 = .ok (.iload_n 1, 1) := by decide +kernel
theorem dX12_hushNow_2 : decode cX12_hushNow 2 = .ok (.invokevirtual 240, 3) := by decide +kernel
theorem dX12_hushNow_5 : decode cX12_hushNow 5 = .ok (.ifCond .ne 6, 3) := by decide +kernel
theorem dX12_hushNow_11 : decode cX12_hushNow 11 = .ok (.aload_n 0, 1) := by decide +kernel
theorem dX12_hushNow_12 : decode cX12_hushNow 12 = .ok (.getfield 13, 3) := by decide +kernel
theorem dX12_hushNow_15 : decode cX12_hushNow 15 = .ok (.bipush 22, 2) := by decide +kernel
theorem dX12_hushNow_17 : decode cX12_hushNow 17 = .ok (.iload_n 1, 1) := by decide +kernel
theorem dX12_hushNow_18 : decode cX12_hushNow 18 = .ok (.iadd, 1) := by decide +kernel
theorem dX12_hushNow_19 : decode cX12_hushNow 19 = .ok (.iaload, 1) := by decide +kernel
theorem dX12_hushNow_20 : decode cX12_hushNow 20 = .ok (.iconst 1, 1) := by decide +kernel
theorem dX12_hushNow_21 : decode cX12_hushNow 21 = .ok (.if_icmp .ne 6, 3) := by decide +kernel
theorem dX12_hushNow_27 : decode cX12_hushNow 27 = .ok (.aload_n 0, 1) := by decide +kernel
theorem dX12_hushNow_28 : decode cX12_hushNow 28 = .ok (.iconst 2, 1) := by decide +kernel
theorem dX12_hushNow_29 : decode cX12_hushNow 29 = .ok (.invokevirtual 481, 3) := by decide +kernel
theorem dX12_hushNow_32 : decode cX12_hushNow 32 = .ok (.aload_n 0, 1) := by decide +kernel
theorem dX12_hushNow_33 : decode cX12_hushNow 33 = .ok (.getfield 13, 3) := by decide +kernel
theorem dX12_hushNow_36 : decode cX12_hushNow 36 = .ok (.bipush 22, 2) := by decide +kernel
theorem dX12_hushNow_38 : decode cX12_hushNow 38 = .ok (.iload_n 1, 1) := by decide +kernel
theorem dX12_hushNow_39 : decode cX12_hushNow 39 = .ok (.iadd, 1) := by decide +kernel
theorem dX12_hushNow_40 : decode cX12_hushNow 40 = .ok (.iconst 1, 1) := by decide +kernel
theorem dX12_hushNow_41 : decode cX12_hushNow 41 = .ok (.iastore, 1) := by decide +kernel
theorem dX12_hushNow_42 : decode cX12_hushNow 42 = .ok (.aload_n 0, 1) := by decide +kernel
theorem dX12_hushNow_43 : decode cX12_hushNow 43 = .ok (.aload_n 0, 1) := by decide +kernel
theorem dX12_hushNow_44 : decode cX12_hushNow 44 = .ok (.getfield 13, 3) := by decide +kernel
theorem dX12_hushNow_47 : decode cX12_hushNow 47 = .ok (.sipush 198, 3) := by decide +kernel
theorem dX12_hushNow_50 : decode cX12_hushNow 50 = .ok (.iload_n 1, 1) := by decide +kernel
theorem dX12_hushNow_51 : decode cX12_hushNow 51 = .ok (.iadd, 1) := by decide +kernel
theorem dX12_hushNow_52 : decode cX12_hushNow 52 = .ok (.iaload, 1) := by decide +kernel
theorem dX12_hushNow_53 : decode cX12_hushNow 53 = .ok (.iconst 0, 1) := by decide +kernel
theorem dX12_hushNow_54 : decode cX12_hushNow 54 = .ok (.invokevirtual 461, 3) := by decide +kernel
theorem dX12_hushNow_57 : decode cX12_hushNow 57 = .ok (.ireturn, 1) := by decide +kernel
theorem dX12_hushNow_24 : decode cX12_hushNow 24 = .ok (.bipush (-3), 2) := by decide +kernel
theorem dX12_hushNow_26 : decode cX12_hushNow 26 = .ok (.ireturn, 1) := by decide +kernel
theorem dX12_hushNow_8 : decode cX12_hushNow 8 = .ok (.bipush (-2), 2) := by decide +kernel
theorem dX12_hushNow_10 : decode cX12_hushNow 10 = .ok (.ireturn, 1) := by decide +kernel
def yX12_hush : MethodName := ⟨RX12, "hush", "(I)I"⟩
abbrev cX12_hush : ByteArray := prog_14_method_97_code
theorem dX12_hush_0 : decode cX12_hush 0 = .ok (.aload_n 0, 1) := by decide +kernel
theorem dX12_hush_1 : decode cX12_hush 1 = .ok (.iconst 0, 1) := by decide +kernel
theorem dX12_hush_2 : decode cX12_hush 2 = .ok (.putfield 156, 3) := by decide +kernel
theorem dX12_hush_5 : decode cX12_hush 5 = .ok (.aload_n 0, 1) := by decide +kernel
theorem dX12_hush_6 : decode cX12_hush 6 = .ok (.aload_n 0, 1) := by decide +kernel
theorem dX12_hush_7 : decode cX12_hush 7 = .ok (.iload_n 1, 1) := by decide +kernel
theorem dX12_hush_8 : decode cX12_hush 8 = .ok (.invokevirtual 499, 3) := by decide +kernel
theorem lk_RX12_499 : Cond.methodLink RX12 499 yX12_hushNow ∈ gW := gW_u tb_8 177 (by rfl) (by decide +kernel)
theorem mI_X12_hushNow : Cond.instanceMethod yX12_hushNow ∈ gW := gW_u tb_8 179 (by rfl) (by decide +kernel)
theorem mS_X12_hushNow : Cond.selects RX12 yX12_hushNow yX12_hushNow ∈ gW := gW_p (q := (yX12_hushNow, 59)) 100 (by decide +kernel)
theorem mC_X12_hushNow : Cond.code yX12_hushNow cX12_hushNow 2 (some .int) ∈ gW := gW_u tb_8 180 (by rfl) (by decide +kernel)
theorem ok_X12_hushNow : okD yX12_hushNow 1 := ⟨by decide +kernel, by decide +kernel, by decide +kernel⟩
theorem dX12_hush_11 : decode cX12_hush 11 = .ok (.invokevirtual 169, 3) := by decide +kernel
theorem dX12_hush_14 : decode cX12_hush 14 = .ok (.ireturn, 1) := by decide +kernel
def yX12_lieNow : MethodName := ⟨RX12, "lieNow", "(II)I"⟩
abbrev cX12_lieNow : ByteArray := prog_14_method_98_code
theorem dX12_lieNow_0 : decode cX12_lieNow 0 = .ok (.iload_n 2, 1) := by decide +kernel
theorem dX12_lieNow_1 : decode cX12_lieNow 1 = .ok (.invokestatic 218, 3) := by decide +kernel
theorem dX12_lieNow_4 : decode cX12_lieNow 4 = .ok (.ifCond .ne 5, 3) := by decide +kernel
theorem dX12_lieNow_9 : decode cX12_lieNow 9 = .ok (.aload_n 0, 1) := by decide +kernel
theorem dX12_lieNow_10 : decode cX12_lieNow 10 = .ok (.iload_n 1, 1) := by decide +kernel
theorem dX12_lieNow_11 : decode cX12_lieNow 11 = .ok (.invokevirtual 237, 3) := by decide +kernel
theorem dX12_lieNow_14 : decode cX12_lieNow 14 = .ok (.ifCond .ne 6, 3) := by decide +kernel
theorem dX12_lieNow_20 : decode cX12_lieNow 20 = .ok (.aload_n 0, 1) := by decide +kernel
theorem dX12_lieNow_21 : decode cX12_lieNow 21 = .ok (.iconst 3, 1) := by decide +kernel
theorem dX12_lieNow_22 : decode cX12_lieNow 22 = .ok (.invokevirtual 481, 3) := by decide +kernel
theorem dX12_lieNow_25 : decode cX12_lieNow 25 = .ok (.aload_n 0, 1) := by decide +kernel
theorem dX12_lieNow_26 : decode cX12_lieNow 26 = .ok (.getfield 13, 3) := by decide +kernel
theorem dX12_lieNow_29 : decode cX12_lieNow 29 = .ok (.bipush 28, 2) := by decide +kernel
theorem dX12_lieNow_31 : decode cX12_lieNow 31 = .ok (.iload_n 1, 1) := by decide +kernel
theorem dX12_lieNow_32 : decode cX12_lieNow 32 = .ok (.iadd, 1) := by decide +kernel
theorem dX12_lieNow_33 : decode cX12_lieNow 33 = .ok (.iaload, 1) := by decide +kernel
theorem dX12_lieNow_34 : decode cX12_lieNow 34 = .ok (.istore_n 3, 1) := by decide +kernel
theorem dX12_lieNow_35 : decode cX12_lieNow 35 = .ok (.aload_n 0, 1) := by decide +kernel
theorem dX12_lieNow_36 : decode cX12_lieNow 36 = .ok (.getfield 13, 3) := by decide +kernel
theorem dX12_lieNow_39 : decode cX12_lieNow 39 = .ok (.bipush 28, 2) := by decide +kernel
theorem dX12_lieNow_41 : decode cX12_lieNow 41 = .ok (.iload_n 1, 1) := by decide +kernel
theorem dX12_lieNow_42 : decode cX12_lieNow 42 = .ok (.iadd, 1) := by decide +kernel
theorem dX12_lieNow_43 : decode cX12_lieNow 43 = .ok (.iload_n 2, 1) := by decide +kernel
theorem dX12_lieNow_44 : decode cX12_lieNow 44 = .ok (.iastore, 1) := by decide +kernel
theorem dX12_lieNow_45 : decode cX12_lieNow 45 = .ok (.iload_n 3, 1) := by decide +kernel
theorem dX12_lieNow_46 : decode cX12_lieNow 46 = .ok (.ireturn, 1) := by decide +kernel
theorem dX12_lieNow_17 : decode cX12_lieNow 17 = .ok (.bipush (-2), 2) := by decide +kernel
theorem dX12_lieNow_19 : decode cX12_lieNow 19 = .ok (.ireturn, 1) := by decide +kernel
theorem dX12_lieNow_7 : decode cX12_lieNow 7 = .ok (.iconst (-1), 1) := by decide +kernel
theorem dX12_lieNow_8 : decode cX12_lieNow 8 = .ok (.ireturn, 1) := by decide +kernel
def yX12_lie : MethodName := ⟨RX12, "lie", "(II)I"⟩
abbrev cX12_lie : ByteArray := prog_14_method_99_code
theorem dX12_lie_0 : decode cX12_lie 0 = .ok (.aload_n 0, 1) := by decide +kernel
theorem dX12_lie_1 : decode cX12_lie 1 = .ok (.iconst 0, 1) := by decide +kernel
theorem dX12_lie_2 : decode cX12_lie 2 = .ok (.putfield 156, 3) := by decide +kernel
theorem dX12_lie_5 : decode cX12_lie 5 = .ok (.aload_n 0, 1) := by decide +kernel
theorem dX12_lie_6 : decode cX12_lie 6 = .ok (.aload_n 0, 1) := by decide +kernel
theorem dX12_lie_7 : decode cX12_lie 7 = .ok (.iload_n 1, 1) := by decide +kernel
theorem dX12_lie_8 : decode cX12_lie 8 = .ok (.iload_n 2, 1) := by decide +kernel
theorem dX12_lie_9 : decode cX12_lie 9 = .ok (.invokevirtual 502, 3) := by decide +kernel
theorem lk_RX12_502 : Cond.methodLink RX12 502 yX12_lieNow ∈ gW := gW_u tb_8 185 (by rfl) (by decide +kernel)
theorem mI_X12_lieNow : Cond.instanceMethod yX12_lieNow ∈ gW := gW_u tb_8 187 (by rfl) (by decide +kernel)
theorem mS_X12_lieNow : Cond.selects RX12 yX12_lieNow yX12_lieNow ∈ gW := gW_p (q := (yX12_lieNow, 59)) 101 (by decide +kernel)
theorem mC_X12_lieNow : Cond.code yX12_lieNow cX12_lieNow 4 (some .int) ∈ gW := gW_u tb_8 188 (by rfl) (by decide +kernel)
theorem ok_X12_lieNow : okD yX12_lieNow 2 := ⟨by decide +kernel, by decide +kernel, by decide +kernel⟩
theorem dX12_lie_12 : decode cX12_lie 12 = .ok (.invokevirtual 169, 3) := by decide +kernel
theorem dX12_lie_15 : decode cX12_lie 15 = .ok (.ireturn, 1) := by decide +kernel
def yX12_daysBy : MethodName := ⟨RX12, "daysBy", "(IIII)I"⟩
abbrev cX12_daysBy : ByteArray := prog_14_method_100_code
theorem dX12_daysBy_0 : decode cX12_daysBy 0 = .ok (.iload_n 2, 1) := by decide +kernel
theorem dX12_daysBy_1 : decode cX12_daysBy 1 = .ok (.iload_n 3, 1) := by decide +kernel
theorem dX12_daysBy_2 : decode cX12_daysBy 2 = .ok (.invokestatic 472, 3) := by decide +kernel
theorem dX12_daysBy_5 : decode cX12_daysBy 5 = .ok (.istore 5, 2) := by decide +kernel
theorem dX12_daysBy_7 : decode cX12_daysBy 7 = .ok (.iload 5, 2) := by decide +kernel
theorem dX12_daysBy_9 : decode cX12_daysBy 9 = .ok (.iconst (-1), 1) := by decide +kernel
theorem dX12_daysBy_10 : decode cX12_daysBy 10 = .ok (.if_icmp .eq 61, 3) := by decide +kernel
theorem dX12_daysBy_71 : decode cX12_daysBy 71 = .ok (.ldc_w 505, 3) := by decide +kernel
theorem ct_RX12_505 : Cond.constant RX12 505 100000000 ∈ gW := gW_u tb_8 197 (by rfl) (by decide +kernel)
theorem dX12_daysBy_74 : decode cX12_daysBy 74 = .ok (.ireturn, 1) := by decide +kernel
theorem dX12_daysBy_13 : decode cX12_daysBy 13 = .ok (.aload_n 0, 1) := by decide +kernel
theorem dX12_daysBy_14 : decode cX12_daysBy 14 = .ok (.getfield 13, 3) := by decide +kernel
theorem dX12_daysBy_17 : decode cX12_daysBy 17 = .ok (.bipush 33, 2) := by decide +kernel
theorem dX12_daysBy_19 : decode cX12_daysBy 19 = .ok (.iload 5, 2) := by decide +kernel
theorem dX12_daysBy_21 : decode cX12_daysBy 21 = .ok (.iadd, 1) := by decide +kernel
theorem dX12_daysBy_22 : decode cX12_daysBy 22 = .ok (.iaload, 1) := by decide +kernel
theorem dX12_daysBy_23 : decode cX12_daysBy 23 = .ok (.iconst 1, 1) := by decide +kernel
theorem dX12_daysBy_24 : decode cX12_daysBy 24 = .ok (.if_icmp .eq 47, 3) := by decide +kernel
theorem dX12_daysBy_27 : decode cX12_daysBy 27 = .ok (.aload_n 0, 1) := by decide +kernel
theorem dX12_daysBy_28 : decode cX12_daysBy 28 = .ok (.iload_n 1, 1) := by decide +kernel
theorem dX12_daysBy_29 : decode cX12_daysBy 29 = .ok (.iload 5, 2) := by decide +kernel
theorem dX12_daysBy_31 : decode cX12_daysBy 31 = .ok (.invokevirtual 447, 3) := by decide +kernel
theorem dX12_daysBy_34 : decode cX12_daysBy 34 = .ok (.ifCond .eq 37, 3) := by decide +kernel
theorem dX12_daysBy_37 : decode cX12_daysBy 37 = .ok (.iload 5, 2) := by decide +kernel
theorem dX12_daysBy_39 : decode cX12_daysBy 39 = .ok (.iload 4, 2) := by decide +kernel
theorem dX12_daysBy_41 : decode cX12_daysBy 41 = .ok (.if_icmp .eq 17, 3) := by decide +kernel
theorem dX12_daysBy_44 : decode cX12_daysBy 44 = .ok (.aload_n 0, 1) := by decide +kernel
theorem dX12_daysBy_45 : decode cX12_daysBy 45 = .ok (.getfield 13, 3) := by decide +kernel
theorem dX12_daysBy_48 : decode cX12_daysBy 48 = .ok (.bipush 113, 2) := by decide +kernel
theorem dX12_daysBy_50 : decode cX12_daysBy 50 = .ok (.iload 5, 2) := by decide +kernel
theorem dX12_daysBy_52 : decode cX12_daysBy 52 = .ok (.iadd, 1) := by decide +kernel
theorem dX12_daysBy_53 : decode cX12_daysBy 53 = .ok (.iaload, 1) := by decide +kernel
theorem dX12_daysBy_54 : decode cX12_daysBy 54 = .ok (.iconst 1, 1) := by decide +kernel
theorem dX12_daysBy_55 : decode cX12_daysBy 55 = .ok (.if_icmp .gt 16, 3) := by decide +kernel
theorem dX12_daysBy_58 : decode cX12_daysBy 58 = .ok (.aload_n 0, 1) := by decide +kernel
theorem dX12_daysBy_59 : decode cX12_daysBy 59 = .ok (.getfield 112, 3) := by decide +kernel
theorem fl_RX12_112 : Cond.fieldLink RX12 112 RX12 "days" "[I" ∈ gW := gW_u tb_6 114 (by rfl) (by decide +kernel)
theorem dX12_daysBy_62 : decode cX12_daysBy 62 = .ok (.iload 5, 2) := by decide +kernel
theorem dX12_daysBy_64 : decode cX12_daysBy 64 = .ok (.iaload, 1) := by decide +kernel
theorem dX12_daysBy_65 : decode cX12_daysBy 65 = .ok (.ldc_w 505, 3) := by decide +kernel
theorem dX12_daysBy_68 : decode cX12_daysBy 68 = .ok (.if_icmp .ne 7, 3) := by decide +kernel
theorem dX12_daysBy_75 : decode cX12_daysBy 75 = .ok (.aload_n 0, 1) := by decide +kernel
theorem dX12_daysBy_76 : decode cX12_daysBy 76 = .ok (.getfield 112, 3) := by decide +kernel
theorem dX12_daysBy_79 : decode cX12_daysBy 79 = .ok (.iload 5, 2) := by decide +kernel
theorem dX12_daysBy_81 : decode cX12_daysBy 81 = .ok (.iaload, 1) := by decide +kernel
theorem dX12_daysBy_82 : decode cX12_daysBy 82 = .ok (.aload_n 0, 1) := by decide +kernel
theorem dX12_daysBy_83 : decode cX12_daysBy 83 = .ok (.iload_n 1, 1) := by decide +kernel
theorem dX12_daysBy_84 : decode cX12_daysBy 84 = .ok (.iload 5, 2) := by decide +kernel
theorem dX12_daysBy_86 : decode cX12_daysBy 86 = .ok (.invokevirtual 444, 3) := by decide +kernel
theorem dX12_daysBy_89 : decode cX12_daysBy 89 = .ok (.iadd, 1) := by decide +kernel
theorem dX12_daysBy_90 : decode cX12_daysBy 90 = .ok (.ireturn, 1) := by decide +kernel
def yX12_findDown : MethodName := ⟨RX12, "findDown", "(II)I"⟩
abbrev cX12_findDown : ByteArray := prog_14_method_101_code
theorem dX12_findDown_0 : decode cX12_findDown 0 = .ok (.iconst 0, 1) := by decide +kernel
theorem dX12_findDown_1 : decode cX12_findDown 1 = .ok (.istore_n 3, 1) := by decide +kernel
theorem dX12_findDown_2 : decode cX12_findDown 2 = .ok (.iload_n 3, 1) := by decide +kernel
theorem dX12_findDown_3 : decode cX12_findDown 3 = .ok (.bipush 40, 2) := by decide +kernel
theorem dX12_findDown_5 : decode cX12_findDown 5 = .ok (.if_icmp .ge 27, 3) := by decide +kernel
theorem dX12_findDown_8 : decode cX12_findDown 8 = .ok (.aload_n 0, 1) := by decide +kernel
theorem dX12_findDown_9 : decode cX12_findDown 9 = .ok (.getfield 112, 3) := by decide +kernel
theorem dX12_findDown_12 : decode cX12_findDown 12 = .ok (.iload_n 3, 1) := by decide +kernel
theorem dX12_findDown_13 : decode cX12_findDown 13 = .ok (.iload_n 3, 1) := by decide +kernel
theorem dX12_findDown_14 : decode cX12_findDown 14 = .ok (.iload_n 2, 1) := by decide +kernel
theorem dX12_findDown_15 : decode cX12_findDown 15 = .ok (.if_icmp .ne 7, 3) := by decide +kernel
theorem dX12_findDown_22 : decode cX12_findDown 22 = .ok (.ldc_w 505, 3) := by decide +kernel
theorem dX12_findDown_25 : decode cX12_findDown 25 = .ok (.iastore, 1) := by decide +kernel
theorem dX12_findDown_26 : decode cX12_findDown 26 = .ok (.iinc 3 1, 3) := by decide +kernel
theorem dX12_findDown_29 : decode cX12_findDown 29 = .ok (.goto (-27), 3) := by decide +kernel
theorem dX12_findDown_18 : decode cX12_findDown 18 = .ok (.iconst 0, 1) := by decide +kernel
theorem dX12_findDown_19 : decode cX12_findDown 19 = .ok (.goto 6, 3) := by decide +kernel
theorem dX12_findDown_32 : decode cX12_findDown 32 = .ok (.aload_n 0, 1) := by decide +kernel
theorem dX12_findDown_33 : decode cX12_findDown 33 = .ok (.iload_n 1, 1) := by decide +kernel
theorem dX12_findDown_34 : decode cX12_findDown 34 = .ok (.invokevirtual 475, 3) := by decide +kernel
theorem dX12_findDown_37 : decode cX12_findDown 37 = .ok (.ifCond .ne 7, 3) := by decide +kernel
theorem dX12_findDown_44 : decode cX12_findDown 44 = .ok (.iconst 1, 1) := by decide +kernel
theorem dX12_findDown_45 : decode cX12_findDown 45 = .ok (.istore_n 3, 1) := by decide +kernel
theorem dX12_findDown_46 : decode cX12_findDown 46 = .ok (.iload_n 3, 1) := by decide +kernel
theorem dX12_findDown_47 : decode cX12_findDown 47 = .ok (.ifCond .eq 109, 3) := by decide +kernel
theorem dX12_findDown_50 : decode cX12_findDown 50 = .ok (.iconst 0, 1) := by decide +kernel
theorem dX12_findDown_51 : decode cX12_findDown 51 = .ok (.istore_n 3, 1) := by decide +kernel
theorem dX12_findDown_52 : decode cX12_findDown 52 = .ok (.bipush 39, 2) := by decide +kernel
theorem dX12_findDown_54 : decode cX12_findDown 54 = .ok (.istore 4, 2) := by decide +kernel
theorem dX12_findDown_56 : decode cX12_findDown 56 = .ok (.iload 4, 2) := by decide +kernel
theorem dX12_findDown_58 : decode cX12_findDown 58 = .ok (.ifCond .lt 95, 3) := by decide +kernel
theorem dX12_findDown_61 : decode cX12_findDown 61 = .ok (.iconst 0, 1) := by decide +kernel
theorem dX12_findDown_62 : decode cX12_findDown 62 = .ok (.istore 5, 2) := by decide +kernel
theorem dX12_findDown_64 : decode cX12_findDown 64 = .ok (.iload 5, 2) := by decide +kernel
theorem dX12_findDown_66 : decode cX12_findDown 66 = .ok (.iconst 3, 1) := by decide +kernel
theorem dX12_findDown_67 : decode cX12_findDown 67 = .ok (.if_icmp .ge 80, 3) := by decide +kernel
theorem dX12_findDown_70 : decode cX12_findDown 70 = .ok (.iload 4, 2) := by decide +kernel
theorem dX12_findDown_72 : decode cX12_findDown 72 = .ok (.iload_n 2, 1) := by decide +kernel
theorem dX12_findDown_73 : decode cX12_findDown 73 = .ok (.if_icmp .eq 74, 3) := by decide +kernel
theorem dX12_findDown_76 : decode cX12_findDown 76 = .ok (.aload_n 0, 1) := by decide +kernel
theorem dX12_findDown_77 : decode cX12_findDown 77 = .ok (.iload_n 1, 1) := by decide +kernel
theorem dX12_findDown_78 : decode cX12_findDown 78 = .ok (.iload 4, 2) := by decide +kernel
theorem dX12_findDown_80 : decode cX12_findDown 80 = .ok (.iload 5, 2) := by decide +kernel
theorem dX12_findDown_82 : decode cX12_findDown 82 = .ok (.iload_n 2, 1) := by decide +kernel
theorem dX12_findDown_83 : decode cX12_findDown 83 = .ok (.invokevirtual 506, 3) := by decide +kernel
theorem lk_RX12_506 : Cond.methodLink RX12 506 yX12_daysBy ∈ gW := gW_u tb_8 198 (by rfl) (by decide +kernel)
theorem mI_X12_daysBy : Cond.instanceMethod yX12_daysBy ∈ gW := gW_u tb_8 200 (by rfl) (by decide +kernel)
theorem mS_X12_daysBy : Cond.selects RX12 yX12_daysBy yX12_daysBy ∈ gW := gW_p (q := (yX12_daysBy, 59)) 103 (by decide +kernel)
theorem mC_X12_daysBy : Cond.code yX12_daysBy cX12_daysBy 6 (some .int) ∈ gW := gW_u tb_8 201 (by rfl) (by decide +kernel)
theorem ok_X12_daysBy : okD yX12_daysBy 4 := ⟨by decide +kernel, by decide +kernel, by decide +kernel⟩
theorem dX12_findDown_86 : decode cX12_findDown 86 = .ok (.istore 6, 2) := by decide +kernel
theorem dX12_findDown_88 : decode cX12_findDown 88 = .ok (.iload_n 3, 1) := by decide +kernel
theorem dX12_findDown_89 : decode cX12_findDown 89 = .ok (.ifCond .ne 15, 3) := by decide +kernel
theorem dX12_findDown_104 : decode cX12_findDown 104 = .ok (.iconst 1, 1) := by decide +kernel
theorem dX12_findDown_105 : decode cX12_findDown 105 = .ok (.goto 4, 3) := by decide +kernel
theorem dX12_findDown_92 : decode cX12_findDown 92 = .ok (.iload 6, 2) := by decide +kernel
theorem dX12_findDown_94 : decode cX12_findDown 94 = .ok (.aload_n 0, 1) := by decide +kernel
theorem dX12_findDown_95 : decode cX12_findDown 95 = .ok (.getfield 112, 3) := by decide +kernel
theorem dX12_findDown_98 : decode cX12_findDown 98 = .ok (.iload 4, 2) := by decide +kernel
theorem dX12_findDown_100 : decode cX12_findDown 100 = .ok (.iaload, 1) := by decide +kernel
theorem dX12_findDown_101 : decode cX12_findDown 101 = .ok (.if_icmp .ge 7, 3) := by decide +kernel
theorem dX12_findDown_108 : decode cX12_findDown 108 = .ok (.iconst 0, 1) := by decide +kernel
theorem dX12_findDown_109 : decode cX12_findDown 109 = .ok (.istore_n 3, 1) := by decide +kernel
theorem dX12_findDown_110 : decode cX12_findDown 110 = .ok (.aload_n 0, 1) := by decide +kernel
theorem dX12_findDown_111 : decode cX12_findDown 111 = .ok (.getfield 112, 3) := by decide +kernel
theorem dX12_findDown_114 : decode cX12_findDown 114 = .ok (.iload 4, 2) := by decide +kernel
theorem dX12_findDown_116 : decode cX12_findDown 116 = .ok (.iload 6, 2) := by decide +kernel
theorem dX12_findDown_118 : decode cX12_findDown 118 = .ok (.aload_n 0, 1) := by decide +kernel
theorem dX12_findDown_119 : decode cX12_findDown 119 = .ok (.getfield 112, 3) := by decide +kernel
theorem dX12_findDown_122 : decode cX12_findDown 122 = .ok (.iload 4, 2) := by decide +kernel
theorem dX12_findDown_124 : decode cX12_findDown 124 = .ok (.iaload, 1) := by decide +kernel
theorem dX12_findDown_125 : decode cX12_findDown 125 = .ok (.if_icmp .ge 8, 3) := by decide +kernel
theorem dX12_findDown_133 : decode cX12_findDown 133 = .ok (.aload_n 0, 1) := by decide +kernel
theorem dX12_findDown_134 : decode cX12_findDown 134 = .ok (.getfield 112, 3) := by decide +kernel
theorem dX12_findDown_137 : decode cX12_findDown 137 = .ok (.iload 4, 2) := by decide +kernel
theorem dX12_findDown_139 : decode cX12_findDown 139 = .ok (.iaload, 1) := by decide +kernel
theorem dX12_findDown_140 : decode cX12_findDown 140 = .ok (.iastore, 1) := by decide +kernel
theorem dX12_findDown_141 : decode cX12_findDown 141 = .ok (.iinc 5 1, 3) := by decide +kernel
theorem dX12_findDown_144 : decode cX12_findDown 144 = .ok (.goto (-80), 3) := by decide +kernel
theorem dX12_findDown_128 : decode cX12_findDown 128 = .ok (.iload 6, 2) := by decide +kernel
theorem dX12_findDown_130 : decode cX12_findDown 130 = .ok (.goto 10, 3) := by decide +kernel
theorem dX12_findDown_147 : decode cX12_findDown 147 = .ok (.iinc 4 (-1), 3) := by decide +kernel
theorem dX12_findDown_150 : decode cX12_findDown 150 = .ok (.goto (-94), 3) := by decide +kernel
theorem dX12_findDown_153 : decode cX12_findDown 153 = .ok (.goto (-107), 3) := by decide +kernel
theorem dX12_findDown_156 : decode cX12_findDown 156 = .ok (.aload_n 0, 1) := by decide +kernel
theorem dX12_findDown_157 : decode cX12_findDown 157 = .ok (.getfield 112, 3) := by decide +kernel
theorem dX12_findDown_160 : decode cX12_findDown 160 = .ok (.aload_n 0, 1) := by decide +kernel
theorem dX12_findDown_161 : decode cX12_findDown 161 = .ok (.getfield 13, 3) := by decide +kernel
theorem dX12_findDown_164 : decode cX12_findDown 164 = .ok (.bipush 10, 2) := by decide +kernel
theorem dX12_findDown_166 : decode cX12_findDown 166 = .ok (.iload_n 1, 1) := by decide +kernel
theorem dX12_findDown_167 : decode cX12_findDown 167 = .ok (.iadd, 1) := by decide +kernel
theorem dX12_findDown_168 : decode cX12_findDown 168 = .ok (.iaload, 1) := by decide +kernel
theorem dX12_findDown_169 : decode cX12_findDown 169 = .ok (.iaload, 1) := by decide +kernel
theorem dX12_findDown_170 : decode cX12_findDown 170 = .ok (.ireturn, 1) := by decide +kernel
theorem dX12_findDown_40 : decode cX12_findDown 40 = .ok (.ldc_w 505, 3) := by decide +kernel
theorem dX12_findDown_43 : decode cX12_findDown 43 = .ok (.ireturn, 1) := by decide +kernel
def yX12_nextDown : MethodName := ⟨RX12, "nextDown", "(III)I"⟩
abbrev cX12_nextDown : ByteArray := prog_14_method_102_code
theorem dX12_nextDown_0 : decode cX12_nextDown 0 = .ok (.iconst (-1), 1) := by decide +kernel
theorem dX12_nextDown_1 : decode cX12_nextDown 1 = .ok (.istore 4, 2) := by decide +kernel
theorem dX12_nextDown_3 : decode cX12_nextDown 3 = .ok (.iconst 0, 1) := by decide +kernel
theorem dX12_nextDown_4 : decode cX12_nextDown 4 = .ok (.istore 5, 2) := by decide +kernel
theorem dX12_nextDown_6 : decode cX12_nextDown 6 = .ok (.iload 5, 2) := by decide +kernel
theorem dX12_nextDown_8 : decode cX12_nextDown 8 = .ok (.iconst 3, 1) := by decide +kernel
theorem dX12_nextDown_9 : decode cX12_nextDown 9 = .ok (.if_icmp .ge 57, 3) := by decide +kernel
theorem dX12_nextDown_12 : decode cX12_nextDown 12 = .ok (.iload_n 2, 1) := by decide +kernel
theorem dX12_nextDown_13 : decode cX12_nextDown 13 = .ok (.iload 5, 2) := by decide +kernel
theorem dX12_nextDown_15 : decode cX12_nextDown 15 = .ok (.invokestatic 472, 3) := by decide +kernel
theorem dX12_nextDown_18 : decode cX12_nextDown 18 = .ok (.istore 6, 2) := by decide +kernel
theorem dX12_nextDown_20 : decode cX12_nextDown 20 = .ok (.aload_n 0, 1) := by decide +kernel
theorem dX12_nextDown_21 : decode cX12_nextDown 21 = .ok (.iload_n 1, 1) := by decide +kernel
theorem dX12_nextDown_22 : decode cX12_nextDown 22 = .ok (.iload_n 2, 1) := by decide +kernel
theorem dX12_nextDown_23 : decode cX12_nextDown 23 = .ok (.iload 5, 2) := by decide +kernel
theorem dX12_nextDown_25 : decode cX12_nextDown 25 = .ok (.iload_n 3, 1) := by decide +kernel
theorem dX12_nextDown_26 : decode cX12_nextDown 26 = .ok (.invokevirtual 506, 3) := by decide +kernel
theorem dX12_nextDown_29 : decode cX12_nextDown 29 = .ok (.aload_n 0, 1) := by decide +kernel
theorem dX12_nextDown_30 : decode cX12_nextDown 30 = .ok (.getfield 112, 3) := by decide +kernel
theorem dX12_nextDown_33 : decode cX12_nextDown 33 = .ok (.iload_n 2, 1) := by decide +kernel
theorem dX12_nextDown_34 : decode cX12_nextDown 34 = .ok (.iaload, 1) := by decide +kernel
theorem dX12_nextDown_35 : decode cX12_nextDown 35 = .ok (.if_icmp .ne 21, 3) := by decide +kernel
theorem dX12_nextDown_56 : decode cX12_nextDown 56 = .ok (.iload 4, 2) := by decide +kernel
theorem dX12_nextDown_58 : decode cX12_nextDown 58 = .ok (.istore 4, 2) := by decide +kernel
theorem dX12_nextDown_60 : decode cX12_nextDown 60 = .ok (.iinc 5 1, 3) := by decide +kernel
theorem dX12_nextDown_63 : decode cX12_nextDown 63 = .ok (.goto (-57), 3) := by decide +kernel
theorem dX12_nextDown_38 : decode cX12_nextDown 38 = .ok (.iload 4, 2) := by decide +kernel
theorem dX12_nextDown_40 : decode cX12_nextDown 40 = .ok (.iconst (-1), 1) := by decide +kernel
theorem dX12_nextDown_41 : decode cX12_nextDown 41 = .ok (.if_icmp .eq 10, 3) := by decide +kernel
theorem dX12_nextDown_51 : decode cX12_nextDown 51 = .ok (.iload 6, 2) := by decide +kernel
theorem dX12_nextDown_53 : decode cX12_nextDown 53 = .ok (.goto 5, 3) := by decide +kernel
theorem dX12_nextDown_44 : decode cX12_nextDown 44 = .ok (.iload 6, 2) := by decide +kernel
theorem dX12_nextDown_46 : decode cX12_nextDown 46 = .ok (.iload 4, 2) := by decide +kernel
theorem dX12_nextDown_48 : decode cX12_nextDown 48 = .ok (.if_icmp .ge 8, 3) := by decide +kernel
theorem dX12_nextDown_66 : decode cX12_nextDown 66 = .ok (.iload 4, 2) := by decide +kernel
theorem dX12_nextDown_68 : decode cX12_nextDown 68 = .ok (.ireturn, 1) := by decide +kernel
