def yJ6_bitCount_0f7a4 : MethodName := ⟨RJ6, "bitCount", "(I)I"⟩
abbrev cJ6_bitCount_0f7a4 : ByteArray := prog_15_method_49_code
theorem dJ6_bitCount_0f7a4_0 : decode cJ6_bitCount_0f7a4 0 = .ok (.iload_n 0, 1) := by decide +kernel
theorem dJ6_bitCount_0f7a4_1 : decode cJ6_bitCount_0f7a4 1 = .ok (.iload_n 0, 1) := by decide +kernel
theorem dJ6_bitCount_0f7a4_2 : decode cJ6_bitCount_0f7a4 2 = .ok (.iconst 1, 1) := by decide +kernel
theorem dJ6_bitCount_0f7a4_3 : decode cJ6_bitCount_0f7a4 3 = .ok (.iushr, 1) := by decide +kernel
theorem dJ6_bitCount_0f7a4_4 : decode cJ6_bitCount_0f7a4 4 = .ok (.ldc_w 265, 3) := by decide +kernel
theorem ct_RJ6_265 : Cond.constant RJ6 265 1431655765 ∈ gW := gW_t 1118 (by decide +kernel) rfl
theorem dJ6_bitCount_0f7a4_7 : decode cJ6_bitCount_0f7a4 7 = .ok (.iand, 1) := by decide +kernel
theorem dJ6_bitCount_0f7a4_8 : decode cJ6_bitCount_0f7a4 8 = .ok (.isub, 1) := by decide +kernel
theorem dJ6_bitCount_0f7a4_9 : decode cJ6_bitCount_0f7a4 9 = .ok (.istore_n 0, 1) := by decide +kernel
theorem dJ6_bitCount_0f7a4_10 : decode cJ6_bitCount_0f7a4 10 = .ok (.iload_n 0, 1) := by decide +kernel
theorem dJ6_bitCount_0f7a4_11 : decode cJ6_bitCount_0f7a4 11 = .ok (.ldc_w 266, 3) := by decide +kernel
theorem ct_RJ6_266 : Cond.constant RJ6 266 858993459 ∈ gW := gW_t 1119 (by decide +kernel) rfl
theorem dJ6_bitCount_0f7a4_14 : decode cJ6_bitCount_0f7a4 14 = .ok (.iand, 1) := by decide +kernel
theorem dJ6_bitCount_0f7a4_15 : decode cJ6_bitCount_0f7a4 15 = .ok (.iload_n 0, 1) := by decide +kernel
theorem dJ6_bitCount_0f7a4_16 : decode cJ6_bitCount_0f7a4 16 = .ok (.iconst 2, 1) := by decide +kernel
theorem dJ6_bitCount_0f7a4_17 : decode cJ6_bitCount_0f7a4 17 = .ok (.iushr, 1) := by decide +kernel
theorem dJ6_bitCount_0f7a4_18 : decode cJ6_bitCount_0f7a4 18 = .ok (.ldc_w 266, 3) := by decide +kernel
theorem dJ6_bitCount_0f7a4_21 : decode cJ6_bitCount_0f7a4 21 = .ok (.iand, 1) := by decide +kernel
theorem dJ6_bitCount_0f7a4_22 : decode cJ6_bitCount_0f7a4 22 = .ok (.iadd, 1) := by decide +kernel
theorem dJ6_bitCount_0f7a4_23 : decode cJ6_bitCount_0f7a4 23 = .ok (.istore_n 0, 1) := by decide +kernel
theorem dJ6_bitCount_0f7a4_24 : decode cJ6_bitCount_0f7a4 24 = .ok (.iload_n 0, 1) := by decide +kernel
theorem dJ6_bitCount_0f7a4_25 : decode cJ6_bitCount_0f7a4 25 = .ok (.iload_n 0, 1) := by decide +kernel
theorem dJ6_bitCount_0f7a4_26 : decode cJ6_bitCount_0f7a4 26 = .ok (.iconst 4, 1) := by decide +kernel
theorem dJ6_bitCount_0f7a4_27 : decode cJ6_bitCount_0f7a4 27 = .ok (.iushr, 1) := by decide +kernel
theorem dJ6_bitCount_0f7a4_28 : decode cJ6_bitCount_0f7a4 28 = .ok (.iadd, 1) := by decide +kernel
theorem dJ6_bitCount_0f7a4_29 : decode cJ6_bitCount_0f7a4 29 = .ok (.ldc_w 267, 3) := by decide +kernel
theorem ct_RJ6_267 : Cond.constant RJ6 267 252645135 ∈ gW := gW_t 1120 (by decide +kernel) rfl
theorem dJ6_bitCount_0f7a4_32 : decode cJ6_bitCount_0f7a4 32 = .ok (.iand, 1) := by decide +kernel
theorem dJ6_bitCount_0f7a4_33 : decode cJ6_bitCount_0f7a4 33 = .ok (.istore_n 0, 1) := by decide +kernel
theorem dJ6_bitCount_0f7a4_34 : decode cJ6_bitCount_0f7a4 34 = .ok (.iload_n 0, 1) := by decide +kernel
theorem dJ6_bitCount_0f7a4_35 : decode cJ6_bitCount_0f7a4 35 = .ok (.iload_n 0, 1) := by decide +kernel
theorem dJ6_bitCount_0f7a4_36 : decode cJ6_bitCount_0f7a4 36 = .ok (.bipush 8, 2) := by decide +kernel
theorem dJ6_bitCount_0f7a4_38 : decode cJ6_bitCount_0f7a4 38 = .ok (.iushr, 1) := by decide +kernel
theorem dJ6_bitCount_0f7a4_39 : decode cJ6_bitCount_0f7a4 39 = .ok (.iadd, 1) := by decide +kernel
theorem dJ6_bitCount_0f7a4_40 : decode cJ6_bitCount_0f7a4 40 = .ok (.istore_n 0, 1) := by decide +kernel
theorem dJ6_bitCount_0f7a4_41 : decode cJ6_bitCount_0f7a4 41 = .ok (.iload_n 0, 1) := by decide +kernel
theorem dJ6_bitCount_0f7a4_42 : decode cJ6_bitCount_0f7a4 42 = .ok (.iload_n 0, 1) := by decide +kernel
theorem dJ6_bitCount_0f7a4_43 : decode cJ6_bitCount_0f7a4 43 = .ok (.bipush 16, 2) := by decide +kernel
theorem dJ6_bitCount_0f7a4_45 : decode cJ6_bitCount_0f7a4 45 = .ok (.iushr, 1) := by decide +kernel
theorem dJ6_bitCount_0f7a4_46 : decode cJ6_bitCount_0f7a4 46 = .ok (.iadd, 1) := by decide +kernel
theorem dJ6_bitCount_0f7a4_47 : decode cJ6_bitCount_0f7a4 47 = .ok (.istore_n 0, 1) := by decide +kernel
theorem dJ6_bitCount_0f7a4_48 : decode cJ6_bitCount_0f7a4 48 = .ok (.iload_n 0, 1) := by decide +kernel
theorem dJ6_bitCount_0f7a4_49 : decode cJ6_bitCount_0f7a4 49 = .ok (.bipush 63, 2) := by decide +kernel
theorem dJ6_bitCount_0f7a4_51 : decode cJ6_bitCount_0f7a4 51 = .ok (.iand, 1) := by decide +kernel
theorem dJ6_bitCount_0f7a4_52 : decode cJ6_bitCount_0f7a4 52 = .ok (.ireturn, 1) := by decide +kernel
def yX4_meanWater : MethodName := ⟨RX4, "meanWater", "(I)Z"⟩
abbrev cX4_meanWater : ByteArray := prog_6_method_8_code
theorem dX4_meanWater_0 : decode cX4_meanWater 0 = .ok (.iconst 0, 1) := by decide +kernel
theorem dX4_meanWater_1 : decode cX4_meanWater 1 = .ok (.istore_n 2, 1) := by decide +kernel
theorem dX4_meanWater_2 : decode cX4_meanWater 2 = .ok (.iload_n 2, 1) := by decide +kernel
theorem dX4_meanWater_3 : decode cX4_meanWater 3 = .ok (.aload_n 0, 1) := by decide +kernel
theorem dX4_meanWater_4 : decode cX4_meanWater 4 = .ok (.getfield 59, 3) := by decide +kernel
theorem dX4_meanWater_7 : decode cX4_meanWater 7 = .ok (.if_icmp .ge 49, 3) := by decide +kernel
theorem dX4_meanWater_56 : decode cX4_meanWater 56 = .ok (.iconst 1, 1) := by decide +kernel
theorem dX4_meanWater_57 : decode cX4_meanWater 57 = .ok (.ireturn, 1) := by decide +kernel
def yX4_fewestSounds : MethodName := ⟨RX4, "fewestSounds", "()I"⟩
abbrev cX4_fewestSounds : ByteArray := prog_6_method_7_code
theorem dX4_fewestSounds_0 : decode cX4_fewestSounds 0 = .ok (.iconst (-1), 1) := by decide +kernel
theorem dX4_fewestSounds_1 : decode cX4_fewestSounds 1 = .ok (.istore_n 1, 1) := by decide +kernel
theorem dX4_fewestSounds_2 : decode cX4_fewestSounds 2 = .ok (.iconst 0, 1) := by decide +kernel
theorem dX4_fewestSounds_3 : decode cX4_fewestSounds 3 = .ok (.istore_n 2, 1) := by decide +kernel
theorem dX4_fewestSounds_4 : decode cX4_fewestSounds 4 = .ok (.iload_n 2, 1) := by decide +kernel
theorem dX4_fewestSounds_5 : decode cX4_fewestSounds 5 = .ok (.bipush 64, 2) := by decide +kernel
theorem dX4_fewestSounds_7 : decode cX4_fewestSounds 7 = .ok (.if_icmp .ge 45, 3) := by decide +kernel
theorem dX4_fewestSounds_10 : decode cX4_fewestSounds 10 = .ok (.iload_n 1, 1) := by decide +kernel
theorem dX4_fewestSounds_11 : decode cX4_fewestSounds 11 = .ok (.iconst (-1), 1) := by decide +kernel
theorem dX4_fewestSounds_12 : decode cX4_fewestSounds 12 = .ok (.if_icmp .eq 14, 3) := by decide +kernel
theorem dX4_fewestSounds_26 : decode cX4_fewestSounds 26 = .ok (.iconst 1, 1) := by decide +kernel
theorem dX4_fewestSounds_27 : decode cX4_fewestSounds 27 = .ok (.goto 4, 3) := by decide +kernel
theorem dX4_fewestSounds_31 : decode cX4_fewestSounds 31 = .ok (.istore_n 3, 1) := by decide +kernel
theorem dX4_fewestSounds_32 : decode cX4_fewestSounds 32 = .ok (.iload_n 3, 1) := by decide +kernel
theorem dX4_fewestSounds_33 : decode cX4_fewestSounds 33 = .ok (.ifCond .eq 13, 3) := by decide +kernel
theorem dX4_fewestSounds_36 : decode cX4_fewestSounds 36 = .ok (.aload_n 0, 1) := by decide +kernel
theorem dX4_fewestSounds_37 : decode cX4_fewestSounds 37 = .ok (.iload_n 2, 1) := by decide +kernel
theorem dX4_fewestSounds_38 : decode cX4_fewestSounds 38 = .ok (.invokevirtual 67, 3) := by decide +kernel
theorem lk_RX4_67 : Cond.methodLink RX4 67 yX4_meanWater ∈ gW := gW_t 1180 (by decide +kernel) rfl
theorem mI_X4_meanWater : Cond.instanceMethod yX4_meanWater ∈ gW := gW_t 1182 (by decide +kernel) rfl
theorem mS_X4_meanWater : Cond.selects RX4 yX4_meanWater yX4_meanWater ∈ gW := gW_p (q := (yX4_meanWater, 13)) 39 (by decide +kernel)
theorem mC_X4_meanWater : Cond.code yX4_meanWater cX4_meanWater 4 (some .boolean) ∈ gW := gW_t 1183 (by decide +kernel) rfl
theorem ok_X4_meanWater : okD yX4_meanWater 1 := ⟨by decide +kernel, by decide +kernel, by decide +kernel⟩
theorem dX4_fewestSounds_41 : decode cX4_fewestSounds 41 = .ok (.ifCond .eq 5, 3) := by decide +kernel
theorem dX4_fewestSounds_44 : decode cX4_fewestSounds 44 = .ok (.iload_n 2, 1) := by decide +kernel
theorem dX4_fewestSounds_45 : decode cX4_fewestSounds 45 = .ok (.istore_n 1, 1) := by decide +kernel
theorem dX4_fewestSounds_46 : decode cX4_fewestSounds 46 = .ok (.iinc 2 1, 3) := by decide +kernel
theorem dX4_fewestSounds_49 : decode cX4_fewestSounds 49 = .ok (.goto (-45), 3) := by decide +kernel
theorem dX4_fewestSounds_15 : decode cX4_fewestSounds 15 = .ok (.iload_n 2, 1) := by decide +kernel
theorem dX4_fewestSounds_16 : decode cX4_fewestSounds 16 = .ok (.invokestatic 62, 3) := by decide +kernel
theorem lk_RX4_62 : Cond.methodLink RX4 62 yJ6_bitCount_0f7a4 ∈ gW := gW_t 1179 (by decide +kernel) rfl
theorem mT_J6_bitCount_0f7a4 : Cond.static yJ6_bitCount_0f7a4 ∈ gW := gW_t 1116 (by decide +kernel) rfl
theorem mN_RJ6 : Cond.initialized RJ6 ∈ gW := gW_t 22 (by decide +kernel) rfl
theorem mC_J6_bitCount_0f7a4 : Cond.code yJ6_bitCount_0f7a4 cJ6_bitCount_0f7a4 1 (some .int) ∈ gW := gW_t 1117 (by decide +kernel) rfl
theorem ok_J6_bitCount_0f7a4 : okD yJ6_bitCount_0f7a4 1 := ⟨by decide +kernel, by decide +kernel, by decide +kernel⟩
theorem dX4_fewestSounds_19 : decode cX4_fewestSounds 19 = .ok (.iload_n 1, 1) := by decide +kernel
theorem dX4_fewestSounds_20 : decode cX4_fewestSounds 20 = .ok (.invokestatic 62, 3) := by decide +kernel
theorem dX4_fewestSounds_23 : decode cX4_fewestSounds 23 = .ok (.if_icmp .ge 7, 3) := by decide +kernel
theorem dX4_fewestSounds_30 : decode cX4_fewestSounds 30 = .ok (.iconst 0, 1) := by decide +kernel
theorem dX4_fewestSounds_52 : decode cX4_fewestSounds 52 = .ok (.iload_n 1, 1) := by decide +kernel
theorem dX4_fewestSounds_53 : decode cX4_fewestSounds 53 = .ok (.ireturn, 1) := by decide +kernel
def yX11_tongue : MethodName := ⟨RX11, "tongue", "(I)I"⟩
abbrev cX11_tongue : ByteArray := prog_1_method_36_code
theorem dX11_tongue_0 : decode cX11_tongue 0 = .ok (.iload_n 1, 1) := by decide +kernel
theorem dX11_tongue_1 : decode cX11_tongue 1 = .ok (.iconst 2, 1) := by decide +kernel
theorem dX11_tongue_2 : decode cX11_tongue 2 = .ok (.invokestatic 82, 3) := by decide +kernel
theorem dX11_tongue_5 : decode cX11_tongue 5 = .ok (.ifCond .eq 19, 3) := by decide +kernel
theorem dX11_tongue_24 : decode cX11_tongue 24 = .ok (.iconst (-1), 1) := by decide +kernel
theorem dX11_tongue_25 : decode cX11_tongue 25 = .ok (.istore_n 2, 1) := by decide +kernel
theorem dX11_tongue_26 : decode cX11_tongue 26 = .ok (.iload_n 2, 1) := by decide +kernel
theorem dX11_tongue_27 : decode cX11_tongue 27 = .ok (.iconst (-1), 1) := by decide +kernel
theorem dX11_tongue_28 : decode cX11_tongue 28 = .ok (.if_icmp .ne 5, 3) := by decide +kernel
theorem dX11_tongue_31 : decode cX11_tongue 31 = .ok (.iconst (-1), 1) := by decide +kernel
theorem dX11_tongue_32 : decode cX11_tongue 32 = .ok (.ireturn, 1) := by decide +kernel
theorem dX11_tongue_8 : decode cX11_tongue 8 = .ok (.aload_n 0, 1) := by decide +kernel
theorem dX11_tongue_9 : decode cX11_tongue 9 = .ok (.getfield 21, 3) := by decide +kernel
theorem dX11_tongue_12 : decode cX11_tongue 12 = .ok (.getfield 78, 3) := by decide +kernel
theorem dX11_tongue_15 : decode cX11_tongue 15 = .ok (.getfield 156, 3) := by decide +kernel
theorem dX11_tongue_18 : decode cX11_tongue 18 = .ok (.invokevirtual 349, 3) := by decide +kernel
theorem lk_RX11_349 : Cond.methodLink RX11 349 yX4_fewestSounds ∈ gW := gW_t 1175 (by decide +kernel) rfl
theorem mI_X4_fewestSounds : Cond.instanceMethod yX4_fewestSounds ∈ gW := gW_t 1176 (by decide +kernel) rfl
theorem mS_X4_fewestSounds : Cond.selects RX4 yX4_fewestSounds yX4_fewestSounds ∈ gW := gW_t 1177 (by decide +kernel) rfl
theorem mC_X4_fewestSounds : Cond.code yX4_fewestSounds cX4_fewestSounds 4 (some .int) ∈ gW := gW_t 1178 (by decide +kernel) rfl
theorem ok_X4_fewestSounds : okD yX4_fewestSounds 0 := ⟨by decide +kernel, by decide +kernel, by decide +kernel⟩
theorem dX11_tongue_21 : decode cX11_tongue 21 = .ok (.goto 4, 3) := by decide +kernel
theorem dX11_tongue_33 : decode cX11_tongue 33 = .ok (.iload_n 1, 1) := by decide +kernel
theorem dX11_tongue_34 : decode cX11_tongue 34 = .ok (.ifCond .ne 10, 3) := by decide +kernel
theorem dX11_tongue_44 : decode cX11_tongue 44 = .ok (.iload_n 2, 1) := by decide +kernel
theorem dX11_tongue_45 : decode cX11_tongue 45 = .ok (.ireturn, 1) := by decide +kernel
theorem dX11_tongue_37 : decode cX11_tongue 37 = .ok (.iload_n 2, 1) := by decide +kernel
theorem dX11_tongue_38 : decode cX11_tongue 38 = .ok (.invokestatic 325, 3) := by decide +kernel
theorem lk_RX11_325 : Cond.methodLink RX11 325 yJ6_bitCount_0f7a4 ∈ gW := gW_t 1125 (by decide +kernel) rfl
theorem dX11_tongue_41 : decode cX11_tongue 41 = .ok (.goto 4, 3) := by decide +kernel
