def yX3_hiddenCells : MethodName := ⟨RX3, "hiddenCells", "(LListenWells$World;)J"⟩
abbrev cX3_hiddenCells : ByteArray := prog_5_method_8_code
theorem dX3_hiddenCells_0 : decode cX3_hiddenCells 0 = .ok (.aload_n 0, 1) := by decide +kernel
theorem dX3_hiddenCells_1 : decode cX3_hiddenCells 1 = .ok (.getfield 21, 3) := by decide +kernel
theorem dX3_hiddenCells_4 : decode cX3_hiddenCells 4 = .ok (.aload_n 1, 1) := by decide +kernel
theorem dX3_hiddenCells_5 : decode cX3_hiddenCells 5 = .ok (.aload_n 1, 1) := by decide +kernel
theorem dX3_hiddenCells_6 : decode cX3_hiddenCells 6 = .ok (.invokevirtual 94, 3) := by decide +kernel
theorem lk_RX3_94 : Cond.methodLink RX3 94 yX10_lawInForce ∈ gW := gW_u tb_5 186 (by rfl) (by decide +kernel)
theorem dX3_hiddenCells_9 : decode cX3_hiddenCells 9 = .ok (.invokevirtual 25, 3) := by decide +kernel
theorem dX3_hiddenCells_12 : decode cX3_hiddenCells 12 = .ok (.lconst 0, 1) := by decide +kernel
theorem dX3_hiddenCells_13 : decode cX3_hiddenCells 13 = .ok (.lstore_n 2, 1) := by decide +kernel
theorem dX3_hiddenCells_14 : decode cX3_hiddenCells 14 = .ok (.iconst 0, 1) := by decide +kernel
theorem dX3_hiddenCells_15 : decode cX3_hiddenCells 15 = .ok (.istore 4, 2) := by decide +kernel
theorem dX3_hiddenCells_17 : decode cX3_hiddenCells 17 = .ok (.iload 4, 2) := by decide +kernel
theorem dX3_hiddenCells_19 : decode cX3_hiddenCells 19 = .ok (.bipush 40, 2) := by decide +kernel
theorem dX3_hiddenCells_21 : decode cX3_hiddenCells 21 = .ok (.if_icmp .ge 61, 3) := by decide +kernel
theorem dX3_hiddenCells_24 : decode cX3_hiddenCells 24 = .ok (.aload_n 1, 1) := by decide +kernel
theorem dX3_hiddenCells_25 : decode cX3_hiddenCells 25 = .ok (.getfield 31, 3) := by decide +kernel
theorem dX3_hiddenCells_28 : decode cX3_hiddenCells 28 = .ok (.getfield 37, 3) := by decide +kernel
theorem dX3_hiddenCells_31 : decode cX3_hiddenCells 31 = .ok (.iload 4, 2) := by decide +kernel
theorem dX3_hiddenCells_33 : decode cX3_hiddenCells 33 = .ok (.iaload, 1) := by decide +kernel
theorem dX3_hiddenCells_34 : decode cX3_hiddenCells 34 = .ok (.iconst 3, 1) := by decide +kernel
theorem dX3_hiddenCells_35 : decode cX3_hiddenCells 35 = .ok (.if_icmp .eq 41, 3) := by decide +kernel
theorem dX3_hiddenCells_76 : decode cX3_hiddenCells 76 = .ok (.iinc 4 1, 3) := by decide +kernel
theorem dX3_hiddenCells_79 : decode cX3_hiddenCells 79 = .ok (.goto (-62), 3) := by decide +kernel
theorem dX3_hiddenCells_38 : decode cX3_hiddenCells 38 = .ok (.aload_n 1, 1) := by decide +kernel
theorem dX3_hiddenCells_39 : decode cX3_hiddenCells 39 = .ok (.getfield 31, 3) := by decide +kernel
theorem dX3_hiddenCells_42 : decode cX3_hiddenCells 42 = .ok (.iload 4, 2) := by decide +kernel
theorem dX3_hiddenCells_44 : decode cX3_hiddenCells 44 = .ok (.invokevirtual 98, 3) := by decide +kernel
theorem lk_RX3_98 : Cond.methodLink RX3 98 yX6_isDug ∈ gW := gW_u tb_5 187 (by rfl) (by decide +kernel)
theorem dX3_hiddenCells_47 : decode cX3_hiddenCells 47 = .ok (.ifCond .ne 29, 3) := by decide +kernel
theorem dX3_hiddenCells_50 : decode cX3_hiddenCells 50 = .ok (.aload_n 0, 1) := by decide +kernel
theorem dX3_hiddenCells_51 : decode cX3_hiddenCells 51 = .ok (.iload 4, 2) := by decide +kernel
theorem dX3_hiddenCells_53 : decode cX3_hiddenCells 53 = .ok (.invokevirtual 42, 3) := by decide +kernel
theorem dX3_hiddenCells_56 : decode cX3_hiddenCells 56 = .ok (.aload_n 0, 1) := by decide +kernel
theorem dX3_hiddenCells_57 : decode cX3_hiddenCells 57 = .ok (.aload_n 1, 1) := by decide +kernel
theorem dX3_hiddenCells_58 : decode cX3_hiddenCells 58 = .ok (.getfield 56, 3) := by decide +kernel
theorem dX3_hiddenCells_61 : decode cX3_hiddenCells 61 = .ok (.iload 4, 2) := by decide +kernel
theorem dX3_hiddenCells_63 : decode cX3_hiddenCells 63 = .ok (.invokevirtual 102, 3) := by decide +kernel
theorem lk_RX3_102 : Cond.methodLink RX3 102 yX3_isAsHeard ∈ gW := gW_u tb_5 188 (by rfl) (by decide +kernel)
theorem mI_X3_isAsHeard : Cond.instanceMethod yX3_isAsHeard ∈ gW := gW_u tb_5 190 (by rfl) (by decide +kernel)
theorem mS_X3_isAsHeard : Cond.selects RX3 yX3_isAsHeard yX3_isAsHeard ∈ gW := gW_p (q := (yX3_isAsHeard, 4)) 38 (by decide +kernel)
theorem mC_X3_isAsHeard : Cond.code yX3_isAsHeard cX3_isAsHeard 4 (some .boolean) ∈ gW := gW_u tb_5 191 (by rfl) (by decide +kernel)
theorem ok_X3_isAsHeard : okD yX3_isAsHeard 2 := ⟨by decide +kernel, by decide +kernel, by decide +kernel⟩
theorem dX3_hiddenCells_66 : decode cX3_hiddenCells 66 = .ok (.ifCond .eq 10, 3) := by decide +kernel
theorem dX3_hiddenCells_69 : decode cX3_hiddenCells 69 = .ok (.lload_n 2, 1) := by decide +kernel
theorem dX3_hiddenCells_70 : decode cX3_hiddenCells 70 = .ok (.lconst 1, 1) := by decide +kernel
theorem dX3_hiddenCells_71 : decode cX3_hiddenCells 71 = .ok (.iload 4, 2) := by decide +kernel
theorem dX3_hiddenCells_73 : decode cX3_hiddenCells 73 = .ok (.lshl, 1) := by decide +kernel
theorem dX3_hiddenCells_74 : decode cX3_hiddenCells 74 = .ok (.lor, 1) := by decide +kernel
theorem dX3_hiddenCells_75 : decode cX3_hiddenCells 75 = .ok (.lstore_n 2, 1) := by decide +kernel
theorem dX3_hiddenCells_82 : decode cX3_hiddenCells 82 = .ok (.lload_n 2, 1) := by decide +kernel
theorem dX3_hiddenCells_83 : decode cX3_hiddenCells 83 = .ok (.lreturn, 1) := by decide +kernel
def yX5_beginHead : MethodName := ⟨RX5, "beginHead", "()V"⟩
abbrev cX5_beginHead : ByteArray := prog_7_method_14_code
theorem dX5_beginHead_0 : decode cX5_beginHead 0 = .ok (.aload_n 0, 1) := by decide +kernel
theorem dX5_beginHead_1 : decode cX5_beginHead 1 = .ok (.iconst 0, 1) := by decide +kernel
theorem dX5_beginHead_2 : decode cX5_beginHead 2 = .ok (.iconst (-1), 1) := by decide +kernel
theorem dX5_beginHead_3 : decode cX5_beginHead 3 = .ok (.invokevirtual 130, 3) := by decide +kernel
theorem dX5_beginHead_6 : decode cX5_beginHead 6 = .ok (.aload_n 0, 1) := by decide +kernel
theorem dX5_beginHead_7 : decode cX5_beginHead 7 = .ok (.iconst 1, 1) := by decide +kernel
theorem dX5_beginHead_8 : decode cX5_beginHead 8 = .ok (.iconst (-1), 1) := by decide +kernel
theorem dX5_beginHead_9 : decode cX5_beginHead 9 = .ok (.invokevirtual 130, 3) := by decide +kernel
theorem dX5_beginHead_12 : decode cX5_beginHead 12 = .ok (.aload_n 0, 1) := by decide +kernel
theorem dX5_beginHead_13 : decode cX5_beginHead 13 = .ok (.iconst 2, 1) := by decide +kernel
theorem dX5_beginHead_14 : decode cX5_beginHead 14 = .ok (.iconst (-1), 1) := by decide +kernel
theorem dX5_beginHead_15 : decode cX5_beginHead 15 = .ok (.invokevirtual 130, 3) := by decide +kernel
theorem dX5_beginHead_18 : decode cX5_beginHead 18 = .ok (.aload_n 0, 1) := by decide +kernel
theorem dX5_beginHead_19 : decode cX5_beginHead 19 = .ok (.iconst 3, 1) := by decide +kernel
theorem dX5_beginHead_20 : decode cX5_beginHead 20 = .ok (.iconst (-1), 1) := by decide +kernel
theorem dX5_beginHead_21 : decode cX5_beginHead 21 = .ok (.invokevirtual 130, 3) := by decide +kernel
theorem dX5_beginHead_24 : decode cX5_beginHead 24 = .ok (.aload_n 0, 1) := by decide +kernel
theorem dX5_beginHead_25 : decode cX5_beginHead 25 = .ok (.iconst 4, 1) := by decide +kernel
theorem dX5_beginHead_26 : decode cX5_beginHead 26 = .ok (.iconst 1, 1) := by decide +kernel
theorem dX5_beginHead_27 : decode cX5_beginHead 27 = .ok (.invokevirtual 130, 3) := by decide +kernel
theorem dX5_beginHead_30 : decode cX5_beginHead 30 = .ok (.return_, 1) := by decide +kernel
def yX7_runOrders : MethodName := ⟨RX7, "runOrders", "(LListenWells$Text;)I"⟩
abbrev cX7_runOrders : ByteArray := prog_9_method_9_code
theorem dX7_runOrders_0 : decode cX7_runOrders 0 = .ok (.aload_n 0, 1) := by decide +kernel
theorem dX7_runOrders_1 : decode cX7_runOrders 1 = .ok (.iconst 0, 1) := by decide +kernel
theorem dX7_runOrders_2 : decode cX7_runOrders 2 = .ok (.putfield 166, 3) := by decide +kernel
theorem fl_RX7_166 : Cond.fieldLink RX7 166 RX7 "done" "I" ∈ gW := gW_u tb_2 54 (by rfl) (by decide +kernel)
theorem dX7_runOrders_5 : decode cX7_runOrders 5 = .ok (.aload_n 0, 1) := by decide +kernel
theorem dX7_runOrders_6 : decode cX7_runOrders 6 = .ok (.iconst (-1), 1) := by decide +kernel
theorem dX7_runOrders_7 : decode cX7_runOrders 7 = .ok (.putfield 169, 3) := by decide +kernel
theorem dX7_runOrders_10 : decode cX7_runOrders 10 = .ok (.iconst 0, 1) := by decide +kernel
theorem dX7_runOrders_11 : decode cX7_runOrders 11 = .ok (.istore_n 2, 1) := by decide +kernel
theorem dX7_runOrders_12 : decode cX7_runOrders 12 = .ok (.iload_n 2, 1) := by decide +kernel
theorem dX7_runOrders_13 : decode cX7_runOrders 13 = .ok (.aload_n 1, 1) := by decide +kernel
theorem dX7_runOrders_14 : decode cX7_runOrders 14 = .ok (.getfield 170, 3) := by decide +kernel
theorem fl_RX7_170 : Cond.fieldLink RX7 170 RX8 "clauses" "I" ∈ gW := gW_u tb_2 92 (by rfl) (by decide +kernel)
theorem dX7_runOrders_17 : decode cX7_runOrders 17 = .ok (.if_icmp .ge 112, 3) := by decide +kernel
theorem dX7_runOrders_20 : decode cX7_runOrders 20 = .ok (.aload_n 1, 1) := by decide +kernel
theorem dX7_runOrders_21 : decode cX7_runOrders 21 = .ok (.iload_n 2, 1) := by decide +kernel
theorem dX7_runOrders_22 : decode cX7_runOrders 22 = .ok (.iconst 4, 1) := by decide +kernel
theorem dX7_runOrders_23 : decode cX7_runOrders 23 = .ok (.invokevirtual 175, 3) := by decide +kernel
theorem dX7_runOrders_26 : decode cX7_runOrders 26 = .ok (.istore_n 3, 1) := by decide +kernel
theorem dX7_runOrders_27 : decode cX7_runOrders 27 = .ok (.aload_n 1, 1) := by decide +kernel
theorem dX7_runOrders_28 : decode cX7_runOrders 28 = .ok (.iload_n 2, 1) := by decide +kernel
theorem dX7_runOrders_29 : decode cX7_runOrders 29 = .ok (.iconst 3, 1) := by decide +kernel
theorem dX7_runOrders_30 : decode cX7_runOrders 30 = .ok (.invokevirtual 175, 3) := by decide +kernel
theorem dX7_runOrders_33 : decode cX7_runOrders 33 = .ok (.istore 4, 2) := by decide +kernel
theorem dX7_runOrders_35 : decode cX7_runOrders 35 = .ok (.iconst 0, 1) := by decide +kernel
theorem dX7_runOrders_36 : decode cX7_runOrders 36 = .ok (.istore 5, 2) := by decide +kernel
theorem dX7_runOrders_38 : decode cX7_runOrders 38 = .ok (.iload 5, 2) := by decide +kernel
theorem dX7_runOrders_40 : decode cX7_runOrders 40 = .ok (.iload_n 3, 1) := by decide +kernel
theorem dX7_runOrders_41 : decode cX7_runOrders 41 = .ok (.if_icmp .ge 82, 3) := by decide +kernel
theorem dX7_runOrders_44 : decode cX7_runOrders 44 = .ok (.aload_n 0, 1) := by decide +kernel
theorem dX7_runOrders_45 : decode cX7_runOrders 45 = .ok (.getfield 25, 3) := by decide +kernel
theorem dX7_runOrders_48 : decode cX7_runOrders 48 = .ok (.aload_n 0, 1) := by decide +kernel
theorem dX7_runOrders_49 : decode cX7_runOrders 49 = .ok (.getfield 12, 3) := by decide +kernel
theorem dX7_runOrders_52 : decode cX7_runOrders 52 = .ok (.aload_n 0, 1) := by decide +kernel
theorem dX7_runOrders_53 : decode cX7_runOrders 53 = .ok (.getfield 166, 3) := by decide +kernel
theorem dX7_runOrders_56 : decode cX7_runOrders 56 = .ok (.aload_n 0, 1) := by decide +kernel
theorem dX7_runOrders_57 : decode cX7_runOrders 57 = .ok (.getfield 169, 3) := by decide +kernel
theorem dX7_runOrders_60 : decode cX7_runOrders 60 = .ok (.invokevirtual 178, 3) := by decide +kernel
theorem lk_RX7_178 : Cond.methodLink RX7 178 yX0_turnToOrders ∈ gW := gW_u tb_4 149 (by rfl) (by decide +kernel)
theorem mI_X0_turnToOrders : Cond.instanceMethod yX0_turnToOrders ∈ gW := gW_u tb_4 150 (by rfl) (by decide +kernel)
theorem mS_X0_turnToOrders : Cond.selects RX0 yX0_turnToOrders yX0_turnToOrders ∈ gW := gW_u tb_4 151 (by rfl) (by decide +kernel)
theorem mC_X0_turnToOrders : Cond.code yX0_turnToOrders cX0_turnToOrders 4 none ∈ gW := gW_u tb_4 152 (by rfl) (by decide +kernel)
theorem ok_X0_turnToOrders : okD yX0_turnToOrders 3 := ⟨by decide +kernel, by decide +kernel, by decide +kernel⟩
theorem dX7_runOrders_63 : decode cX7_runOrders 63 = .ok (.iload 4, 2) := by decide +kernel
theorem dX7_runOrders_65 : decode cX7_runOrders 65 = .ok (.iconst (-1), 1) := by decide +kernel
theorem dX7_runOrders_66 : decode cX7_runOrders 66 = .ok (.if_icmp .eq 30, 3) := by decide +kernel
theorem dX7_runOrders_69 : decode cX7_runOrders 69 = .ok (.aload_n 0, 1) := by decide +kernel
theorem dX7_runOrders_70 : decode cX7_runOrders 70 = .ok (.getfield 25, 3) := by decide +kernel
theorem dX7_runOrders_73 : decode cX7_runOrders 73 = .ok (.aload_n 1, 1) := by decide +kernel
theorem dX7_runOrders_74 : decode cX7_runOrders 74 = .ok (.iload 4, 2) := by decide +kernel
theorem dX7_runOrders_76 : decode cX7_runOrders 76 = .ok (.invokevirtual 182, 3) := by decide +kernel
theorem dX7_runOrders_79 : decode cX7_runOrders 79 = .ok (.ifCond .eq 38, 3) := by decide +kernel
theorem dX7_runOrders_117 : decode cX7_runOrders 117 = .ok (.iinc 5 1, 3) := by decide +kernel
theorem dX7_runOrders_120 : decode cX7_runOrders 120 = .ok (.goto (-82), 3) := by decide +kernel
theorem dX7_runOrders_82 : decode cX7_runOrders 82 = .ok (.aload_n 0, 1) := by decide +kernel
theorem dX7_runOrders_83 : decode cX7_runOrders 83 = .ok (.getfield 25, 3) := by decide +kernel
theorem dX7_runOrders_86 : decode cX7_runOrders 86 = .ok (.invokevirtual 186, 3) := by decide +kernel
theorem dX7_runOrders_89 : decode cX7_runOrders 89 = .ok (.iconst 1, 1) := by decide +kernel
theorem dX7_runOrders_90 : decode cX7_runOrders 90 = .ok (.if_icmp .eq 6, 3) := by decide +kernel
theorem dX7_runOrders_93 : decode cX7_runOrders 93 = .ok (.goto 24, 3) := by decide +kernel
theorem dX7_runOrders_96 : decode cX7_runOrders 96 = .ok (.aload_n 0, 1) := by decide +kernel
theorem dX7_runOrders_97 : decode cX7_runOrders 97 = .ok (.aload_n 1, 1) := by decide +kernel
theorem dX7_runOrders_98 : decode cX7_runOrders 98 = .ok (.iload_n 2, 1) := by decide +kernel
theorem dX7_runOrders_99 : decode cX7_runOrders 99 = .ok (.invokevirtual 190, 3) := by decide +kernel
theorem lk_RX7_190 : Cond.methodLink RX7 190 yX7_runOrder ∈ gW := gW_u tb_4 158 (by rfl) (by decide +kernel)
theorem mI_X7_runOrder : Cond.instanceMethod yX7_runOrder ∈ gW := gW_u tb_4 160 (by rfl) (by decide +kernel)
theorem mS_X7_runOrder : Cond.selects RX7 yX7_runOrder yX7_runOrder ∈ gW := gW_p (q := (yX7_runOrder, 5)) 28 (by decide +kernel)
theorem mC_X7_runOrder : Cond.code yX7_runOrder cX7_runOrder 6 (some .boolean) ∈ gW := gW_u tb_4 161 (by rfl) (by decide +kernel)
theorem ok_X7_runOrder : okD yX7_runOrder 2 := ⟨by decide +kernel, by decide +kernel, by decide +kernel⟩
theorem dX7_runOrders_102 : decode cX7_runOrders 102 = .ok (.ifCond .ne 5, 3) := by decide +kernel
theorem dX7_runOrders_107 : decode cX7_runOrders 107 = .ok (.aload_n 0, 1) := by decide +kernel
theorem dX7_runOrders_108 : decode cX7_runOrders 108 = .ok (.dup, 1) := by decide +kernel
theorem dX7_runOrders_109 : decode cX7_runOrders 109 = .ok (.getfield 166, 3) := by decide +kernel
theorem dX7_runOrders_112 : decode cX7_runOrders 112 = .ok (.iconst 1, 1) := by decide +kernel
theorem dX7_runOrders_113 : decode cX7_runOrders 113 = .ok (.iadd, 1) := by decide +kernel
theorem dX7_runOrders_114 : decode cX7_runOrders 114 = .ok (.putfield 166, 3) := by decide +kernel
theorem dX7_runOrders_105 : decode cX7_runOrders 105 = .ok (.iload_n 2, 1) := by decide +kernel
theorem dX7_runOrders_106 : decode cX7_runOrders 106 = .ok (.ireturn, 1) := by decide +kernel
theorem dX7_runOrders_123 : decode cX7_runOrders 123 = .ok (.iinc 2 1, 3) := by decide +kernel
theorem dX7_runOrders_126 : decode cX7_runOrders 126 = .ok (.goto (-114), 3) := by decide +kernel
theorem dX7_runOrders_129 : decode cX7_runOrders 129 = .ok (.iconst (-1), 1) := by decide +kernel
theorem dX7_runOrders_130 : decode cX7_runOrders 130 = .ok (.ireturn, 1) := by decide +kernel
def yX9_share : MethodName := ⟨RX9, "share", "(LListenWells$World;LListenWells$Asker;J)Z"⟩
abbrev cX9_share : ByteArray := prog_11_method_6_code
theorem dX9_share_0 : decode cX9_share 0 = .ok (.iconst 0, 1) := by decide +kernel
theorem dX9_share_1 : decode cX9_share 1 = .ok (.istore 5, 2) := by decide +kernel
theorem dX9_share_3 : decode cX9_share 3 = .ok (.iconst 0, 1) := by decide +kernel
theorem dX9_share_4 : decode cX9_share 4 = .ok (.istore 6, 2) := by decide +kernel
theorem dX9_share_6 : decode cX9_share 6 = .ok (.iload 6, 2) := by decide +kernel
theorem dX9_share_8 : decode cX9_share 8 = .ok (.bipush 40, 2) := by decide +kernel
theorem dX9_share_10 : decode cX9_share 10 = .ok (.if_icmp .ge 39, 3) := by decide +kernel
theorem dX9_share_13 : decode cX9_share 13 = .ok (.iload 5, 2) := by decide +kernel
theorem dX9_share_15 : decode cX9_share 15 = .ok (.bipush 6, 2) := by decide +kernel
theorem dX9_share_17 : decode cX9_share 17 = .ok (.if_icmp .ge 32, 3) := by decide +kernel
theorem dX9_share_20 : decode cX9_share 20 = .ok (.lload_n 3, 1) := by decide +kernel
theorem dX9_share_21 : decode cX9_share 21 = .ok (.iload 6, 2) := by decide +kernel
theorem dX9_share_23 : decode cX9_share 23 = .ok (.lshr, 1) := by decide +kernel
theorem dX9_share_24 : decode cX9_share 24 = .ok (.lconst 1, 1) := by decide +kernel
theorem dX9_share_25 : decode cX9_share 25 = .ok (.land, 1) := by decide +kernel
theorem dX9_share_26 : decode cX9_share 26 = .ok (.lconst 0, 1) := by decide +kernel
theorem dX9_share_27 : decode cX9_share 27 = .ok (.lcmp, 1) := by decide +kernel
theorem dX9_share_28 : decode cX9_share 28 = .ok (.ifCond .eq 15, 3) := by decide +kernel
theorem dX9_share_43 : decode cX9_share 43 = .ok (.iinc 6 1, 3) := by decide +kernel
theorem dX9_share_46 : decode cX9_share 46 = .ok (.goto (-40), 3) := by decide +kernel
theorem dX9_share_31 : decode cX9_share 31 = .ok (.aload_n 0, 1) := by decide +kernel
theorem dX9_share_32 : decode cX9_share 32 = .ok (.getfield 25, 3) := by decide +kernel
theorem dX9_share_35 : decode cX9_share 35 = .ok (.iload 5, 2) := by decide +kernel
theorem dX9_share_37 : decode cX9_share 37 = .ok (.iload 6, 2) := by decide +kernel
theorem dX9_share_39 : decode cX9_share 39 = .ok (.iastore, 1) := by decide +kernel
theorem dX9_share_40 : decode cX9_share 40 = .ok (.iinc 5 1, 3) := by decide +kernel
theorem dX9_share_49 : decode cX9_share 49 = .ok (.aload_n 0, 1) := by decide +kernel
theorem dX9_share_50 : decode cX9_share 50 = .ok (.aload_n 1, 1) := by decide +kernel
theorem dX9_share_51 : decode cX9_share 51 = .ok (.aload_n 2, 1) := by decide +kernel
theorem dX9_share_52 : decode cX9_share 52 = .ok (.iload 5, 2) := by decide +kernel
theorem dX9_share_54 : decode cX9_share 54 = .ok (.invokevirtual 73, 3) := by decide +kernel
theorem lk_RX9_73 : Cond.methodLink RX9 73 yX9_priceAll ∈ gW := gW_u tb_5 128 (by rfl) (by decide +kernel)
theorem mI_X9_priceAll : Cond.instanceMethod yX9_priceAll ∈ gW := gW_u tb_5 130 (by rfl) (by decide +kernel)
theorem mS_X9_priceAll : Cond.selects RX9 yX9_priceAll yX9_priceAll ∈ gW := gW_p (q := (yX9_priceAll, 11)) 33 (by decide +kernel)
theorem mC_X9_priceAll : Cond.code yX9_priceAll cX9_priceAll 7 none ∈ gW := gW_u tb_5 131 (by rfl) (by decide +kernel)
theorem ok_X9_priceAll : okD yX9_priceAll 3 := ⟨by decide +kernel, by decide +kernel, by decide +kernel⟩
theorem dX9_share_57 : decode cX9_share 57 = .ok (.aload_n 1, 1) := by decide +kernel
theorem dX9_share_58 : decode cX9_share 58 = .ok (.getfield 77, 3) := by decide +kernel
theorem dX9_share_61 : decode cX9_share 61 = .ok (.getfield 83, 3) := by decide +kernel
theorem dX9_share_64 : decode cX9_share 64 = .ok (.istore 6, 2) := by decide +kernel
theorem dX9_share_66 : decode cX9_share 66 = .ok (.iconst 1, 1) := by decide +kernel
theorem dX9_share_67 : decode cX9_share 67 = .ok (.iload 5, 2) := by decide +kernel
theorem dX9_share_69 : decode cX9_share 69 = .ok (.ishl, 1) := by decide +kernel
theorem dX9_share_70 : decode cX9_share 70 = .ok (.iconst 1, 1) := by decide +kernel
theorem dX9_share_71 : decode cX9_share 71 = .ok (.isub, 1) := by decide +kernel
theorem dX9_share_72 : decode cX9_share 72 = .ok (.istore 7, 2) := by decide +kernel
theorem dX9_share_74 : decode cX9_share 74 = .ok (.iconst 0, 1) := by decide +kernel
theorem dX9_share_75 : decode cX9_share 75 = .ok (.istore 8, 2) := by decide +kernel
theorem dX9_share_77 : decode cX9_share 77 = .ok (.iload 8, 2) := by decide +kernel
theorem dX9_share_79 : decode cX9_share 79 = .ok (.iload 7, 2) := by decide +kernel
theorem dX9_share_81 : decode cX9_share 81 = .ok (.if_icmp .gt 33, 3) := by decide +kernel
theorem dX9_share_84 : decode cX9_share 84 = .ok (.aload_n 0, 1) := by decide +kernel
theorem dX9_share_85 : decode cX9_share 85 = .ok (.getfield 31, 3) := by decide +kernel
theorem dX9_share_88 : decode cX9_share 88 = .ok (.iload 6, 2) := by decide +kernel
theorem dX9_share_90 : decode cX9_share 90 = .ok (.bipush 64, 2) := by decide +kernel
theorem dX9_share_92 : decode cX9_share 92 = .ok (.imul, 1) := by decide +kernel
theorem dX9_share_93 : decode cX9_share 93 = .ok (.iload 8, 2) := by decide +kernel
theorem dX9_share_95 : decode cX9_share 95 = .ok (.iadd, 1) := by decide +kernel
theorem dX9_share_96 : decode cX9_share 96 = .ok (.iload 8, 2) := by decide +kernel
theorem dX9_share_98 : decode cX9_share 98 = .ok (.ifCond .ne 7, 3) := by decide +kernel
theorem dX9_share_105 : decode cX9_share 105 = .ok (.ldc 68, 2) := by decide +kernel
theorem dX9_share_107 : decode cX9_share 107 = .ok (.iastore, 1) := by decide +kernel
theorem dX9_share_108 : decode cX9_share 108 = .ok (.iinc 8 1, 3) := by decide +kernel
theorem dX9_share_111 : decode cX9_share 111 = .ok (.goto (-34), 3) := by decide +kernel
theorem dX9_share_101 : decode cX9_share 101 = .ok (.iconst 0, 1) := by decide +kernel
theorem dX9_share_102 : decode cX9_share 102 = .ok (.goto 5, 3) := by decide +kernel
theorem dX9_share_114 : decode cX9_share 114 = .ok (.iload 6, 2) := by decide +kernel
theorem dX9_share_116 : decode cX9_share 116 = .ok (.iconst 1, 1) := by decide +kernel
theorem dX9_share_117 : decode cX9_share 117 = .ok (.isub, 1) := by decide +kernel
theorem dX9_share_118 : decode cX9_share 118 = .ok (.istore 8, 2) := by decide +kernel
theorem dX9_share_120 : decode cX9_share 120 = .ok (.iload 8, 2) := by decide +kernel
theorem dX9_share_122 : decode cX9_share 122 = .ok (.ifCond .lt 48, 3) := by decide +kernel
theorem dX9_share_125 : decode cX9_share 125 = .ok (.iconst 0, 1) := by decide +kernel
theorem dX9_share_126 : decode cX9_share 126 = .ok (.istore 9, 2) := by decide +kernel
theorem dX9_share_128 : decode cX9_share 128 = .ok (.iload 9, 2) := by decide +kernel
theorem dX9_share_130 : decode cX9_share 130 = .ok (.iload 7, 2) := by decide +kernel
theorem dX9_share_132 : decode cX9_share 132 = .ok (.if_icmp .gt 32, 3) := by decide +kernel
theorem dX9_share_135 : decode cX9_share 135 = .ok (.aload_n 0, 1) := by decide +kernel
theorem dX9_share_136 : decode cX9_share 136 = .ok (.getfield 31, 3) := by decide +kernel
theorem dX9_share_139 : decode cX9_share 139 = .ok (.iload 8, 2) := by decide +kernel
theorem dX9_share_141 : decode cX9_share 141 = .ok (.bipush 64, 2) := by decide +kernel
theorem dX9_share_143 : decode cX9_share 143 = .ok (.imul, 1) := by decide +kernel
theorem dX9_share_144 : decode cX9_share 144 = .ok (.iload 9, 2) := by decide +kernel
theorem dX9_share_146 : decode cX9_share 146 = .ok (.iadd, 1) := by decide +kernel
theorem dX9_share_147 : decode cX9_share 147 = .ok (.aload_n 0, 1) := by decide +kernel
theorem dX9_share_148 : decode cX9_share 148 = .ok (.iload 8, 2) := by decide +kernel
theorem dX9_share_150 : decode cX9_share 150 = .ok (.iload 9, 2) := by decide +kernel
theorem dX9_share_152 : decode cX9_share 152 = .ok (.iload 5, 2) := by decide +kernel
theorem dX9_share_154 : decode cX9_share 154 = .ok (.invokevirtual 88, 3) := by decide +kernel
theorem lk_RX9_88 : Cond.methodLink RX9 88 yX9_fewestFrom ∈ gW := gW_u tb_5 135 (by rfl) (by decide +kernel)
theorem mI_X9_fewestFrom : Cond.instanceMethod yX9_fewestFrom ∈ gW := gW_u tb_5 137 (by rfl) (by decide +kernel)
theorem mS_X9_fewestFrom : Cond.selects RX9 yX9_fewestFrom yX9_fewestFrom ∈ gW := gW_p (q := (yX9_fewestFrom, 11)) 34 (by decide +kernel)
theorem mC_X9_fewestFrom : Cond.code yX9_fewestFrom cX9_fewestFrom 6 (some .int) ∈ gW := gW_u tb_5 138 (by rfl) (by decide +kernel)
theorem ok_X9_fewestFrom : okD yX9_fewestFrom 3 := ⟨by decide +kernel, by decide +kernel, by decide +kernel⟩
theorem dX9_share_157 : decode cX9_share 157 = .ok (.iastore, 1) := by decide +kernel
theorem dX9_share_158 : decode cX9_share 158 = .ok (.iinc 9 1, 3) := by decide +kernel
theorem dX9_share_161 : decode cX9_share 161 = .ok (.goto (-33), 3) := by decide +kernel
theorem dX9_share_164 : decode cX9_share 164 = .ok (.iinc 8 (-1), 3) := by decide +kernel
theorem dX9_share_167 : decode cX9_share 167 = .ok (.goto (-47), 3) := by decide +kernel
theorem dX9_share_170 : decode cX9_share 170 = .ok (.aload_n 0, 1) := by decide +kernel
theorem dX9_share_171 : decode cX9_share 171 = .ok (.aload_n 0, 1) := by decide +kernel
theorem dX9_share_172 : decode cX9_share 172 = .ok (.getfield 31, 3) := by decide +kernel
theorem dX9_share_175 : decode cX9_share 175 = .ok (.iload 7, 2) := by decide +kernel
theorem dX9_share_177 : decode cX9_share 177 = .ok (.iaload, 1) := by decide +kernel
theorem dX9_share_178 : decode cX9_share 178 = .ok (.putfield 92, 3) := by decide +kernel
theorem dX9_share_181 : decode cX9_share 181 = .ok (.aload_n 0, 1) := by decide +kernel
theorem dX9_share_182 : decode cX9_share 182 = .ok (.getfield 92, 3) := by decide +kernel
theorem dX9_share_185 : decode cX9_share 185 = .ok (.ldc 68, 2) := by decide +kernel
theorem dX9_share_187 : decode cX9_share 187 = .ok (.if_icmp .lt 5, 3) := by decide +kernel
theorem dX9_share_192 : decode cX9_share 192 = .ok (.aload_n 0, 1) := by decide +kernel
theorem dX9_share_193 : decode cX9_share 193 = .ok (.iload 6, 2) := by decide +kernel
theorem dX9_share_195 : decode cX9_share 195 = .ok (.iload 5, 2) := by decide +kernel
theorem dX9_share_197 : decode cX9_share 197 = .ok (.invokevirtual 95, 3) := by decide +kernel
theorem lk_RX9_95 : Cond.methodLink RX9 95 yX9_fillRow ∈ gW := gW_u tb_5 143 (by rfl) (by decide +kernel)
theorem mI_X9_fillRow : Cond.instanceMethod yX9_fillRow ∈ gW := gW_u tb_5 145 (by rfl) (by decide +kernel)
theorem mS_X9_fillRow : Cond.selects RX9 yX9_fillRow yX9_fillRow ∈ gW := gW_p (q := (yX9_fillRow, 11)) 36 (by decide +kernel)
theorem mC_X9_fillRow : Cond.code yX9_fillRow cX9_fillRow 7 none ∈ gW := gW_u tb_5 146 (by rfl) (by decide +kernel)
theorem ok_X9_fillRow : okD yX9_fillRow 2 := ⟨by decide +kernel, by decide +kernel, by decide +kernel⟩
theorem dX9_share_200 : decode cX9_share 200 = .ok (.iconst 1, 1) := by decide +kernel
theorem dX9_share_201 : decode cX9_share 201 = .ok (.ireturn, 1) := by decide +kernel
theorem dX9_share_190 : decode cX9_share 190 = .ok (.iconst 0, 1) := by decide +kernel
theorem dX9_share_191 : decode cX9_share 191 = .ok (.ireturn, 1) := by decide +kernel
def yX11_hears : MethodName := ⟨RX11, "hears", "(I)J"⟩
abbrev cX11_hears : ByteArray := prog_1_method_22_code
theorem dX11_hears_0 : decode cX11_hears 0 = .ok (.aload_n 0, 1) := by decide +kernel
theorem dX11_hears_1 : decode cX11_hears 1 = .ok (.getfield 21, 3) := by decide +kernel
theorem dX11_hears_4 : decode cX11_hears 4 = .ok (.getfield 78, 3) := by decide +kernel
theorem dX11_hears_7 : decode cX11_hears 7 = .ok (.astore_n 2, 1) := by decide +kernel
theorem dX11_hears_8 : decode cX11_hears 8 = .ok (.iload_n 1, 1) := by decide +kernel
theorem dX11_hears_9 : decode cX11_hears 9 = .ok (.aload_n 2, 1) := by decide +kernel
theorem dX11_hears_10 : decode cX11_hears 10 = .ok (.getfield 156, 3) := by decide +kernel
theorem dX11_hears_13 : decode cX11_hears 13 = .ok (.getfield 160, 3) := by decide +kernel
theorem dX11_hears_16 : decode cX11_hears 16 = .ok (.invokestatic 82, 3) := by decide +kernel
theorem dX11_hears_19 : decode cX11_hears 19 = .ok (.ifCond .ne 7, 3) := by decide +kernel
theorem dX11_hears_26 : decode cX11_hears 26 = .ok (.aload_n 0, 1) := by decide +kernel
theorem dX11_hears_27 : decode cX11_hears 27 = .ok (.getfield 56, 3) := by decide +kernel
theorem fl_RX11_56 : Cond.fieldLink RX11 56 RX11 "ears" "LListenWells$Ears;" ∈ gW := gW_u tb_2 213 (by rfl) (by decide +kernel)
theorem dX11_hears_30 : decode cX11_hears 30 = .ok (.aload_n 2, 1) := by decide +kernel
theorem dX11_hears_31 : decode cX11_hears 31 = .ok (.aload_n 2, 1) := by decide +kernel
theorem dX11_hears_32 : decode cX11_hears 32 = .ok (.invokevirtual 116, 3) := by decide +kernel
theorem dX11_hears_35 : decode cX11_hears 35 = .ok (.invokevirtual 270, 3) := by decide +kernel
theorem lk_RX11_270 : Cond.methodLink RX11 270 yX3_measure ∈ gW := gW_u tb_5 23 (by rfl) (by decide +kernel)
theorem mI_X3_measure : Cond.instanceMethod yX3_measure ∈ gW := gW_u tb_5 24 (by rfl) (by decide +kernel)
theorem mS_X3_measure : Cond.selects RX3 yX3_measure yX3_measure ∈ gW := gW_u tb_5 25 (by rfl) (by decide +kernel)
theorem mC_X3_measure : Cond.code yX3_measure cX3_measure 4 none ∈ gW := gW_u tb_5 26 (by rfl) (by decide +kernel)
theorem ok_X3_measure : okD yX3_measure 2 := ⟨by decide +kernel, by decide +kernel, by decide +kernel⟩
theorem dX11_hears_38 : decode cX11_hears 38 = .ok (.aload_n 0, 1) := by decide +kernel
theorem dX11_hears_39 : decode cX11_hears 39 = .ok (.getfield 56, 3) := by decide +kernel
theorem dX11_hears_42 : decode cX11_hears 42 = .ok (.aload_n 2, 1) := by decide +kernel
theorem dX11_hears_43 : decode cX11_hears 43 = .ok (.iload_n 1, 1) := by decide +kernel
theorem dX11_hears_44 : decode cX11_hears 44 = .ok (.invokevirtual 273, 3) := by decide +kernel
theorem lk_RX11_273 : Cond.methodLink RX11 273 yX3_cellsHeardBy ∈ gW := gW_u tb_5 34 (by rfl) (by decide +kernel)
theorem mI_X3_cellsHeardBy : Cond.instanceMethod yX3_cellsHeardBy ∈ gW := gW_u tb_5 35 (by rfl) (by decide +kernel)
theorem mS_X3_cellsHeardBy : Cond.selects RX3 yX3_cellsHeardBy yX3_cellsHeardBy ∈ gW := gW_u tb_5 36 (by rfl) (by decide +kernel)
theorem mC_X3_cellsHeardBy : Cond.code yX3_cellsHeardBy cX3_cellsHeardBy 8 (some .long) ∈ gW := gW_u tb_5 37 (by rfl) (by decide +kernel)
theorem ok_X3_cellsHeardBy : okD yX3_cellsHeardBy 2 := ⟨by decide +kernel, by decide +kernel, by decide +kernel⟩
theorem dX11_hears_47 : decode cX11_hears 47 = .ok (.lreturn, 1) := by decide +kernel
theorem dX11_hears_22 : decode cX11_hears 22 = .ok (.ldc2_w 268, 3) := by decide +kernel
theorem dX11_hears_25 : decode cX11_hears 25 = .ok (.lreturn, 1) := by decide +kernel
