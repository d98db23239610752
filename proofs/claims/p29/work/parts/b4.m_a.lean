theorem dL_law_260 : decode cL_law 260 = .ok (.invokevirtual 17, 3) := by decide +kernel
theorem lk_RL_17 : Cond.methodLink RL 17 yX12_put ∈ gW := gW_u tb_7 38 (by rfl) (by decide +kernel)
theorem mI_X12_put : Cond.instanceMethod yX12_put ∈ gW := gW_u tb_7 39 (by rfl) (by decide +kernel)
theorem mS_X12_put : Cond.selects RX12 yX12_put yX12_put ∈ gW := gW_u tb_7 40 (by rfl) (by decide +kernel)
theorem mC_X12_put : Cond.code yX12_put cX12_put 4 (some .int) ∈ gW := gW_u tb_7 41 (by rfl) (by decide +kernel)
theorem ok_X12_put : okD yX12_put 3 := ⟨by decide +kernel, by decide +kernel, by decide +kernel⟩
theorem dL_law_293 : decode cL_law 293 = .ok (.invokevirtual 22, 3) := by decide +kernel
theorem lk_RL_22 : Cond.methodLink RL 22 yX12_at ∈ gW := gW_u tb_7 59 (by rfl) (by decide +kernel)
theorem mI_X12_at : Cond.instanceMethod yX12_at ∈ gW := gW_u tb_7 60 (by rfl) (by decide +kernel)
theorem mS_X12_at : Cond.selects RX12 yX12_at yX12_at ∈ gW := gW_u tb_7 61 (by rfl) (by decide +kernel)
theorem mC_X12_at : Cond.code yX12_at cX12_at 3 (some .int) ∈ gW := gW_u tb_7 62 (by rfl) (by decide +kernel)
theorem ok_X12_at : okD yX12_at 2 := ⟨by decide +kernel, by decide +kernel, by decide +kernel⟩
theorem dL_law_316 : decode cL_law 316 = .ok (.invokevirtual 27, 3) := by decide +kernel
theorem lk_RL_27 : Cond.methodLink RL 27 yX12_sink ∈ gW := gW_u tb_7 103 (by rfl) (by decide +kernel)
theorem mI_X12_sink : Cond.instanceMethod yX12_sink ∈ gW := gW_u tb_7 104 (by rfl) (by decide +kernel)
theorem mS_X12_sink : Cond.selects RX12 yX12_sink yX12_sink ∈ gW := gW_u tb_7 105 (by rfl) (by decide +kernel)
theorem mC_X12_sink : Cond.code yX12_sink cX12_sink 3 (some .int) ∈ gW := gW_u tb_7 106 (by rfl) (by decide +kernel)
theorem ok_X12_sink : okD yX12_sink 1 := ⟨by decide +kernel, by decide +kernel, by decide +kernel⟩
theorem dL_law_349 : decode cL_law 349 = .ok (.invokevirtual 31, 3) := by decide +kernel
theorem lk_RL_31 : Cond.methodLink RL 31 yX12_of ∈ gW := gW_u tb_7 111 (by rfl) (by decide +kernel)
theorem mI_X12_of : Cond.instanceMethod yX12_of ∈ gW := gW_u tb_7 112 (by rfl) (by decide +kernel)
theorem mS_X12_of : Cond.selects RX12 yX12_of yX12_of ∈ gW := gW_u tb_7 113 (by rfl) (by decide +kernel)
theorem mC_X12_of : Cond.code yX12_of cX12_of 3 (some .int) ∈ gW := gW_u tb_7 114 (by rfl) (by decide +kernel)
theorem ok_X12_of : okD yX12_of 2 := ⟨by decide +kernel, by decide +kernel, by decide +kernel⟩
theorem dL_law_382 : decode cL_law 382 = .ok (.invokevirtual 35, 3) := by decide +kernel
theorem lk_RL_35 : Cond.methodLink RL 35 yX12_listener ∈ gW := gW_u tb_7 148 (by rfl) (by decide +kernel)
theorem mI_X12_listener : Cond.instanceMethod yX12_listener ∈ gW := gW_u tb_7 149 (by rfl) (by decide +kernel)
theorem mS_X12_listener : Cond.selects RX12 yX12_listener yX12_listener ∈ gW := gW_u tb_7 150 (by rfl) (by decide +kernel)
theorem mC_X12_listener : Cond.code yX12_listener cX12_listener 4 (some .int) ∈ gW := gW_u tb_7 151 (by rfl) (by decide +kernel)
theorem ok_X12_listener : okD yX12_listener 2 := ⟨by decide +kernel, by decide +kernel, by decide +kernel⟩
theorem dL_law_415 : decode cL_law 415 = .ok (.invokevirtual 39, 3) := by decide +kernel
theorem lk_RL_39 : Cond.methodLink RL 39 yX12_noise ∈ gW := gW_u tb_7 152 (by rfl) (by decide +kernel)
theorem mI_X12_noise : Cond.instanceMethod yX12_noise ∈ gW := gW_u tb_7 153 (by rfl) (by decide +kernel)
theorem mS_X12_noise : Cond.selects RX12 yX12_noise yX12_noise ∈ gW := gW_u tb_7 154 (by rfl) (by decide +kernel)
theorem mC_X12_noise : Cond.code yX12_noise cX12_noise 4 (some .int) ∈ gW := gW_u tb_7 155 (by rfl) (by decide +kernel)
theorem ok_X12_noise : okD yX12_noise 2 := ⟨by decide +kernel, by decide +kernel, by decide +kernel⟩
theorem dL_law_448 : decode cL_law 448 = .ok (.invokevirtual 43, 3) := by decide +kernel
theorem lk_RL_43 : Cond.methodLink RL 43 yX12_who ∈ gW := gW_u tb_7 156 (by rfl) (by decide +kernel)
theorem mI_X12_who : Cond.instanceMethod yX12_who ∈ gW := gW_u tb_7 157 (by rfl) (by decide +kernel)
theorem mS_X12_who : Cond.selects RX12 yX12_who yX12_who ∈ gW := gW_u tb_7 158 (by rfl) (by decide +kernel)
theorem mC_X12_who : Cond.code yX12_who cX12_who 3 (some .int) ∈ gW := gW_u tb_7 159 (by rfl) (by decide +kernel)
theorem ok_X12_who : okD yX12_who 2 := ⟨by decide +kernel, by decide +kernel, by decide +kernel⟩
theorem dL_law_481 : decode cL_law 481 = .ok (.invokevirtual 47, 3) := by decide +kernel
theorem lk_RL_47 : Cond.methodLink RL 47 yX12_terms ∈ gW := gW_u tb_7 165 (by rfl) (by decide +kernel)
theorem mI_X12_terms : Cond.instanceMethod yX12_terms ∈ gW := gW_u tb_7 166 (by rfl) (by decide +kernel)
theorem mS_X12_terms : Cond.selects RX12 yX12_terms yX12_terms ∈ gW := gW_u tb_7 167 (by rfl) (by decide +kernel)
theorem mC_X12_terms : Cond.code yX12_terms cX12_terms 4 (some .int) ∈ gW := gW_u tb_7 168 (by rfl) (by decide +kernel)
theorem ok_X12_terms : okD yX12_terms 2 := ⟨by decide +kernel, by decide +kernel, by decide +kernel⟩
theorem dL_law_544 : decode cL_law 544 = .ok (.invokevirtual 52, 3) := by decide +kernel
theorem lk_RL_52 : Cond.methodLink RL 52 yX12_feed ∈ gW := gW_u tb_7 179 (by rfl) (by decide +kernel)
theorem mI_X12_feed : Cond.instanceMethod yX12_feed ∈ gW := gW_u tb_7 180 (by rfl) (by decide +kernel)
theorem mS_X12_feed : Cond.selects RX12 yX12_feed yX12_feed ∈ gW := gW_u tb_7 181 (by rfl) (by decide +kernel)
theorem mC_X12_feed : Cond.code yX12_feed cX12_feed 6 (some .int) ∈ gW := gW_u tb_7 182 (by rfl) (by decide +kernel)
theorem ok_X12_feed : okD yX12_feed 5 := ⟨by decide +kernel, by decide +kernel, by decide +kernel⟩
theorem dL_law_567 : decode cL_law 567 = .ok (.invokevirtual 56, 3) := by decide +kernel
theorem lk_RL_56 : Cond.methodLink RL 56 yX12_end ∈ gW := gW_u tb_7 187 (by rfl) (by decide +kernel)
theorem mI_X12_end : Cond.instanceMethod yX12_end ∈ gW := gW_u tb_7 188 (by rfl) (by decide +kernel)
theorem mS_X12_end : Cond.selects RX12 yX12_end yX12_end ∈ gW := gW_u tb_7 189 (by rfl) (by decide +kernel)
theorem mC_X12_end : Cond.code yX12_end cX12_end 2 (some .int) ∈ gW := gW_u tb_7 190 (by rfl) (by decide +kernel)
theorem ok_X12_end : okD yX12_end 1 := ⟨by decide +kernel, by decide +kernel, by decide +kernel⟩
theorem dL_law_580 : decode cL_law 580 = .ok (.invokevirtual 61, 3) := by decide +kernel
theorem lk_RL_61 : Cond.methodLink RL 61 yX12_row ∈ gW := gW_u tb_7 171 (by rfl) (by decide +kernel)
theorem mI_X12_row : Cond.instanceMethod yX12_row ∈ gW := gW_u tb_7 172 (by rfl) (by decide +kernel)
theorem mS_X12_row : Cond.selects RX12 yX12_row yX12_row ∈ gW := gW_u tb_7 173 (by rfl) (by decide +kernel)
theorem mC_X12_row : Cond.code yX12_row cX12_row 5 (some .int) ∈ gW := gW_u tb_7 174 (by rfl) (by decide +kernel)
theorem ok_X12_row : okD yX12_row 0 := ⟨by decide +kernel, by decide +kernel, by decide +kernel⟩
theorem dL_law_593 : decode cL_law 593 = .ok (.invokevirtual 65, 3) := by decide +kernel
theorem lk_RL_65 : Cond.methodLink RL 65 yX12_mud ∈ gW := gW_u tb_7 175 (by rfl) (by decide +kernel)
theorem mI_X12_mud : Cond.instanceMethod yX12_mud ∈ gW := gW_u tb_7 176 (by rfl) (by decide +kernel)
theorem mS_X12_mud : Cond.selects RX12 yX12_mud yX12_mud ∈ gW := gW_u tb_7 177 (by rfl) (by decide +kernel)
theorem mC_X12_mud : Cond.code yX12_mud cX12_mud 1 (some .int) ∈ gW := gW_u tb_7 178 (by rfl) (by decide +kernel)
theorem ok_X12_mud : okD yX12_mud 0 := ⟨by decide +kernel, by decide +kernel, by decide +kernel⟩
theorem dL_law_606 : decode cL_law 606 = .ok (.invokevirtual 69, 3) := by decide +kernel
theorem lk_RL_69 : Cond.methodLink RL 69 yX12_law ∈ gW := gW_u tb_7 195 (by rfl) (by decide +kernel)
theorem mI_X12_law : Cond.instanceMethod yX12_law ∈ gW := gW_u tb_7 196 (by rfl) (by decide +kernel)
theorem mS_X12_law : Cond.selects RX12 yX12_law yX12_law ∈ gW := gW_u tb_7 197 (by rfl) (by decide +kernel)
theorem mC_X12_law : Cond.code yX12_law cX12_law 3 (some .int) ∈ gW := gW_u tb_7 198 (by rfl) (by decide +kernel)
theorem ok_X12_law : okD yX12_law 0 := ⟨by decide +kernel, by decide +kernel, by decide +kernel⟩
theorem dL_law_619 : decode cL_law 619 = .ok (.invokevirtual 73, 3) := by decide +kernel
theorem lk_RL_73 : Cond.methodLink RL 73 yX12_orders ∈ gW := gW_u tb_9 37 (by rfl) (by decide +kernel)
theorem mI_X12_orders : Cond.instanceMethod yX12_orders ∈ gW := gW_u tb_9 38 (by rfl) (by decide +kernel)
theorem mS_X12_orders : Cond.selects RX12 yX12_orders yX12_orders ∈ gW := gW_u tb_9 39 (by rfl) (by decide +kernel)
theorem mC_X12_orders : Cond.code yX12_orders cX12_orders 4 (some .int) ∈ gW := gW_u tb_9 40 (by rfl) (by decide +kernel)
theorem ok_X12_orders : okD yX12_orders 0 := ⟨by decide +kernel, by decide +kernel, by decide +kernel⟩
theorem dL_law_632 : decode cL_law 632 = .ok (.invokevirtual 77, 3) := by decide +kernel
theorem lk_RL_77 : Cond.methodLink RL 77 yX12_fault ∈ gW := gW_u tb_7 191 (by rfl) (by decide +kernel)
theorem mI_X12_fault : Cond.instanceMethod yX12_fault ∈ gW := gW_u tb_7 192 (by rfl) (by decide +kernel)
theorem mS_X12_fault : Cond.selects RX12 yX12_fault yX12_fault ∈ gW := gW_u tb_7 193 (by rfl) (by decide +kernel)
theorem mC_X12_fault : Cond.code yX12_fault cX12_fault 1 (some .int) ∈ gW := gW_u tb_7 194 (by rfl) (by decide +kernel)
theorem ok_X12_fault : okD yX12_fault 0 := ⟨by decide +kernel, by decide +kernel, by decide +kernel⟩
theorem dL_law_645 : decode cL_law 645 = .ok (.invokevirtual 81, 3) := by decide +kernel
theorem lk_RL_81 : Cond.methodLink RL 81 yX12_stopped ∈ gW := gW_u tb_9 68 (by rfl) (by decide +kernel)
theorem mI_X12_stopped : Cond.instanceMethod yX12_stopped ∈ gW := gW_u tb_9 69 (by rfl) (by decide +kernel)
theorem mS_X12_stopped : Cond.selects RX12 yX12_stopped yX12_stopped ∈ gW := gW_u tb_9 70 (by rfl) (by decide +kernel)
theorem mC_X12_stopped : Cond.code yX12_stopped cX12_stopped 1 (some .int) ∈ gW := gW_u tb_9 71 (by rfl) (by decide +kernel)
theorem ok_X12_stopped : okD yX12_stopped 0 := ⟨by decide +kernel, by decide +kernel, by decide +kernel⟩
theorem dL_law_668 : decode cL_law 668 = .ok (.invokevirtual 85, 3) := by decide +kernel
theorem lk_RL_85 : Cond.methodLink RL 85 yX12_force ∈ gW := gW_u tb_8 73 (by rfl) (by decide +kernel)
theorem mI_X12_force : Cond.instanceMethod yX12_force ∈ gW := gW_u tb_8 74 (by rfl) (by decide +kernel)
theorem mS_X12_force : Cond.selects RX12 yX12_force yX12_force ∈ gW := gW_u tb_8 75 (by rfl) (by decide +kernel)
theorem mC_X12_force : Cond.code yX12_force cX12_force 2 (some .int) ∈ gW := gW_u tb_8 76 (by rfl) (by decide +kernel)
theorem ok_X12_force : okD yX12_force 1 := ⟨by decide +kernel, by decide +kernel, by decide +kernel⟩
theorem dL_law_711 : decode cL_law 711 = .ok (.invokevirtual 89, 3) := by decide +kernel
theorem lk_RL_89 : Cond.methodLink RL 89 yX12_asks ∈ gW := gW_u tb_8 81 (by rfl) (by decide +kernel)
theorem mI_X12_asks : Cond.instanceMethod yX12_asks ∈ gW := gW_u tb_8 82 (by rfl) (by decide +kernel)
theorem mS_X12_asks : Cond.selects RX12 yX12_asks yX12_asks ∈ gW := gW_u tb_8 83 (by rfl) (by decide +kernel)
theorem mC_X12_asks : Cond.code yX12_asks cX12_asks 4 (some .int) ∈ gW := gW_u tb_8 84 (by rfl) (by decide +kernel)
theorem ok_X12_asks : okD yX12_asks 3 := ⟨by decide +kernel, by decide +kernel, by decide +kernel⟩
theorem dL_law_744 : decode cL_law 744 = .ok (.invokevirtual 93, 3) := by decide +kernel
theorem lk_RL_93 : Cond.methodLink RL 93 yX12_loud ∈ gW := gW_u tb_8 97 (by rfl) (by decide +kernel)
theorem mI_X12_loud : Cond.instanceMethod yX12_loud ∈ gW := gW_u tb_8 98 (by rfl) (by decide +kernel)
theorem mS_X12_loud : Cond.selects RX12 yX12_loud yX12_loud ∈ gW := gW_u tb_8 99 (by rfl) (by decide +kernel)
theorem mC_X12_loud : Cond.code yX12_loud cX12_loud 3 (some .int) ∈ gW := gW_u tb_8 100 (by rfl) (by decide +kernel)
theorem ok_X12_loud : okD yX12_loud 2 := ⟨by decide +kernel, by decide +kernel, by decide +kernel⟩
theorem dL_law_767 : decode cL_law 767 = .ok (.invokevirtual 97, 3) := by decide +kernel
theorem lk_RL_97 : Cond.methodLink RL 97 yX12_din ∈ gW := gW_u tb_8 106 (by rfl) (by decide +kernel)
theorem mI_X12_din : Cond.instanceMethod yX12_din ∈ gW := gW_u tb_8 107 (by rfl) (by decide +kernel)
theorem mS_X12_din : Cond.selects RX12 yX12_din yX12_din ∈ gW := gW_u tb_8 108 (by rfl) (by decide +kernel)
theorem mC_X12_din : Cond.code yX12_din cX12_din 2 (some .int) ∈ gW := gW_u tb_8 109 (by rfl) (by decide +kernel)
theorem ok_X12_din : okD yX12_din 1 := ⟨by decide +kernel, by decide +kernel, by decide +kernel⟩
theorem dL_law_790 : decode cL_law 790 = .ok (.invokevirtual 102, 3) := by decide +kernel
theorem lk_RL_102 : Cond.methodLink RL 102 yX12_hears ∈ gW := gW_u tb_8 114 (by rfl) (by decide +kernel)
theorem mI_X12_hears : Cond.instanceMethod yX12_hears ∈ gW := gW_u tb_8 115 (by rfl) (by decide +kernel)
theorem mS_X12_hears : Cond.selects RX12 yX12_hears yX12_hears ∈ gW := gW_u tb_8 116 (by rfl) (by decide +kernel)
theorem mC_X12_hears : Cond.code yX12_hears cX12_hears 2 (some .long) ∈ gW := gW_u tb_8 117 (by rfl) (by decide +kernel)
theorem ok_X12_hears : okD yX12_hears 1 := ⟨by decide +kernel, by decide +kernel, by decide +kernel⟩
theorem dL_law_823 : decode cL_law 823 = .ok (.invokevirtual 106, 3) := by decide +kernel
theorem lk_RL_106 : Cond.methodLink RL 106 yX12_dig ∈ gW := gW_u tb_8 126 (by rfl) (by decide +kernel)
theorem mI_X12_dig : Cond.instanceMethod yX12_dig ∈ gW := gW_u tb_8 127 (by rfl) (by decide +kernel)
theorem mS_X12_dig : Cond.selects RX12 yX12_dig yX12_dig ∈ gW := gW_u tb_8 128 (by rfl) (by decide +kernel)
theorem mC_X12_dig : Cond.code yX12_dig cX12_dig 3 (some .int) ∈ gW := gW_u tb_8 129 (by rfl) (by decide +kernel)
theorem ok_X12_dig : okD yX12_dig 2 := ⟨by decide +kernel, by decide +kernel, by decide +kernel⟩
theorem dL_law_846 : decode cL_law 846 = .ok (.invokevirtual 110, 3) := by decide +kernel
theorem lk_RL_110 : Cond.methodLink RL 110 yX12_haul ∈ gW := gW_u tb_8 157 (by rfl) (by decide +kernel)
theorem mI_X12_haul : Cond.instanceMethod yX12_haul ∈ gW := gW_u tb_8 158 (by rfl) (by decide +kernel)
theorem mS_X12_haul : Cond.selects RX12 yX12_haul yX12_haul ∈ gW := gW_u tb_8 159 (by rfl) (by decide +kernel)
theorem mC_X12_haul : Cond.code yX12_haul cX12_haul 2 (some .int) ∈ gW := gW_u tb_8 160 (by rfl) (by decide +kernel)
theorem ok_X12_haul : okD yX12_haul 1 := ⟨by decide +kernel, by decide +kernel, by decide +kernel⟩
theorem dL_law_869 : decode cL_law 869 = .ok (.invokevirtual 114, 3) := by decide +kernel
theorem lk_RL_114 : Cond.methodLink RL 114 yX12_hush ∈ gW := gW_u tb_8 173 (by rfl) (by decide +kernel)
theorem mI_X12_hush : Cond.instanceMethod yX12_hush ∈ gW := gW_u tb_8 174 (by rfl) (by decide +kernel)
theorem mS_X12_hush : Cond.selects RX12 yX12_hush yX12_hush ∈ gW := gW_u tb_8 175 (by rfl) (by decide +kernel)
theorem mC_X12_hush : Cond.code yX12_hush cX12_hush 2 (some .int) ∈ gW := gW_u tb_8 176 (by rfl) (by decide +kernel)
theorem ok_X12_hush : okD yX12_hush 1 := ⟨by decide +kernel, by decide +kernel, by decide +kernel⟩
theorem dL_law_902 : decode cL_law 902 = .ok (.invokevirtual 118, 3) := by decide +kernel
theorem lk_RL_118 : Cond.methodLink RL 118 yX12_lie ∈ gW := gW_u tb_8 181 (by rfl) (by decide +kernel)
theorem mI_X12_lie : Cond.instanceMethod yX12_lie ∈ gW := gW_u tb_8 182 (by rfl) (by decide +kernel)
theorem mS_X12_lie : Cond.selects RX12 yX12_lie yX12_lie ∈ gW := gW_u tb_8 183 (by rfl) (by decide +kernel)
theorem mC_X12_lie : Cond.code yX12_lie cX12_lie 3 (some .int) ∈ gW := gW_u tb_8 184 (by rfl) (by decide +kernel)
theorem ok_X12_lie : okD yX12_lie 2 := ⟨by decide +kernel, by decide +kernel, by decide +kernel⟩
theorem dL_law_915 : decode cL_law 915 = .ok (.invokevirtual 122, 3) := by decide +kernel
theorem lk_RL_122 : Cond.methodLink RL 122 yX12_undo ∈ gW := gW_u tb_7 11 (by rfl) (by decide +kernel)
theorem mI_X12_undo : Cond.instanceMethod yX12_undo ∈ gW := gW_u tb_7 12 (by rfl) (by decide +kernel)
theorem mS_X12_undo : Cond.selects RX12 yX12_undo yX12_undo ∈ gW := gW_u tb_7 13 (by rfl) (by decide +kernel)
theorem mC_X12_undo : Cond.code yX12_undo cX12_undo 1 (some .int) ∈ gW := gW_u tb_7 14 (by rfl) (by decide +kernel)
theorem ok_X12_undo : okD yX12_undo 0 := ⟨by decide +kernel, by decide +kernel, by decide +kernel⟩
theorem dL_law_958 : decode cL_law 958 = .ok (.invokevirtual 126, 3) := by decide +kernel
theorem lk_RL_126 : Cond.methodLink RL 126 yX12_down ∈ gW := gW_u tb_8 189 (by rfl) (by decide +kernel)
theorem mI_X12_down : Cond.instanceMethod yX12_down ∈ gW := gW_u tb_8 190 (by rfl) (by decide +kernel)
theorem mS_X12_down : Cond.selects RX12 yX12_down yX12_down ∈ gW := gW_u tb_8 191 (by rfl) (by decide +kernel)
theorem mC_X12_down : Cond.code yX12_down cX12_down 7 (some .int) ∈ gW := gW_u tb_8 192 (by rfl) (by decide +kernel)
theorem ok_X12_down : okD yX12_down 3 := ⟨by decide +kernel, by decide +kernel, by decide +kernel⟩
theorem dL_law_1020 : decode cL_law 1020 = .ok (.invokevirtual 133, 3) := by decide +kernel
theorem lk_RL_133 : Cond.methodLink RL 133 yX12_gangs ∈ gW := gW_u tb_8 206 (by rfl) (by decide +kernel)
theorem mI_X12_gangs : Cond.instanceMethod yX12_gangs ∈ gW := gW_u tb_8 207 (by rfl) (by decide +kernel)
theorem mS_X12_gangs : Cond.selects RX12 yX12_gangs yX12_gangs ∈ gW := gW_u tb_8 208 (by rfl) (by decide +kernel)
theorem mC_X12_gangs : Cond.code yX12_gangs cX12_gangs 7 (some .int) ∈ gW := gW_u tb_8 209 (by rfl) (by decide +kernel)
theorem ok_X12_gangs : okD yX12_gangs 2 := ⟨by decide +kernel, by decide +kernel, by decide +kernel⟩
theorem dL_law_1064 : decode cL_law 1064 = .ok (.invokevirtual 137, 3) := by decide +kernel
theorem lk_RL_137 : Cond.methodLink RL 137 yX12_quiet ∈ gW := gW_u tb_8 226 (by rfl) (by decide +kernel)
theorem mI_X12_quiet : Cond.instanceMethod yX12_quiet ∈ gW := gW_u tb_8 227 (by rfl) (by decide +kernel)
theorem mS_X12_quiet : Cond.selects RX12 yX12_quiet yX12_quiet ∈ gW := gW_u tb_8 228 (by rfl) (by decide +kernel)
theorem mC_X12_quiet : Cond.code yX12_quiet cX12_quiet 9 (some .int) ∈ gW := gW_u tb_8 229 (by rfl) (by decide +kernel)
theorem ok_X12_quiet : okD yX12_quiet 3 := ⟨by decide +kernel, by decide +kernel, by decide +kernel⟩
theorem dL_law_1097 : decode cL_law 1097 = .ok (.invokevirtual 141, 3) := by decide +kernel
theorem lk_RL_141 : Cond.methodLink RL 141 yX12_heard ∈ gW := gW_u tb_8 230 (by rfl) (by decide +kernel)
theorem mI_X12_heard : Cond.instanceMethod yX12_heard ∈ gW := gW_u tb_8 231 (by rfl) (by decide +kernel)
theorem mS_X12_heard : Cond.selects RX12 yX12_heard yX12_heard ∈ gW := gW_u tb_8 232 (by rfl) (by decide +kernel)
theorem mC_X12_heard : Cond.code yX12_heard cX12_heard 4 (some .int) ∈ gW := gW_u tb_8 233 (by rfl) (by decide +kernel)
theorem ok_X12_heard : okD yX12_heard 2 := ⟨by decide +kernel, by decide +kernel, by decide +kernel⟩
theorem dL_law_1110 : decode cL_law 1110 = .ok (.invokevirtual 145, 3) := by decide +kernel
theorem lk_RL_145 : Cond.methodLink RL 145 yX12_forget ∈ gW := gW_u tb_8 234 (by rfl) (by decide +kernel)
theorem mI_X12_forget : Cond.instanceMethod yX12_forget ∈ gW := gW_u tb_8 235 (by rfl) (by decide +kernel)
theorem mS_X12_forget : Cond.selects RX12 yX12_forget yX12_forget ∈ gW := gW_u tb_8 236 (by rfl) (by decide +kernel)
theorem mC_X12_forget : Cond.code yX12_forget cX12_forget 2 (some .int) ∈ gW := gW_u tb_8 237 (by rfl) (by decide +kernel)
theorem ok_X12_forget : okD yX12_forget 0 := ⟨by decide +kernel, by decide +kernel, by decide +kernel⟩
theorem dL_law_1123 : decode cL_law 1123 = .ok (.invokevirtual 150, 3) := by decide +kernel
theorem lk_RL_150 : Cond.methodLink RL 150 yX12_hidden ∈ gW := gW_u tb_8 238 (by rfl) (by decide +kernel)
theorem mI_X12_hidden : Cond.instanceMethod yX12_hidden ∈ gW := gW_u tb_8 239 (by rfl) (by decide +kernel)
theorem mS_X12_hidden : Cond.selects RX12 yX12_hidden yX12_hidden ∈ gW := gW_u tb_9 0 (by rfl) (by decide +kernel)
theorem mC_X12_hidden : Cond.code yX12_hidden cX12_hidden 4 (some .long) ∈ gW := gW_u tb_9 1 (by rfl) (by decide +kernel)
theorem ok_X12_hidden : okD yX12_hidden 0 := ⟨by decide +kernel, by decide +kernel, by decide +kernel⟩
theorem dL_law_1146 : decode cL_law 1146 = .ok (.invokevirtual 154, 3) := by decide +kernel
theorem lk_RL_154 : Cond.methodLink RL 154 yX12_next ∈ gW := gW_u tb_9 10 (by rfl) (by decide +kernel)
theorem mI_X12_next : Cond.instanceMethod yX12_next ∈ gW := gW_u tb_9 11 (by rfl) (by decide +kernel)
theorem mS_X12_next : Cond.selects RX12 yX12_next yX12_next ∈ gW := gW_u tb_9 12 (by rfl) (by decide +kernel)
theorem mC_X12_next : Cond.code yX12_next cX12_next 8 (some .int) ∈ gW := gW_u tb_9 13 (by rfl) (by decide +kernel)
theorem ok_X12_next : okD yX12_next 1 := ⟨by decide +kernel, by decide +kernel, by decide +kernel⟩
theorem dL_law_1179 : decode cL_law 1179 = .ok (.invokevirtual 158, 3) := by decide +kernel
theorem lk_RL_158 : Cond.methodLink RL 158 yX12_well ∈ gW := gW_u tb_9 14 (by rfl) (by decide +kernel)
theorem mI_X12_well : Cond.instanceMethod yX12_well ∈ gW := gW_u tb_9 15 (by rfl) (by decide +kernel)
theorem mS_X12_well : Cond.selects RX12 yX12_well yX12_well ∈ gW := gW_u tb_9 16 (by rfl) (by decide +kernel)
theorem mC_X12_well : Cond.code yX12_well cX12_well 4 (some .int) ∈ gW := gW_u tb_9 17 (by rfl) (by decide +kernel)
theorem ok_X12_well : okD yX12_well 2 := ⟨by decide +kernel, by decide +kernel, by decide +kernel⟩
theorem dL_law_1202 : decode cL_law 1202 = .ok (.invokevirtual 162, 3) := by decide +kernel
theorem lk_RL_162 : Cond.methodLink RL 162 yX12_tongue ∈ gW := gW_u tb_9 19 (by rfl) (by decide +kernel)
theorem mI_X12_tongue : Cond.instanceMethod yX12_tongue ∈ gW := gW_u tb_9 20 (by rfl) (by decide +kernel)
theorem mS_X12_tongue : Cond.selects RX12 yX12_tongue yX12_tongue ∈ gW := gW_u tb_9 21 (by rfl) (by decide +kernel)
theorem mC_X12_tongue : Cond.code yX12_tongue cX12_tongue 7 (some .int) ∈ gW := gW_u tb_9 22 (by rfl) (by decide +kernel)
theorem ok_X12_tongue : okD yX12_tongue 1 := ⟨by decide +kernel, by decide +kernel, by decide +kernel⟩
theorem dL_law_1235 : decode cL_law 1235 = .ok (.invokevirtual 167, 3) := by decide +kernel
theorem lk_RL_167 : Cond.methodLink RL 167 yX12_vein ∈ gW := gW_u tb_9 23 (by rfl) (by decide +kernel)
theorem mI_X12_vein : Cond.instanceMethod yX12_vein ∈ gW := gW_u tb_9 24 (by rfl) (by decide +kernel)
theorem mS_X12_vein : Cond.selects RX12 yX12_vein yX12_vein ∈ gW := gW_u tb_9 25 (by rfl) (by decide +kernel)
theorem mC_X12_vein : Cond.code yX12_vein cX12_vein 5 (some .long) ∈ gW := gW_u tb_9 26 (by rfl) (by decide +kernel)
theorem ok_X12_vein : okD yX12_vein 2 := ⟨by decide +kernel, by decide +kernel, by decide +kernel⟩
theorem dL_law_1278 : decode cL_law 1278 = .ok (.invokevirtual 172, 3) := by decide +kernel
theorem lk_RL_172 : Cond.methodLink RL 172 yX12_time ∈ gW := gW_u tb_9 27 (by rfl) (by decide +kernel)
theorem mI_X12_time : Cond.instanceMethod yX12_time ∈ gW := gW_u tb_9 28 (by rfl) (by decide +kernel)
theorem mS_X12_time : Cond.selects RX12 yX12_time yX12_time ∈ gW := gW_u tb_9 29 (by rfl) (by decide +kernel)
theorem mC_X12_time : Cond.code yX12_time cX12_time 10 (some .long) ∈ gW := gW_u tb_9 30 (by rfl) (by decide +kernel)
theorem ok_X12_time : okD yX12_time 3 := ⟨by decide +kernel, by decide +kernel, by decide +kernel⟩
theorem dL_law_1301 : decode cL_law 1301 = .ok (.invokevirtual 176, 3) := by decide +kernel
theorem lk_RL_176 : Cond.methodLink RL 176 yX12_compare ∈ gW := gW_u tb_9 33 (by rfl) (by decide +kernel)
theorem mI_X12_compare : Cond.instanceMethod yX12_compare ∈ gW := gW_u tb_9 34 (by rfl) (by decide +kernel)
theorem mS_X12_compare : Cond.selects RX12 yX12_compare yX12_compare ∈ gW := gW_u tb_9 35 (by rfl) (by decide +kernel)
theorem mC_X12_compare : Cond.code yX12_compare cX12_compare 5 (some .int) ∈ gW := gW_u tb_9 36 (by rfl) (by decide +kernel)
theorem ok_X12_compare : okD yX12_compare 1 := ⟨by decide +kernel, by decide +kernel, by decide +kernel⟩
theorem dL_law_1334 : decode cL_law 1334 = .ok (.invokevirtual 180, 3) := by decide +kernel
theorem lk_RL_180 : Cond.methodLink RL 180 yX12_seasons ∈ gW := gW_u tb_9 72 (by rfl) (by decide +kernel)
theorem mI_X12_seasons : Cond.instanceMethod yX12_seasons ∈ gW := gW_u tb_9 73 (by rfl) (by decide +kernel)
theorem mS_X12_seasons : Cond.selects RX12 yX12_seasons yX12_seasons ∈ gW := gW_u tb_9 74 (by rfl) (by decide +kernel)
theorem mC_X12_seasons : Cond.code yX12_seasons cX12_seasons 7 (some .int) ∈ gW := gW_u tb_9 75 (by rfl) (by decide +kernel)
theorem ok_X12_seasons : okD yX12_seasons 2 := ⟨by decide +kernel, by decide +kernel, by decide +kernel⟩
theorem dL_law_1367 : decode cL_law 1367 = .ok (.invokevirtual 184, 3) := by decide +kernel
theorem lk_RL_184 : Cond.methodLink RL 184 yX12_drawn ∈ gW := gW_u tb_9 84 (by rfl) (by decide +kernel)
theorem mI_X12_drawn : Cond.instanceMethod yX12_drawn ∈ gW := gW_u tb_9 85 (by rfl) (by decide +kernel)
theorem mS_X12_drawn : Cond.selects RX12 yX12_drawn yX12_drawn ∈ gW := gW_u tb_9 86 (by rfl) (by decide +kernel)
theorem mC_X12_drawn : Cond.code yX12_drawn cX12_drawn 3 (some .int) ∈ gW := gW_u tb_9 87 (by rfl) (by decide +kernel)
theorem ok_X12_drawn : okD yX12_drawn 2 := ⟨by decide +kernel, by decide +kernel, by decide +kernel⟩
theorem dL_law_1390 : decode cL_law 1390 = .ok (.invokevirtual 188, 3) := by decide +kernel
theorem lk_RL_188 : Cond.methodLink RL 188 yX12_image ∈ gW := gW_u tb_7 23 (by rfl) (by decide +kernel)
theorem mI_X12_image : Cond.instanceMethod yX12_image ∈ gW := gW_u tb_7 24 (by rfl) (by decide +kernel)
theorem mS_X12_image : Cond.selects RX12 yX12_image yX12_image ∈ gW := gW_u tb_7 25 (by rfl) (by decide +kernel)
theorem mC_X12_image : Cond.code yX12_image cX12_image 3 (some .int) ∈ gW := gW_u tb_7 26 (by rfl) (by decide +kernel)
theorem ok_X12_image : okD yX12_image 1 := ⟨by decide +kernel, by decide +kernel, by decide +kernel⟩
theorem dL_law_1413 : decode cL_law 1413 = .ok (.invokevirtual 192, 3) := by decide +kernel
theorem lk_RL_192 : Cond.methodLink RL 192 yX12_back ∈ gW := gW_u tb_7 30 (by rfl) (by decide +kernel)
theorem mI_X12_back : Cond.instanceMethod yX12_back ∈ gW := gW_u tb_7 31 (by rfl) (by decide +kernel)
theorem mS_X12_back : Cond.selects RX12 yX12_back yX12_back ∈ gW := gW_u tb_7 32 (by rfl) (by decide +kernel)
theorem mC_X12_back : Cond.code yX12_back cX12_back 3 (some .int) ∈ gW := gW_u tb_7 33 (by rfl) (by decide +kernel)
theorem ok_X12_back : okD yX12_back 1 := ⟨by decide +kernel, by decide +kernel, by decide +kernel⟩
theorem dL_law_1436 : decode cL_law 1436 = .ok (.invokevirtual 196, 3) := by decide +kernel
theorem lk_RL_196 : Cond.methodLink RL 196 yX12_count ∈ gW := gW_u tb_9 88 (by rfl) (by decide +kernel)
theorem mI_X12_count : Cond.instanceMethod yX12_count ∈ gW := gW_u tb_9 89 (by rfl) (by decide +kernel)
theorem mS_X12_count : Cond.selects RX12 yX12_count yX12_count ∈ gW := gW_u tb_9 90 (by rfl) (by decide +kernel)
theorem mC_X12_count : Cond.code yX12_count cX12_count 2 (some .int) ∈ gW := gW_u tb_9 91 (by rfl) (by decide +kernel)
theorem ok_X12_count : okD yX12_count 1 := ⟨by decide +kernel, by decide +kernel, by decide +kernel⟩
theorem dL_law_1449 : decode cL_law 1449 = .ok (.invokevirtual 200, 3) := by decide +kernel
theorem lk_RL_200 : Cond.methodLink RL 200 yX12_status ∈ gW := gW_u tb_9 98 (by rfl) (by decide +kernel)
theorem mI_X12_status : Cond.instanceMethod yX12_status ∈ gW := gW_u tb_9 99 (by rfl) (by decide +kernel)
theorem mS_X12_status : Cond.selects RX12 yX12_status yX12_status ∈ gW := gW_u tb_9 100 (by rfl) (by decide +kernel)
theorem mC_X12_status : Cond.code yX12_status cX12_status 1 (some .int) ∈ gW := gW_u tb_9 101 (by rfl) (by decide +kernel)
theorem ok_X12_status : okD yX12_status 0 := ⟨by decide +kernel, by decide +kernel, by decide +kernel⟩
theorem row_bk {f : Nat → Int32} {a : Int32} : upd (upd f 6 a) 6 (f (6 : Int32).toNatClampNeg) = f := by
  funext j
  by_cases e : j = 6
  · rw [e, pk_us]; rfl
  · rw [pk_un e, pk_un e]
set_option maxRecDepth 100000 in
theorem sl_X12_compare_36z (a : Int32) (h0_ordered : Int32) (f_row : Nat → Int32) (f_nOp : Nat → Int32) (f_nArg : Nat → Int32) (f_now : Nat → Int64) (h_a : (-1) ≤ a.toInt ∧ a.toInt ≤ (-1)) (h_h0_ordered : 0 ≤ h0_ordered.toInt ∧ h0_ordered.toInt ≤ 0) (h_f_row : RLW f_row) (Qb : Int32 → Int32 → Int32 → Int32 → Int64 → Int64 → (Nat → Int64) → (Nat → Int64) → Prop) (KX : ∀ (x_36_0 : Int32) (x_36_1 : Int32) (x_36_2 : Int32) (x_36_3 : Int32) (x_36_4 : Int64) (x_36_5 : Int64) (x_36_6 : Nat → Int64) (x_36_7 : Nat → Int64), (0 ≤ x_36_0.toInt ∧ x_36_0.toInt ≤ 5) ∧ (0 ≤ x_36_3.toInt ∧ x_36_3.toInt ≤ 1) → Qb x_36_0 x_36_1 x_36_2 x_36_3 x_36_4 x_36_5 x_36_6 x_36_7) : ∀ (n : Nat) (x_36_0 : Int32) (x_36_1 : Int32) (x_36_2 : Int32) (x_36_3 : Int32) (x_36_4 : Int64) (x_36_5 : Int64) (x_36_6 : Nat → Int64) (x_36_7 : Nat → Int64), (0 ≤ x_36_0.toInt ∧ x_36_0.toInt ≤ 5) ∧ (0 ≤ x_36_3.toInt ∧ x_36_3.toInt ≤ 1) → 6 - x_36_0.toInt < (n : Int) → wl_X12_compare_36 a h0_ordered f_row f_nOp f_nArg f_now Qb n x_36_0 x_36_1 x_36_2 x_36_3 x_36_4 x_36_5 x_36_6 x_36_7 := by
  intro n
  induction n with
  | zero =>
    intro x_36_0 x_36_1 x_36_2 x_36_3 x_36_4 x_36_5 x_36_6 x_36_7 hI hm
    exfalso; have hm : 6 - x_36_0.toInt < 0 := hm; omega
  | succ n ih =>
    intro x_36_0 x_36_1 x_36_2 x_36_3 x_36_4 x_36_5 x_36_6 x_36_7 hI hm
    have hm : 6 - x_36_0.toInt < (n : Int) + 1 := by simpa using hm
    have h_x_36_0 := hI.1
    have h_x_36_3 := hI.2
    unfold wl_X12_compare_36
    by_cases c3 : (f_row (1 : Int32).toNatClampNeg) ≤ x_36_0
    · refine br1 c3 ?_
      have g4 : 0 ≤ (Int32.toInt (f_row (1 : Int32).toNatClampNeg)) ∧ (Int32.toInt (f_row (1 : Int32).toNatClampNeg)) ≤ 5 := RLW.at_1 h_f_row (rfl : ((1 : Nat) : Int) = 1) (by omega) (by omega)
      have d5 := le_z (x := (Int32.toInt (f_row (1 : Int32).toNatClampNeg))) (y := (Int32.toInt x_36_0)) rfl rfl c3
      exact KX _ _ _ _ _ _ _ _ ⟨⟨by omega, by omega⟩, ⟨by omega, by omega⟩⟩
    · refine br0 c3 ?_
      have g6 : 0 ≤ (Int32.toInt (f_row (1 : Int32).toNatClampNeg)) ∧ (Int32.toInt (f_row (1 : Int32).toNatClampNeg)) ≤ 5 := RLW.at_1 h_f_row (rfl : ((1 : Nat) : Int) = 1) (by omega) (by omega)
      have d7 := nle_z (x := (Int32.toInt (f_row (1 : Int32).toNatClampNeg))) (y := (Int32.toInt x_36_0)) rfl rfl c3
      have R8 : RLW (upd f_row 6 a) := RLW.up_6 h_f_row (rfl : ((6 : Nat) : Int) = 6) (by omega) (by omega) (w := (Int32.toInt a)) rfl (by omega) (by omega)
      refine s_X12_heardBy x_36_0 h0_ordered x_36_2 x_36_3 x_36_4 x_36_5 ((upd f_row 6 a)) (x_36_6) (f_nOp) (f_nArg) (x_36_7) (f_now) ⟨by omega, by omega⟩ ⟨by omega, by omega⟩ ⟨by omega, by omega⟩ R8 (fun r9 u10_0 u10_1 u10_2 u10_3 u10_4 u10_5 H11 => ?_)
      have j12 := H11
      refine un6_i ?_
      refine s_X12_ones r9  (fun r13 H14 => ?_)
      have j15 := H14
      have t16 : (Int32.toInt (x_36_0 + 1)) = (Int32.toInt x_36_0) + 1 := add_z rfl rfl (by omega) (by omega)
      exact ih _ _ _ _ _ _ _ _ ⟨⟨by omega, by omega⟩, ⟨by omega, by omega⟩⟩ (by omega)
set_option maxRecDepth 100000 in
theorem sl_X12_compare_36z_1 (a : Int32) (h0_ordered : Int32) (f_row : Nat → Int32) (f_nOp : Nat → Int32) (f_nArg : Nat → Int32) (f_now : Nat → Int64) (h_a : 0 ≤ a.toInt ∧ a.toInt ≤ 5) (h_h0_ordered : 0 ≤ h0_ordered.toInt ∧ h0_ordered.toInt ≤ 0) (h_f_row : RLW f_row) (Qb : Int32 → Int32 → Int32 → Int32 → Int64 → Int64 → (Nat → Int64) → (Nat → Int64) → Prop) (KX : ∀ (x_36_0 : Int32) (x_36_1 : Int32) (x_36_2 : Int32) (x_36_3 : Int32) (x_36_4 : Int64) (x_36_5 : Int64) (x_36_6 : Nat → Int64) (x_36_7 : Nat → Int64), (0 ≤ x_36_0.toInt ∧ x_36_0.toInt ≤ 5) ∧ (0 ≤ x_36_3.toInt ∧ x_36_3.toInt ≤ 1) → Qb x_36_0 x_36_1 x_36_2 x_36_3 x_36_4 x_36_5 x_36_6 x_36_7) : ∀ (n : Nat) (x_36_0 : Int32) (x_36_1 : Int32) (x_36_2 : Int32) (x_36_3 : Int32) (x_36_4 : Int64) (x_36_5 : Int64) (x_36_6 : Nat → Int64) (x_36_7 : Nat → Int64), (0 ≤ x_36_0.toInt ∧ x_36_0.toInt ≤ 5) ∧ (0 ≤ x_36_3.toInt ∧ x_36_3.toInt ≤ 1) → 6 - x_36_0.toInt < (n : Int) → wl_X12_compare_36 a h0_ordered f_row f_nOp f_nArg f_now Qb n x_36_0 x_36_1 x_36_2 x_36_3 x_36_4 x_36_5 x_36_6 x_36_7 := by
  intro n
  induction n with
  | zero =>
    intro x_36_0 x_36_1 x_36_2 x_36_3 x_36_4 x_36_5 x_36_6 x_36_7 hI hm
    exfalso; have hm : 6 - x_36_0.toInt < 0 := hm; omega
  | succ n ih =>
    intro x_36_0 x_36_1 x_36_2 x_36_3 x_36_4 x_36_5 x_36_6 x_36_7 hI hm
    have hm : 6 - x_36_0.toInt < (n : Int) + 1 := by simpa using hm
    have h_x_36_0 := hI.1
    have h_x_36_3 := hI.2
    unfold wl_X12_compare_36
    by_cases c30 : (f_row (1 : Int32).toNatClampNeg) ≤ x_36_0
    · refine br1 c30 ?_
      have g31 : 0 ≤ (Int32.toInt (f_row (1 : Int32).toNatClampNeg)) ∧ (Int32.toInt (f_row (1 : Int32).toNatClampNeg)) ≤ 5 := RLW.at_1 h_f_row (rfl : ((1 : Nat) : Int) = 1) (by omega) (by omega)
      have d32 := le_z (x := (Int32.toInt (f_row (1 : Int32).toNatClampNeg))) (y := (Int32.toInt x_36_0)) rfl rfl c30
      exact KX _ _ _ _ _ _ _ _ ⟨⟨by omega, by omega⟩, ⟨by omega, by omega⟩⟩
    · refine br0 c30 ?_
      have g33 : 0 ≤ (Int32.toInt (f_row (1 : Int32).toNatClampNeg)) ∧ (Int32.toInt (f_row (1 : Int32).toNatClampNeg)) ≤ 5 := RLW.at_1 h_f_row (rfl : ((1 : Nat) : Int) = 1) (by omega) (by omega)
      have d34 := nle_z (x := (Int32.toInt (f_row (1 : Int32).toNatClampNeg))) (y := (Int32.toInt x_36_0)) rfl rfl c30
      have R35 : RLW (upd f_row 6 a) := RLW.up_6 h_f_row (rfl : ((6 : Nat) : Int) = 6) (by omega) (by omega) (w := (Int32.toInt a)) rfl (by omega) (by omega)
      refine s_X12_heardBy x_36_0 h0_ordered x_36_2 x_36_3 x_36_4 x_36_5 ((upd f_row 6 a)) (x_36_6) (f_nOp) (f_nArg) (x_36_7) (f_now) ⟨by omega, by omega⟩ ⟨by omega, by omega⟩ ⟨by omega, by omega⟩ R35 (fun r36 u37_0 u37_1 u37_2 u37_3 u37_4 u37_5 H38 => ?_)
      have j39 := H38
      refine un6_i ?_
      refine s_X12_ones r36  (fun r40 H41 => ?_)
      have j42 := H41
      have t43 : (Int32.toInt (x_36_0 + 1)) = (Int32.toInt x_36_0) + 1 := add_z rfl rfl (by omega) (by omega)
      exact ih _ _ _ _ _ _ _ _ ⟨⟨by omega, by omega⟩, ⟨by omega, by omega⟩⟩ (by omega)
set_option maxRecDepth 100000 in
theorem s_X12_comparez (a : Int32) (h0_ordered : Int32) (h0_law : Int32) (h0_broken : Int32) (h0_value : Int64) (h0_sum : Int64) (f_row : Nat → Int32) (f_set : Nat → Int64) (f_nOp : Nat → Int32) (f_nArg : Nat → Int32) (f_rest : Nat → Int64) (f_now : Nat → Int64) (h_h0_ordered : 0 ≤ h0_ordered.toInt ∧ h0_ordered.toInt ≤ 0) (h_h0_broken : 0 ≤ h0_broken.toInt ∧ h0_broken.toInt ≤ 1) (h_f_row : RLW f_row) {Q : Int32 → (Int32 × Int32 × Int32 × Int64 × Int64 × (Nat → Int32) × (Nat → Int64) × (Nat → Int64)) → Prop} (hq : ∀ (r : Int32) (u_0 : Int32) (u_1 : Int32) (u_2 : Int32) (u_3 : Int64) (u_4 : Int64) (u_5 : Nat → Int32) (u_6 : Nat → Int64) (u_7 : Nat → Int64), (0 ≤ u_2.toInt ∧ u_2.toInt ≤ 1) ∧ (RLW u_5) ∧ (u_5 = f_row) → Q r (u_0, u_1, u_2, u_3, u_4, u_5, u_6, u_7)) : wp_X12_compare a h0_ordered h0_law h0_broken h0_value h0_sum f_row f_set f_nOp f_nArg f_rest f_now Q := by
  unfold wp_X12_compare
  refine o_X12_isLaw _ _ _ ?_
  by_cases c1 : a = (-1)
  · refine br1 c1 ?_
    have d2 := eq_z (x := (Int32.toInt a)) (y := (-1)) rfl (by decide) c1
    refine br0 (by decide) ?_
    have k5 : Int32.toInt 0 = 0 := rfl
    refine sl_X12_compare_36z a h0_ordered (f_row) (f_nOp) (f_nArg) (f_now) ⟨by omega, by omega⟩ ⟨by omega, by omega⟩ h_f_row _ (fun x3_0 x3_1 x3_2 x3_3 x3_4 x3_5 x3_6 x3_7 X4 => ?_) 1000000000000 0 0 h0_law h0_broken h0_value h0_sum (f_set) (f_rest) ⟨(by decide), ⟨by omega, by omega⟩⟩ (by omega)
    have j6 := X4.1
    have j7 := X4.2
    have R8 : RLW (upd f_row 6 a) := RLW.up_6 h_f_row (rfl : ((6 : Nat) : Int) = 6) (by omega) (by omega) (w := (Int32.toInt a)) rfl (by omega) (by omega)
    have g9 : (-1) ≤ (Int32.toInt (f_row (6 : Int32).toNatClampNeg)) ∧ (Int32.toInt (f_row (6 : Int32).toNatClampNeg)) ≤ 5 := RLW.at_6 h_f_row (rfl : ((6 : Nat) : Int) = 6) (by omega) (by omega)
    have R10 : RLW (upd (upd f_row 6 a) 6 (f_row (6 : Int32).toNatClampNeg)) := RLW.up_6 R8 (rfl : ((6 : Nat) : Int) = 6) (by omega) (by omega) (w := (Int32.toInt (f_row (6 : Int32).toNatClampNeg))) rfl (by omega) (by omega)
    exact hq _ _ _ _ _ _ _ _ _ ⟨⟨by omega, by omega⟩, R10, (by first | rfl | exact row_bk)⟩
  · refine br0 c1 ?_
    have d11 := ne_z (x := (Int32.toInt a)) (y := (-1)) rfl (by decide) c1
    refine o_X12_in _ _ _ _ ?_
    by_cases c12 : (lg_cmp a.toInt64 0) < 0
    · refine br1 c12 ?_
      have t13 : (Int64.toInt a.toInt64) = (Int32.toInt a) := i2l_z rfl
      have d14 := c_lt (x := (Int64.toInt a.toInt64)) (y := 0) rfl rfl c12
      refine br1 (by decide) ?_
      refine br1 (by decide) ?_
      have k15 : Int32.toInt (-1) = (-1) := (by decide)
      have k16 : Int32.toInt 0 = 0 := rfl
      exact hq _ _ _ _ _ _ _ _ _ ⟨⟨by omega, by omega⟩, h_f_row, (by first | rfl | exact row_bk)⟩
    · refine br0 c12 ?_
      have t17 : (Int64.toInt a.toInt64) = (Int32.toInt a) := i2l_z rfl
      have d18 := c_nlt (x := (Int64.toInt a.toInt64)) (y := 0) rfl rfl c12
      by_cases c19 : 0 < (lg_cmp a.toInt64 ((f_row (5 : Int32).toNatClampNeg).toInt64 - 1))
      · refine br1 c19 ?_
        have g20 : 0 ≤ (Int32.toInt (f_row (5 : Int32).toNatClampNeg)) ∧ (Int32.toInt (f_row (5 : Int32).toNatClampNeg)) ≤ 6 := RLW.at_5 h_f_row (rfl : ((5 : Nat) : Int) = 5) (by omega) (by omega)
        have t21 : (Int64.toInt (f_row (5 : Int32).toNatClampNeg).toInt64) = (Int32.toInt (f_row (5 : Int32).toNatClampNeg)) := i2l_z rfl
        have t22 : (Int64.toInt ((f_row (5 : Int32).toNatClampNeg).toInt64 - 1)) = (Int64.toInt (f_row (5 : Int32).toNatClampNeg).toInt64) - 1 := lsub_z rfl rfl (by omega) (by omega)
        have d23 := c_gt (x := (Int64.toInt a.toInt64)) (y := (Int64.toInt ((f_row (5 : Int32).toNatClampNeg).toInt64 - 1))) rfl rfl c19
        refine br1 (by decide) ?_
        refine br1 (by decide) ?_
        have k24 : Int32.toInt (-1) = (-1) := (by decide)
        have k25 : Int32.toInt 0 = 0 := rfl
        exact hq _ _ _ _ _ _ _ _ _ ⟨⟨by omega, by omega⟩, h_f_row, (by first | rfl | exact row_bk)⟩
      · refine br0 c19 ?_
        have g26 : 0 ≤ (Int32.toInt (f_row (5 : Int32).toNatClampNeg)) ∧ (Int32.toInt (f_row (5 : Int32).toNatClampNeg)) ≤ 6 := RLW.at_5 h_f_row (rfl : ((5 : Nat) : Int) = 5) (by omega) (by omega)
        have t27 : (Int64.toInt (f_row (5 : Int32).toNatClampNeg).toInt64) = (Int32.toInt (f_row (5 : Int32).toNatClampNeg)) := i2l_z rfl
        have t28 : (Int64.toInt ((f_row (5 : Int32).toNatClampNeg).toInt64 - 1)) = (Int64.toInt (f_row (5 : Int32).toNatClampNeg).toInt64) - 1 := lsub_z rfl rfl (by omega) (by omega)
        have d29 := c_ngt (x := (Int64.toInt a.toInt64)) (y := (Int64.toInt ((f_row (5 : Int32).toNatClampNeg).toInt64 - 1))) rfl rfl c19
        refine br0 (by decide) ?_
        refine br0 (by decide) ?_
        have k32 : Int32.toInt 0 = 0 := rfl
        refine sl_X12_compare_36z_1 a h0_ordered (f_row) (f_nOp) (f_nArg) (f_now) ⟨by omega, by omega⟩ ⟨by omega, by omega⟩ h_f_row _ (fun x30_0 x30_1 x30_2 x30_3 x30_4 x30_5 x30_6 x30_7 X31 => ?_) 1000000000000 0 0 h0_law h0_broken h0_value h0_sum (f_set) (f_rest) ⟨(by decide), ⟨by omega, by omega⟩⟩ (by omega)
        have j33 := X31.1
        have j34 := X31.2
        have R35 : RLW (upd f_row 6 a) := RLW.up_6 h_f_row (rfl : ((6 : Nat) : Int) = 6) (by omega) (by omega) (w := (Int32.toInt a)) rfl (by omega) (by omega)
        have g36 : (-1) ≤ (Int32.toInt (f_row (6 : Int32).toNatClampNeg)) ∧ (Int32.toInt (f_row (6 : Int32).toNatClampNeg)) ≤ 5 := RLW.at_6 h_f_row (rfl : ((6 : Nat) : Int) = 6) (by omega) (by omega)
        have R37 : RLW (upd (upd f_row 6 a) 6 (f_row (6 : Int32).toNatClampNeg)) := RLW.up_6 R35 (rfl : ((6 : Nat) : Int) = 6) (by omega) (by omega) (w := (Int32.toInt (f_row (6 : Int32).toNatClampNeg))) rfl (by omega) (by omega)
        exact hq _ _ _ _ _ _ _ _ _ ⟨⟨by omega, by omega⟩, R37, (by first | rfl | exact row_bk)⟩

theorem z_eqz {x : Int32} (h : x.toInt = 0) : x = 0 := z_eq (a := x) (b := 0) (x := x.toInt) (y := 0) rfl rfl h
theorem z0i {x : Int32} (h : 0 ≤ x.toInt ∧ x.toInt ≤ 0) : x = 0 := z_eq (y := 0) rfl rfl (by omega)
theorem rg0 {x : Int32} (h : x = 0) : 0 ≤ x.toInt ∧ x.toInt ≤ 400 := by rw [h]; decide
theorem rgz {x : Int32} (h : x = 0) : 0 ≤ x.toInt ∧ x.toInt ≤ 0 := by rw [h]; decide
set_option maxRecDepth 100000 in
/-- the reference's world: whatever follows of it -/
def CM (cs : Nat → ClassId) (h0 : Nat) (f_isKept : Nat → Int32) (h0_taped : Int32) (f_tape : Nat → Int32) (zw : Nat → Int) (zU : UL) (zl : Nat → List Cls) (zWI : Nat → Nat → Int) (zLI : Nat → Nat → List Cls) (zft : Int) (zsp : Int) (zmd : Int) (zla : Int) (zrf : Nat → Int32) (zD : ODr) (ws : va_W) : Prop := ∀ P : Prop, (∀ (h0_thrown : Int32) (h0_status : Int32) (o_refusals : Nat) (o_row : Nat) (o_images : Nat) (o_isKept : Nat) (o_undos : Nat) (o_sorts : Nat) (h0_nUndo : Int32) (o_undosBefore : Nat) (o_sortsBefore : Nat) (h0_mud : Int32) (o_tape : Nat) (h0_from : Int32) (h0_to : Int32) (h0_sort : Int32) (h0_worth : Int64) (h0_fault : Int32) (h0_bad : Int32) (h0_ordered : Int32) (h0_nClauses : Int32) (o_nClause : Nat) (h0_nCode : Int32) (o_nOp : Nat) (o_nArg : Nat) (h0_nLeaves : Int32) (o_pile : Nat) (o_pileAt : Nat) (h0_piled : Int32) (h0_opened : Int32) (o_words : Nat) (o_orderWords : Nat) (o_heads : Nat) (h0_law : Int32) (o_set : Nat) (o_now : Nat) (o_rest : Nat) (h0_broken : Int32) (h0_value : Int64) (h0_sum : Int64) (o_days : Nat) (o_goals : Nat) (o_goalDays : Nat) (o_goalOf : Nat) (o_bestGoals : Nat) (h0_fewestDays : Int32) (o_alike : Nat) (o_parts : Nat) (o_acts : Nat) (o_nOrder : Nat) (h0_done : Int32) (h0_latest : Int32) (h0_stopped : Int32) (h0_off : Int32) (h0_state : Int64) (o_drawn : Nat) (h0_drawnDay : Int32) (h0_nDrawn : Int32) (f_refusals : Nat → Int32) (f_row : Nat → Int32) (f_images : Nat → Int32) (f_undos : Nat → Int32) (f_sorts : Nat → Int32) (f_undosBefore : Nat → Int32) (f_sortsBefore : Nat → Int32) (f_nClause : Nat → Int32) (f_nOp : Nat → Int32) (f_nArg : Nat → Int32) (f_pile : Nat → Int32) (f_pileAt : Nat → Int32) (f_words : Nat → Int64) (f_orderWords : Nat → Int64) (f_heads : Nat → Int64) (f_set : Nat → Int64) (f_now : Nat → Int64) (f_rest : Nat → Int64) (f_days : Nat → Int32) (f_goals : Nat → Int32) (f_goalDays : Nat → Int32) (f_goalOf : Nat → Int32) (f_bestGoals : Nat → Int32) (f_alike : Nat → Int32) (f_parts : Nat → Int64) (f_acts : Nat → Int64) (f_nOrder : Nat → Int32) (f_drawn : Nat → Int32), (0 ≤ h0_nUndo.toInt ∧ h0_nUndo.toInt ≤ 16) → (0 ≤ h0_taped.toInt ∧ h0_taped.toInt ≤ 400) → (0 ≤ h0_ordered.toInt ∧ h0_ordered.toInt ≤ 0) → (0 ≤ h0_broken.toInt ∧ h0_broken.toInt ≤ 1) → ((-1) ≤ h0_nDrawn.toInt ∧ h0_nDrawn.toInt ≤ 6) → (RLW f_row) → (UN f_undos) → (SO f_sorts) → (UB f_undosBefore) → (SO f_sortsBefore) → (TP f_tape) → (DY f_days) → (GL f_goals) → (IM f_isKept f_images) → (RMw f_row zw) → (RMu f_undos f_sorts h0_nUndo zU) → (RML f_row zl) → (IMz f_isKept f_images zWI zLI) → (h0_status.toInt = zla) → (RF f_refusals zrf) → (h0_fault.toInt = zft) → (h0_stopped.toInt = zsp) → (h0_mud.toInt = zmd) → (RMn h0_drawnDay h0_nDrawn f_drawn zD) → (hasW f_words f_orderWords) → (hasH f_heads) → (hasA f_acts) → ws = [(h0, Sum.inr (12, [.int h0_thrown, .int h0_status, .ref o_refusals, .ref o_row, .ref o_images, .ref o_isKept, .ref o_undos, .ref o_sorts, .int h0_nUndo, .ref o_undosBefore, .ref o_sortsBefore, .int h0_mud, .ref o_tape, .int h0_taped, .int h0_from, .int h0_to, .int h0_sort, .long h0_worth, .int h0_fault, .int h0_bad, .int h0_ordered, .int h0_nClauses, .ref o_nClause, .int h0_nCode, .ref o_nOp, .ref o_nArg, .int h0_nLeaves, .ref o_pile, .ref o_pileAt, .int h0_piled, .int h0_opened, .ref o_words, .ref o_orderWords, .ref o_heads, .int h0_law, .ref o_set, .ref o_now, .ref o_rest, .int h0_broken, .long h0_value, .long h0_sum, .ref o_days, .ref o_goals, .ref o_goalDays, .ref o_goalOf, .ref o_bestGoals, .int h0_fewestDays, .ref o_alike, .ref o_parts, .ref o_acts, .ref o_nOrder, .int h0_done, .int h0_latest, .int h0_stopped, .int h0_off, .long h0_state, .ref o_drawn, .int h0_drawnDay, .int h0_nDrawn])), (o_refusals, Sum.inl (cs 0, 7, Sum.inl f_refusals)), (o_row, Sum.inl (cs 0, 5650, Sum.inl f_row)), (o_images, Sum.inl (cs 0, 11300, Sum.inl f_images)), (o_isKept, Sum.inl (cs 2, 2, Sum.inl f_isKept)), (o_undos, Sum.inl (cs 0, 1908, Sum.inl f_undos)), (o_sorts, Sum.inl (cs 0, 16, Sum.inl f_sorts)), (o_undosBefore, Sum.inl (cs 0, 1696, Sum.inl f_undosBefore)), (o_sortsBefore, Sum.inl (cs 0, 16, Sum.inl f_sortsBefore)), (o_tape, Sum.inl (cs 0, 400, Sum.inl f_tape)), (o_nClause, Sum.inl (cs 0, 96, Sum.inl f_nClause)), (o_nOp, Sum.inl (cs 0, 400, Sum.inl f_nOp)), (o_nArg, Sum.inl (cs 0, 400, Sum.inl f_nArg)), (o_pile, Sum.inl (cs 0, 400, Sum.inl f_pile)), (o_pileAt, Sum.inl (cs 0, 400, Sum.inl f_pileAt)), (o_words, Sum.inl (cs 1, 9, Sum.inr (Sum.inl f_words))), (o_orderWords, Sum.inl (cs 1, 6, Sum.inr (Sum.inl f_orderWords))), (o_heads, Sum.inl (cs 1, 5, Sum.inr (Sum.inl f_heads))), (o_set, Sum.inl (cs 1, 13, Sum.inr (Sum.inl f_set))), (o_now, Sum.inl (cs 1, 13, Sum.inr (Sum.inl f_now))), (o_rest, Sum.inl (cs 1, 400, Sum.inr (Sum.inl f_rest))), (o_days, Sum.inl (cs 0, 40, Sum.inl f_days)), (o_goals, Sum.inl (cs 0, 6, Sum.inl f_goals)), (o_goalDays, Sum.inl (cs 0, 36, Sum.inl f_goalDays)), (o_goalOf, Sum.inl (cs 0, 7, Sum.inl f_goalOf)), (o_bestGoals, Sum.inl (cs 0, 6, Sum.inl f_bestGoals)), (o_alike, Sum.inl (cs 0, 100, Sum.inl f_alike)), (o_parts, Sum.inl (cs 1, 202, Sum.inr (Sum.inl f_parts))), (o_acts, Sum.inl (cs 1, 4, Sum.inr (Sum.inl f_acts))), (o_nOrder, Sum.inl (cs 0, 96, Sum.inl f_nOrder)), (o_drawn, Sum.inl (cs 0, 12, Sum.inl f_drawn))] → P) → P
set_option maxHeartbeats 4000000 in
set_option maxRecDepth 100000 in
theorem CMm (cs : Nat → ClassId) (h0 : Nat) (f_isKept : Nat → Int32) (h0_taped : Int32) (f_tape : Nat → Int32) (zw : Nat → Int) (zU : UL) (zl : Nat → List Cls) (zWI : Nat → Nat → Int) (zLI : Nat → Nat → List Cls) (zft : Int) (zsp : Int) (zmd : Int) (zla : Int) (zrf : Nat → Int32) (zD : ODr) (h0_thrown : Int32) (h0_status : Int32) (o_refusals : Nat) (o_row : Nat) (o_images : Nat) (o_isKept : Nat) (o_undos : Nat) (o_sorts : Nat) (h0_nUndo : Int32) (o_undosBefore : Nat) (o_sortsBefore : Nat) (h0_mud : Int32) (o_tape : Nat) (h0_from : Int32) (h0_to : Int32) (h0_sort : Int32) (h0_worth : Int64) (h0_fault : Int32) (h0_bad : Int32) (h0_ordered : Int32) (h0_nClauses : Int32) (o_nClause : Nat) (h0_nCode : Int32) (o_nOp : Nat) (o_nArg : Nat) (h0_nLeaves : Int32) (o_pile : Nat) (o_pileAt : Nat) (h0_piled : Int32) (h0_opened : Int32) (o_words : Nat) (o_orderWords : Nat) (o_heads : Nat) (h0_law : Int32) (o_set : Nat) (o_now : Nat) (o_rest : Nat) (h0_broken : Int32) (h0_value : Int64) (h0_sum : Int64) (o_days : Nat) (o_goals : Nat) (o_goalDays : Nat) (o_goalOf : Nat) (o_bestGoals : Nat) (h0_fewestDays : Int32) (o_alike : Nat) (o_parts : Nat) (o_acts : Nat) (o_nOrder : Nat) (h0_done : Int32) (h0_latest : Int32) (h0_stopped : Int32) (h0_off : Int32) (h0_state : Int64) (o_drawn : Nat) (h0_drawnDay : Int32) (h0_nDrawn : Int32) (f_refusals : Nat → Int32) (f_row : Nat → Int32) (f_images : Nat → Int32) (f_undos : Nat → Int32) (f_sorts : Nat → Int32) (f_undosBefore : Nat → Int32) (f_sortsBefore : Nat → Int32) (f_nClause : Nat → Int32) (f_nOp : Nat → Int32) (f_nArg : Nat → Int32) (f_pile : Nat → Int32) (f_pileAt : Nat → Int32) (f_words : Nat → Int64) (f_orderWords : Nat → Int64) (f_heads : Nat → Int64) (f_set : Nat → Int64) (f_now : Nat → Int64) (f_rest : Nat → Int64) (f_days : Nat → Int32) (f_goals : Nat → Int32) (f_goalDays : Nat → Int32) (f_goalOf : Nat → Int32) (f_bestGoals : Nat → Int32) (f_alike : Nat → Int32) (f_parts : Nat → Int64) (f_acts : Nat → Int64) (f_nOrder : Nat → Int32) (f_drawn : Nat → Int32) (i_h0_nUndo : 0 ≤ h0_nUndo.toInt ∧ h0_nUndo.toInt ≤ 16) (i_h0_taped : 0 ≤ h0_taped.toInt ∧ h0_taped.toInt ≤ 400) (i_h0_ordered : 0 ≤ h0_ordered.toInt ∧ h0_ordered.toInt ≤ 0) (i_h0_broken : 0 ≤ h0_broken.toInt ∧ h0_broken.toInt ≤ 1) (i_h0_nDrawn : (-1) ≤ h0_nDrawn.toInt ∧ h0_nDrawn.toInt ≤ 6) (i_f_row : RLW f_row) (i_f_undos : UN f_undos) (i_f_sorts : SO f_sorts) (i_f_undosBefore : UB f_undosBefore) (i_f_sortsBefore : SO f_sortsBefore) (i_f_tape : TP f_tape) (i_f_days : DY f_days) (i_f_goals : GL f_goals) (i_im : IM f_isKept f_images) (t_rm : RMw f_row zw) (t_ru : RMu f_undos f_sorts h0_nUndo zU) (t_ml : RML f_row zl) (t_im : IMz f_isKept f_images zWI zLI) (t_la : h0_status.toInt = zla) (t_rf : RF f_refusals zrf) (t_ft : h0_fault.toInt = zft) (t_sp : h0_stopped.toInt = zsp) (t_md : h0_mud.toInt = zmd) (t_rn : RMn h0_drawnDay h0_nDrawn f_drawn zD) (t_hw : hasW f_words f_orderWords) (t_hh : hasH f_heads) (t_ha : hasA f_acts) : CM cs h0 f_isKept h0_taped f_tape zw zU zl zWI zLI zft zsp zmd zla zrf zD [(h0, Sum.inr (12, [.int h0_thrown, .int h0_status, .ref o_refusals, .ref o_row, .ref o_images, .ref o_isKept, .ref o_undos, .ref o_sorts, .int h0_nUndo, .ref o_undosBefore, .ref o_sortsBefore, .int h0_mud, .ref o_tape, .int h0_taped, .int h0_from, .int h0_to, .int h0_sort, .long h0_worth, .int h0_fault, .int h0_bad, .int h0_ordered, .int h0_nClauses, .ref o_nClause, .int h0_nCode, .ref o_nOp, .ref o_nArg, .int h0_nLeaves, .ref o_pile, .ref o_pileAt, .int h0_piled, .int h0_opened, .ref o_words, .ref o_orderWords, .ref o_heads, .int h0_law, .ref o_set, .ref o_now, .ref o_rest, .int h0_broken, .long h0_value, .long h0_sum, .ref o_days, .ref o_goals, .ref o_goalDays, .ref o_goalOf, .ref o_bestGoals, .int h0_fewestDays, .ref o_alike, .ref o_parts, .ref o_acts, .ref o_nOrder, .int h0_done, .int h0_latest, .int h0_stopped, .int h0_off, .long h0_state, .ref o_drawn, .int h0_drawnDay, .int h0_nDrawn])), (o_refusals, Sum.inl (cs 0, 7, Sum.inl f_refusals)), (o_row, Sum.inl (cs 0, 5650, Sum.inl f_row)), (o_images, Sum.inl (cs 0, 11300, Sum.inl f_images)), (o_isKept, Sum.inl (cs 2, 2, Sum.inl f_isKept)), (o_undos, Sum.inl (cs 0, 1908, Sum.inl f_undos)), (o_sorts, Sum.inl (cs 0, 16, Sum.inl f_sorts)), (o_undosBefore, Sum.inl (cs 0, 1696, Sum.inl f_undosBefore)), (o_sortsBefore, Sum.inl (cs 0, 16, Sum.inl f_sortsBefore)), (o_tape, Sum.inl (cs 0, 400, Sum.inl f_tape)), (o_nClause, Sum.inl (cs 0, 96, Sum.inl f_nClause)), (o_nOp, Sum.inl (cs 0, 400, Sum.inl f_nOp)), (o_nArg, Sum.inl (cs 0, 400, Sum.inl f_nArg)), (o_pile, Sum.inl (cs 0, 400, Sum.inl f_pile)), (o_pileAt, Sum.inl (cs 0, 400, Sum.inl f_pileAt)), (o_words, Sum.inl (cs 1, 9, Sum.inr (Sum.inl f_words))), (o_orderWords, Sum.inl (cs 1, 6, Sum.inr (Sum.inl f_orderWords))), (o_heads, Sum.inl (cs 1, 5, Sum.inr (Sum.inl f_heads))), (o_set, Sum.inl (cs 1, 13, Sum.inr (Sum.inl f_set))), (o_now, Sum.inl (cs 1, 13, Sum.inr (Sum.inl f_now))), (o_rest, Sum.inl (cs 1, 400, Sum.inr (Sum.inl f_rest))), (o_days, Sum.inl (cs 0, 40, Sum.inl f_days)), (o_goals, Sum.inl (cs 0, 6, Sum.inl f_goals)), (o_goalDays, Sum.inl (cs 0, 36, Sum.inl f_goalDays)), (o_goalOf, Sum.inl (cs 0, 7, Sum.inl f_goalOf)), (o_bestGoals, Sum.inl (cs 0, 6, Sum.inl f_bestGoals)), (o_alike, Sum.inl (cs 0, 100, Sum.inl f_alike)), (o_parts, Sum.inl (cs 1, 202, Sum.inr (Sum.inl f_parts))), (o_acts, Sum.inl (cs 1, 4, Sum.inr (Sum.inl f_acts))), (o_nOrder, Sum.inl (cs 0, 96, Sum.inl f_nOrder)), (o_drawn, Sum.inl (cs 0, 12, Sum.inl f_drawn))] := fun P k => k h0_thrown h0_status o_refusals o_row o_images o_isKept o_undos o_sorts h0_nUndo o_undosBefore o_sortsBefore h0_mud o_tape h0_from h0_to h0_sort h0_worth h0_fault h0_bad h0_ordered h0_nClauses o_nClause h0_nCode o_nOp o_nArg h0_nLeaves o_pile o_pileAt h0_piled h0_opened o_words o_orderWords o_heads h0_law o_set o_now o_rest h0_broken h0_value h0_sum o_days o_goals o_goalDays o_goalOf o_bestGoals h0_fewestDays o_alike o_parts o_acts o_nOrder h0_done h0_latest h0_stopped h0_off h0_state o_drawn h0_drawnDay h0_nDrawn f_refusals f_row f_images f_undos f_sorts f_undosBefore f_sortsBefore f_nClause f_nOp f_nArg f_pile f_pileAt f_words f_orderWords f_heads f_set f_now f_rest f_days f_goals f_goalDays f_goalOf f_bestGoals f_alike f_parts f_acts f_nOrder f_drawn i_h0_nUndo i_h0_taped i_h0_ordered i_h0_broken i_h0_nDrawn i_f_row i_f_undos i_f_sorts i_f_undosBefore i_f_sortsBefore i_f_tape i_f_days i_f_goals i_im t_rm t_ru t_ml t_im t_la t_rf t_ft t_sp t_md t_rn t_hw t_hh t_ha rfl
set_option maxHeartbeats 4000000 in
set_option maxRecDepth 100000 in
theorem CMe {cs : Nat → ClassId} {h0 : Nat} {f_isKept : Nat → Int32} {h0_taped : Int32} {f_tape : Nat → Int32} {zw : Nat → Int} {zU : UL} {zl : Nat → List Cls} {zWI : Nat → Nat → Int} {zLI : Nat → Nat → List Cls} {zft : Int} {zsp : Int} {zmd : Int} {zla : Int} {zrf : Nat → Int32} {zD : ODr} {ws : va_W} (h : CM cs h0 f_isKept h0_taped f_tape zw zU zl zWI zLI zft zsp zmd zla zrf zD ws) {P : Prop} (k : ∀ (h0_thrown : Int32) (h0_status : Int32) (o_refusals : Nat) (o_row : Nat) (o_images : Nat) (o_isKept : Nat) (o_undos : Nat) (o_sorts : Nat) (h0_nUndo : Int32) (o_undosBefore : Nat) (o_sortsBefore : Nat) (h0_mud : Int32) (o_tape : Nat) (h0_from : Int32) (h0_to : Int32) (h0_sort : Int32) (h0_worth : Int64) (h0_fault : Int32) (h0_bad : Int32) (h0_ordered : Int32) (h0_nClauses : Int32) (o_nClause : Nat) (h0_nCode : Int32) (o_nOp : Nat) (o_nArg : Nat) (h0_nLeaves : Int32) (o_pile : Nat) (o_pileAt : Nat) (h0_piled : Int32) (h0_opened : Int32) (o_words : Nat) (o_orderWords : Nat) (o_heads : Nat) (h0_law : Int32) (o_set : Nat) (o_now : Nat) (o_rest : Nat) (h0_broken : Int32) (h0_value : Int64) (h0_sum : Int64) (o_days : Nat) (o_goals : Nat) (o_goalDays : Nat) (o_goalOf : Nat) (o_bestGoals : Nat) (h0_fewestDays : Int32) (o_alike : Nat) (o_parts : Nat) (o_acts : Nat) (o_nOrder : Nat) (h0_done : Int32) (h0_latest : Int32) (h0_stopped : Int32) (h0_off : Int32) (h0_state : Int64) (o_drawn : Nat) (h0_drawnDay : Int32) (h0_nDrawn : Int32) (f_refusals : Nat → Int32) (f_row : Nat → Int32) (f_images : Nat → Int32) (f_undos : Nat → Int32) (f_sorts : Nat → Int32) (f_undosBefore : Nat → Int32) (f_sortsBefore : Nat → Int32) (f_nClause : Nat → Int32) (f_nOp : Nat → Int32) (f_nArg : Nat → Int32) (f_pile : Nat → Int32) (f_pileAt : Nat → Int32) (f_words : Nat → Int64) (f_orderWords : Nat → Int64) (f_heads : Nat → Int64) (f_set : Nat → Int64) (f_now : Nat → Int64) (f_rest : Nat → Int64) (f_days : Nat → Int32) (f_goals : Nat → Int32) (f_goalDays : Nat → Int32) (f_goalOf : Nat → Int32) (f_bestGoals : Nat → Int32) (f_alike : Nat → Int32) (f_parts : Nat → Int64) (f_acts : Nat → Int64) (f_nOrder : Nat → Int32) (f_drawn : Nat → Int32), (0 ≤ h0_nUndo.toInt ∧ h0_nUndo.toInt ≤ 16) → (0 ≤ h0_taped.toInt ∧ h0_taped.toInt ≤ 400) → (0 ≤ h0_ordered.toInt ∧ h0_ordered.toInt ≤ 0) → (0 ≤ h0_broken.toInt ∧ h0_broken.toInt ≤ 1) → ((-1) ≤ h0_nDrawn.toInt ∧ h0_nDrawn.toInt ≤ 6) → (RLW f_row) → (UN f_undos) → (SO f_sorts) → (UB f_undosBefore) → (SO f_sortsBefore) → (TP f_tape) → (DY f_days) → (GL f_goals) → (IM f_isKept f_images) → (RMw f_row zw) → (RMu f_undos f_sorts h0_nUndo zU) → (RML f_row zl) → (IMz f_isKept f_images zWI zLI) → (h0_status.toInt = zla) → (RF f_refusals zrf) → (h0_fault.toInt = zft) → (h0_stopped.toInt = zsp) → (h0_mud.toInt = zmd) → (RMn h0_drawnDay h0_nDrawn f_drawn zD) → (hasW f_words f_orderWords) → (hasH f_heads) → (hasA f_acts) → ws = [(h0, Sum.inr (12, [.int h0_thrown, .int h0_status, .ref o_refusals, .ref o_row, .ref o_images, .ref o_isKept, .ref o_undos, .ref o_sorts, .int h0_nUndo, .ref o_undosBefore, .ref o_sortsBefore, .int h0_mud, .ref o_tape, .int h0_taped, .int h0_from, .int h0_to, .int h0_sort, .long h0_worth, .int h0_fault, .int h0_bad, .int h0_ordered, .int h0_nClauses, .ref o_nClause, .int h0_nCode, .ref o_nOp, .ref o_nArg, .int h0_nLeaves, .ref o_pile, .ref o_pileAt, .int h0_piled, .int h0_opened, .ref o_words, .ref o_orderWords, .ref o_heads, .int h0_law, .ref o_set, .ref o_now, .ref o_rest, .int h0_broken, .long h0_value, .long h0_sum, .ref o_days, .ref o_goals, .ref o_goalDays, .ref o_goalOf, .ref o_bestGoals, .int h0_fewestDays, .ref o_alike, .ref o_parts, .ref o_acts, .ref o_nOrder, .int h0_done, .int h0_latest, .int h0_stopped, .int h0_off, .long h0_state, .ref o_drawn, .int h0_drawnDay, .int h0_nDrawn])), (o_refusals, Sum.inl (cs 0, 7, Sum.inl f_refusals)), (o_row, Sum.inl (cs 0, 5650, Sum.inl f_row)), (o_images, Sum.inl (cs 0, 11300, Sum.inl f_images)), (o_isKept, Sum.inl (cs 2, 2, Sum.inl f_isKept)), (o_undos, Sum.inl (cs 0, 1908, Sum.inl f_undos)), (o_sorts, Sum.inl (cs 0, 16, Sum.inl f_sorts)), (o_undosBefore, Sum.inl (cs 0, 1696, Sum.inl f_undosBefore)), (o_sortsBefore, Sum.inl (cs 0, 16, Sum.inl f_sortsBefore)), (o_tape, Sum.inl (cs 0, 400, Sum.inl f_tape)), (o_nClause, Sum.inl (cs 0, 96, Sum.inl f_nClause)), (o_nOp, Sum.inl (cs 0, 400, Sum.inl f_nOp)), (o_nArg, Sum.inl (cs 0, 400, Sum.inl f_nArg)), (o_pile, Sum.inl (cs 0, 400, Sum.inl f_pile)), (o_pileAt, Sum.inl (cs 0, 400, Sum.inl f_pileAt)), (o_words, Sum.inl (cs 1, 9, Sum.inr (Sum.inl f_words))), (o_orderWords, Sum.inl (cs 1, 6, Sum.inr (Sum.inl f_orderWords))), (o_heads, Sum.inl (cs 1, 5, Sum.inr (Sum.inl f_heads))), (o_set, Sum.inl (cs 1, 13, Sum.inr (Sum.inl f_set))), (o_now, Sum.inl (cs 1, 13, Sum.inr (Sum.inl f_now))), (o_rest, Sum.inl (cs 1, 400, Sum.inr (Sum.inl f_rest))), (o_days, Sum.inl (cs 0, 40, Sum.inl f_days)), (o_goals, Sum.inl (cs 0, 6, Sum.inl f_goals)), (o_goalDays, Sum.inl (cs 0, 36, Sum.inl f_goalDays)), (o_goalOf, Sum.inl (cs 0, 7, Sum.inl f_goalOf)), (o_bestGoals, Sum.inl (cs 0, 6, Sum.inl f_bestGoals)), (o_alike, Sum.inl (cs 0, 100, Sum.inl f_alike)), (o_parts, Sum.inl (cs 1, 202, Sum.inr (Sum.inl f_parts))), (o_acts, Sum.inl (cs 1, 4, Sum.inr (Sum.inl f_acts))), (o_nOrder, Sum.inl (cs 0, 96, Sum.inl f_nOrder)), (o_drawn, Sum.inl (cs 0, 12, Sum.inl f_drawn))] → P) : P := h P k
