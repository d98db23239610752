theorem it_RX11 : Cond.instantiable RX11 14 ∈ gW := gW_t 24 (by decide +kernel) rfl
theorem it_RX12 : Cond.instantiable RX12 59 ∈ gW := gW_t 1246 (by decide +kernel) rfl
theorem dL_law_0 : decode cL_law 0 = .ok (.new 7, 3) := by decide +kernel
theorem cl_RL_7 : Cond.classLink RL 7 RX11 ∈ gW := gW_t 23 (by decide +kernel) rfl
theorem dL_law_3 : decode cL_law 3 = .ok (.dup, 1) := by decide +kernel
theorem dL_law_4 : decode cL_law 4 = .ok (.invokespecial 9, 3) := by decide +kernel
theorem lk_RL_9 : Cond.methodLink RL 9 yX11_init ∈ gW := gW_t 25 (by decide +kernel) rfl
theorem mI_X11_init : Cond.instanceMethod yX11_init ∈ gW := gW_t 26 (by decide +kernel) rfl
theorem mC_X11_init : Cond.code yX11_init cX11_init 1 none ∈ gW := gW_t 27 (by decide +kernel) rfl
theorem ok_X11_init : okD yX11_init 0 := ⟨by decide +kernel, by decide +kernel, by decide +kernel⟩
theorem dL_law_7 : decode cL_law 7 = .ok (.astore_n 1, 1) := by decide +kernel
theorem dL_law_8 : decode cL_law 8 = .ok (.new 10, 3) := by decide +kernel
theorem cl_RL_10 : Cond.classLink RL 10 RX12 ∈ gW := gW_t 1245 (by decide +kernel) rfl
theorem dL_law_11 : decode cL_law 11 = .ok (.dup, 1) := by decide +kernel
theorem dL_law_12 : decode cL_law 12 = .ok (.invokespecial 12, 3) := by decide +kernel
theorem lk_RL_12 : Cond.methodLink RL 12 yX12_init ∈ gW := gW_t 1247 (by decide +kernel) rfl
theorem mI_X12_init : Cond.instanceMethod yX12_init ∈ gW := gW_t 1248 (by decide +kernel) rfl
theorem mC_X12_init : Cond.code yX12_init cX12_init 2 none ∈ gW := gW_t 1249 (by decide +kernel) rfl
theorem ok_X12_init : okD yX12_init 0 := ⟨by decide +kernel, by decide +kernel, by decide +kernel⟩
theorem dL_law_15 : decode cL_law 15 = .ok (.astore_n 2, 1) := by decide +kernel
theorem dL_law_16 : decode cL_law 16 = .ok (.iconst 0, 1) := by decide +kernel
theorem dL_law_17 : decode cL_law 17 = .ok (.istore_n 3, 1) := by decide +kernel
theorem dL_law_27 : decode cL_law 27 = .ok (.aload_n 0, 1) := by decide +kernel
theorem dL_law_28 : decode cL_law 28 = .ok (.iload_n 3, 1) := by decide +kernel
theorem dL_law_29 : decode cL_law 29 = .ok (.iaload, 1) := by decide +kernel
theorem dL_law_30 : decode cL_law 30 = .ok (.bipush 63, 2) := by decide +kernel
theorem dL_law_32 : decode cL_law 32 = .ok (.iand, 1) := by decide +kernel
theorem dL_law_33 : decode cL_law 33 = .ok (.tableswitch 1427 0 43 #[191, 234, 267, 290, 323, 356, 389, 422, 455, 518, 541, 554, 567, 580, 593, 606, 619, 642, 685, 718, 741, 765, 798, 821, 844, 877, 890, 933, 996, 1039, 1072, 1085, 1099, 1122, 1155, 1178, 1212, 1256, 1279, 1312, 1345, 1368, 1391, 1414], 191) := by decide +kernel
