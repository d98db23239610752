theorem dX9_share_31 : decode cX9_share 31 = .ok (.aload_n 0, 1) := by decide +kernel
theorem dX9_share_32 : decode cX9_share 32 = .ok (.getfield 25, 3) := by decide +kernel
theorem dX9_share_35 : decode cX9_share 35 = .ok (.iload 5, 2) := by decide +kernel
theorem dX9_share_37 : decode cX9_share 37 = .ok (.iload 6, 2) := by decide +kernel
theorem dX9_share_39 : decode cX9_share 39 = .ok (.iastore, 1) := by decide +kernel
theorem dX9_share_40 : decode cX9_share 40 = .ok (.iinc 5 1, 3) := by decide +kernel
theorem dX9_share_105 : decode cX9_share 105 = .ok (.ldc 68, 2) := by decide +kernel
theorem dX9_share_190 : decode cX9_share 190 = .ok (.iconst 0, 1) := by decide +kernel
theorem dX9_share_191 : decode cX9_share 191 = .ok (.ireturn, 1) := by decide +kernel
theorem dX11_gangs_98 : decode cX11_gangs 98 = .ok (.iconst (-1), 1) := by decide +kernel
theorem dX11_gangs_99 : decode cX11_gangs 99 = .ok (.ireturn, 1) := by decide +kernel
theorem dX12_gangs_65 : decode cX12_gangs 65 = .ok (.aload_n 0, 1) := by decide +kernel
theorem dX12_gangs_66 : decode cX12_gangs 66 = .ok (.getfield 115, 3) := by decide +kernel
theorem dX12_gangs_69 : decode cX12_gangs 69 = .ok (.iload 4, 2) := by decide +kernel
theorem dX12_gangs_71 : decode cX12_gangs 71 = .ok (.iload 5, 2) := by decide +kernel
theorem dX12_gangs_73 : decode cX12_gangs 73 = .ok (.iastore, 1) := by decide +kernel
theorem dX12_gangs_74 : decode cX12_gangs 74 = .ok (.iinc 4 1, 3) := by decide +kernel
theorem dX12_gangs_161 : decode cX12_gangs 161 = .ok (.iconst (-1), 1) := by decide +kernel
theorem dX12_gangs_162 : decode cX12_gangs 162 = .ok (.goto 22, 3) := by decide +kernel
