theorem dX12_number___0 : decode cX12_number__ 0 = .ok (.aload_n 0, 1) := by decide +kernel
theorem dX12_number___1 : decode cX12_number__ 1 = .ok (.iconst 0, 1) := by decide +kernel
theorem dX12_number___2 : decode cX12_number__ 2 = .ok (.putfield 1, 3) := by decide +kernel
theorem dX12_number___5 : decode cX12_number__ 5 = .ok (.iload_n 1, 1) := by decide +kernel
theorem dX12_number___6 : decode cX12_number__ 6 = .ok (.iconst 2, 1) := by decide +kernel
theorem dX12_number___7 : decode cX12_number__ 7 = .ok (.invokestatic 413, 3) := by decide +kernel
theorem dX12_number___10 : decode cX12_number__ 10 = .ok (.ifCond .ne 7, 3) := by decide +kernel
theorem dX12_number___13 : decode cX12_number__ 13 = .ok (.ldc2_w 681, 3) := by decide +kernel
theorem dX12_number___16 : decode cX12_number__ 16 = .ok (.lreturn, 1) := by decide +kernel
theorem dX12_number___17 : decode cX12_number__ 17 = .ok (.iload_n 2, 1) := by decide +kernel
theorem dX12_number___18 : decode cX12_number__ 18 = .ok (.tableswitch 59 0 2 #[26, 45, 52], 26) := by decide +kernel
theorem dX12_number___44 : decode cX12_number__ 44 = .ok (.aload_n 0, 1) := by decide +kernel
theorem dX12_number___45 : decode cX12_number__ 45 = .ok (.iload_n 1, 1) := by decide +kernel
theorem dX12_number___46 : decode cX12_number__ 46 = .ok (.invokevirtual 662, 3) := by decide +kernel
theorem dX12_number___49 : decode cX12_number__ 49 = .ok (.ifCond .eq 12, 3) := by decide +kernel
theorem dX12_number___52 : decode cX12_number__ 52 = .ok (.aload_n 0, 1) := by decide +kernel
theorem dX12_number___53 : decode cX12_number__ 53 = .ok (.getfield 70, 3) := by decide +kernel
theorem dX12_number___56 : decode cX12_number__ 56 = .ok (.iload_n 1, 1) := by decide +kernel
theorem dX12_number___57 : decode cX12_number__ 57 = .ok (.laload, 1) := by decide +kernel
theorem dX12_number___58 : decode cX12_number__ 58 = .ok (.goto 4, 3) := by decide +kernel
theorem dX12_number___61 : decode cX12_number__ 61 = .ok (.lconst 0, 1) := by decide +kernel
theorem dX12_number___62 : decode cX12_number__ 62 = .ok (.lreturn, 1) := by decide +kernel
theorem dX12_number___63 : decode cX12_number__ 63 = .ok (.aload_n 0, 1) := by decide +kernel
theorem dX12_number___64 : decode cX12_number__ 64 = .ok (.getfield 79, 3) := by decide +kernel
theorem dX12_number___67 : decode cX12_number__ 67 = .ok (.iload_n 1, 1) := by decide +kernel
theorem dX12_number___68 : decode cX12_number__ 68 = .ok (.laload, 1) := by decide +kernel
theorem dX12_number___69 : decode cX12_number__ 69 = .ok (.lreturn, 1) := by decide +kernel
theorem dX12_number___70 : decode cX12_number__ 70 = .ok (.aload_n 0, 1) := by decide +kernel
theorem dX12_number___71 : decode cX12_number__ 71 = .ok (.getfield 60, 3) := by decide +kernel
theorem dX12_number___74 : decode cX12_number__ 74 = .ok (.iload_n 1, 1) := by decide +kernel
theorem dX12_number___75 : decode cX12_number__ 75 = .ok (.laload, 1) := by decide +kernel
theorem dX12_number___76 : decode cX12_number__ 76 = .ok (.lreturn, 1) := by decide +kernel
theorem dX12_number___77 : decode cX12_number__ 77 = .ok (.ldc2_w 681, 3) := by decide +kernel
theorem dX12_number___80 : decode cX12_number__ 80 = .ok (.lreturn, 1) := by decide +kernel
