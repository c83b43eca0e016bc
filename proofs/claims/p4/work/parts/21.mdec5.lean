theorem dX12_init_758 : decode cX12_init 758 = .ok (.bipush 97, 2) := by decide +kernel
theorem dX12_init_760 : decode cX12_init 760 = .ok (.bipush 110, 2) := by decide +kernel
theorem dX12_init_762 : decode cX12_init 762 = .ok (.bipush 100, 2) := by decide +kernel
theorem dX12_init_764 : decode cX12_init 764 = .ok (.iconst 0, 1) := by decide +kernel
theorem dX12_init_765 : decode cX12_init 765 = .ok (.iconst 0, 1) := by decide +kernel
theorem dX12_init_766 : decode cX12_init 766 = .ok (.iconst 0, 1) := by decide +kernel
theorem dX12_init_767 : decode cX12_init 767 = .ok (.invokestatic 144, 3) := by decide +kernel
theorem dX12_init_770 : decode cX12_init 770 = .ok (.lastore, 1) := by decide +kernel
theorem dX12_init_771 : decode cX12_init 771 = .ok (.aload_n 0, 1) := by decide +kernel
theorem dX12_init_772 : decode cX12_init 772 = .ok (.invokevirtual 148, 3) := by decide +kernel
theorem dX12_init_775 : decode cX12_init 775 = .ok (.aload_n 0, 1) := by decide +kernel
theorem dX12_init_776 : decode cX12_init 776 = .ok (.invokevirtual 151, 3) := by decide +kernel
theorem dX12_init_779 : decode cX12_init 779 = .ok (.return_, 1) := by decide +kernel

