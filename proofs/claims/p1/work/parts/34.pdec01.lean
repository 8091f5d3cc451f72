theorem d_TypeFinder_ifx_0 : decode b_TypeFinder_ifx 0 = .ok (.aload_n 0, 1) := by decide +kernel
theorem d_TypeFinder_ifx_1 : decode b_TypeFinder_ifx 1 = .ok (.getfield 16, 3) := by decide +kernel
theorem d_TypeFinder_ifx_4 : decode b_TypeFinder_ifx 4 = .ok (.iload_n 1, 1) := by decide +kernel
theorem d_TypeFinder_ifx_5 : decode b_TypeFinder_ifx 5 = .ok (.iload_n 2, 1) := by decide +kernel
theorem d_TypeFinder_ifx_6 : decode b_TypeFinder_ifx 6 = .ok (.iload_n 3, 1) := by decide +kernel
theorem d_TypeFinder_ifx_7 : decode b_TypeFinder_ifx 7 = .ok (.invokevirtual 109, 3) := by decide +kernel
theorem d_TypeFinder_ifx_10 : decode b_TypeFinder_ifx 10 = .ok (.ireturn, 1) := by decide +kernel
