theorem d_Lw_law_740 : decode b_Lw_law 740 = .ok (.iconst 0, 1) := by decide +kernel
theorem d_Lw_law_741 : decode b_Lw_law 741 = .ok (.laload, 1) := by decide +kernel
theorem d_Lw_law_742 : decode b_Lw_law 742 = .ok (.iload 6, 2) := by decide +kernel
theorem d_Lw_law_744 : decode b_Lw_law 744 = .ok (.i2l, 1) := by decide +kernel
theorem d_Lw_law_745 : decode b_Lw_law 745 = .ok (.lcmp, 1) := by decide +kernel
theorem d_Lw_law_746 : decode b_Lw_law 746 = .ok (.ifCond .eq 5, 3) := by decide +kernel
theorem d_Lw_law_749 : decode b_Lw_law 749 = .ok (.iconst 0, 1) := by decide +kernel
theorem d_Lw_law_750 : decode b_Lw_law 750 = .ok (.ireturn, 1) := by decide +kernel
theorem d_Lw_law_751 : decode b_Lw_law 751 = .ok (.goto 3, 3) := by decide +kernel
theorem d_Lw_law_754 : decode b_Lw_law 754 = .ok (.iinc 4 4, 3) := by decide +kernel
theorem d_Lw_law_757 : decode b_Lw_law 757 = .ok (.goto (-734), 3) := by decide +kernel
theorem d_Lw_law_760 : decode b_Lw_law 760 = .ok (.iconst 1, 1) := by decide +kernel
theorem d_Lw_law_761 : decode b_Lw_law 761 = .ok (.ireturn, 1) := by decide +kernel
