theorem d_L_law_800 : decode code 800 = .ok (.iaload, 1) := by decide +kernel
theorem d_L_law_801 : decode code 801 = .ok (.invokevirtual 75, 3) := by decide +kernel
theorem d_L_law_804 : decode code 804 = .ok (.aload_n 2, 1) := by decide +kernel
theorem d_L_law_805 : decode code 805 = .ok (.aload_n 0, 1) := by decide +kernel
theorem d_L_law_806 : decode code 806 = .ok (.iload_n 3, 1) := by decide +kernel
theorem d_L_law_807 : decode code 807 = .ok (.iconst 1, 1) := by decide +kernel
theorem d_L_law_808 : decode code 808 = .ok (.iadd, 1) := by decide +kernel
theorem d_L_law_809 : decode code 809 = .ok (.iaload, 1) := by decide +kernel
theorem d_L_law_810 : decode code 810 = .ok (.invokevirtual 78, 3) := by decide +kernel
theorem d_L_law_813 : decode code 813 = .ok (.if_icmp .eq 5, 3) := by decide +kernel
theorem d_L_law_816 : decode code 816 = .ok (.iconst 0, 1) := by decide +kernel
theorem d_L_law_817 : decode code 817 = .ok (.ireturn, 1) := by decide +kernel
theorem d_L_law_818 : decode code 818 = .ok (.iinc 3 8, 3) := by decide +kernel
theorem d_L_law_821 : decode code 821 = .ok (.goto (-803), 3) := by decide +kernel
theorem d_L_law_824 : decode code 824 = .ok (.iconst 1, 1) := by decide +kernel
theorem d_L_law_825 : decode code 825 = .ok (.ireturn, 1) := by decide +kernel
