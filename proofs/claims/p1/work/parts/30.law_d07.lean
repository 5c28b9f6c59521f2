theorem d_Law_law_791 : decode b_Law_law 791 = .ok (.iload 5, 2) := by decide +kernel
theorem d_Law_law_793 : decode b_Law_law 793 = .ok (.if_icmp .eq 5, 3) := by decide +kernel
theorem d_Law_law_798 : decode b_Law_law 798 = .ok (.iload 5, 2) := by decide +kernel
theorem d_Law_law_800 : decode b_Law_law 800 = .ok (.ifCond .ne 15, 3) := by decide +kernel
theorem d_Law_law_815 : decode b_Law_law 815 = .ok (.goto 3, 3) := by decide +kernel
theorem d_Law_law_818 : decode b_Law_law 818 = .ok (.iinc 4 6, 3) := by decide +kernel
theorem d_Law_law_821 : decode b_Law_law 821 = .ok (.goto (-798), 3) := by decide +kernel
theorem d_Law_law_824 : decode b_Law_law 824 = .ok (.iconst 1, 1) := by decide +kernel
theorem d_Law_law_825 : decode b_Law_law 825 = .ok (.ireturn, 1) := by decide +kernel
