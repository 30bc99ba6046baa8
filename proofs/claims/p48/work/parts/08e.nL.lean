theorem dL_acts_754 : decode cL_acts 754 = .ok (.goto 4, 3) := by decide +kernel
theorem dL_acts_757 : decode cL_acts 757 = .ok (.iconst 0, 1) := by decide +kernel
theorem dL_acts_758 : decode cL_acts 758 = .ok (.iadd, 1) := by decide +kernel
theorem dL_acts_759 : decode cL_acts 759 = .ok (.iastore, 1) := by decide +kernel
theorem dL_acts_760 : decode cL_acts 760 = .ok (.aload_n 3, 1) := by decide +kernel
theorem dL_acts_761 : decode cL_acts 761 = .ok (.iconst 2, 1) := by decide +kernel
theorem dL_acts_762 : decode cL_acts 762 = .ok (.dup2, 1) := by decide +kernel
theorem dL_acts_763 : decode cL_acts 763 = .ok (.iaload, 1) := by decide +kernel
theorem dL_acts_764 : decode cL_acts 764 = .ok (.iconst 1, 1) := by decide +kernel
theorem dL_acts_765 : decode cL_acts 765 = .ok (.iadd, 1) := by decide +kernel
theorem dL_acts_766 : decode cL_acts 766 = .ok (.iastore, 1) := by decide +kernel
theorem dL_acts_767 : decode cL_acts 767 = .ok (.iinc 16 1, 3) := by decide +kernel
theorem dL_acts_770 : decode cL_acts 770 = .ok (.goto (-104), 3) := by decide +kernel
theorem dL_acts_773 : decode cL_acts 773 = .ok (.aload_n 0, 1) := by decide +kernel
theorem dL_acts_774 : decode cL_acts 774 = .ok (.iload 14, 2) := by decide +kernel
theorem dL_acts_776 : decode cL_acts 776 = .ok (.invokevirtual 176, 3) := by decide +kernel
theorem dL_acts_779 : decode cL_acts 779 = .ok (.aload_n 3, 1) := by decide +kernel
theorem dL_acts_780 : decode cL_acts 780 = .ok (.iconst 5, 1) := by decide +kernel
theorem dL_acts_781 : decode cL_acts 781 = .ok (.iaload, 1) := by decide +kernel
theorem dL_acts_782 : decode cL_acts 782 = .ok (.iload 15, 2) := by decide +kernel
theorem dL_acts_784 : decode cL_acts 784 = .ok (.isub, 1) := by decide +kernel
theorem dL_acts_785 : decode cL_acts 785 = .ok (.if_icmp .ne 7, 3) := by decide +kernel
theorem dL_acts_788 : decode cL_acts 788 = .ok (.iconst 1, 1) := by decide +kernel
theorem dL_acts_789 : decode cL_acts 789 = .ok (.goto 4, 3) := by decide +kernel
theorem dL_acts_792 : decode cL_acts 792 = .ok (.iconst 0, 1) := by decide +kernel
theorem dL_acts_793 : decode cL_acts 793 = .ok (.ireturn, 1) := by decide +kernel
theorem dL_bars_0 : decode cL_bars 0 = .ok (.aload_n 0, 1) := by decide +kernel
theorem dL_bars_1 : decode cL_bars 1 = .ok (.iconst 4, 1) := by decide +kernel
theorem dL_bars_2 : decode cL_bars 2 = .ok (.iload_n 1, 1) := by decide +kernel
theorem dL_bars_3 : decode cL_bars 3 = .ok (.imul, 1) := by decide +kernel
theorem dL_bars_4 : decode cL_bars 4 = .ok (.iconst 3, 1) := by decide +kernel
theorem dL_bars_5 : decode cL_bars 5 = .ok (.iadd, 1) := by decide +kernel
theorem dL_bars_6 : decode cL_bars 6 = .ok (.iaload, 1) := by decide +kernel
theorem dL_bars_7 : decode cL_bars 7 = .ok (.istore_n 3, 1) := by decide +kernel
theorem dL_bars_8 : decode cL_bars 8 = .ok (.aload_n 0, 1) := by decide +kernel
theorem dL_bars_9 : decode cL_bars 9 = .ok (.iconst 4, 1) := by decide +kernel
theorem dL_bars_10 : decode cL_bars 10 = .ok (.iload_n 1, 1) := by decide +kernel
theorem dL_bars_11 : decode cL_bars 11 = .ok (.imul, 1) := by decide +kernel
theorem dL_bars_12 : decode cL_bars 12 = .ok (.iconst 3, 1) := by decide +kernel
theorem dL_bars_13 : decode cL_bars 13 = .ok (.iadd, 1) := by decide +kernel
theorem dL_bars_14 : decode cL_bars 14 = .ok (.iload_n 2, 1) := by decide +kernel
theorem dL_bars_15 : decode cL_bars 15 = .ok (.iastore, 1) := by decide +kernel
theorem dL_bars_16 : decode cL_bars 16 = .ok (.iload_n 3, 1) := by decide +kernel
theorem dL_bars_17 : decode cL_bars 17 = .ok (.ireturn, 1) := by decide +kernel
