theorem d_M_look_0 : decode b_M_look 0 = .ok (.iload_n 1, 1) := by decide +kernel
theorem d_M_look_1 : decode b_M_look 1 = .ok (.ifCond .lt 9, 3) := by decide +kernel
theorem d_M_look_4 : decode b_M_look 4 = .ok (.iload_n 1, 1) := by decide +kernel
theorem d_M_look_5 : decode b_M_look 5 = .ok (.bipush 6, 2) := by decide +kernel
theorem d_M_look_7 : decode b_M_look 7 = .ok (.if_icmp .le 5, 3) := by decide +kernel
theorem d_M_look_10 : decode b_M_look 10 = .ok (.iconst (-1), 1) := by decide +kernel
theorem d_M_look_11 : decode b_M_look 11 = .ok (.ireturn, 1) := by decide +kernel
theorem d_M_look_12 : decode b_M_look 12 = .ok (.iload_n 1, 1) := by decide +kernel
theorem d_M_look_13 : decode b_M_look 13 = .ok (.iconst 4, 1) := by decide +kernel
theorem d_M_look_14 : decode b_M_look 14 = .ok (.if_icmp .ge 13, 3) := by decide +kernel
theorem d_M_look_17 : decode b_M_look 17 = .ok (.aload_n 0, 1) := by decide +kernel
theorem d_M_look_18 : decode b_M_look 18 = .ok (.getfield 77, 3) := by decide +kernel
theorem d_M_look_21 : decode b_M_look 21 = .ok (.ifCond .eq 6, 3) := by decide +kernel
theorem d_M_look_24 : decode b_M_look 24 = .ok (.bipush (-4), 2) := by decide +kernel
theorem d_M_look_26 : decode b_M_look 26 = .ok (.ireturn, 1) := by decide +kernel
theorem d_M_look_27 : decode b_M_look 27 = .ok (.iload_n 1, 1) := by decide +kernel
theorem d_M_look_28 : decode b_M_look 28 = .ok (.tableswitch 91 0 5 #[40, 50, 60, 65, 70, 75], 40) := by decide +kernel
theorem d_M_look_68 : decode b_M_look 68 = .ok (.aload_n 0, 1) := by decide +kernel
theorem d_M_look_69 : decode b_M_look 69 = .ok (.getfield 13, 3) := by decide +kernel
theorem d_M_look_72 : decode b_M_look 72 = .ok (.aload_n 0, 1) := by decide +kernel
theorem d_M_look_73 : decode b_M_look 73 = .ok (.getfield 83, 3) := by decide +kernel
theorem d_M_look_76 : decode b_M_look 76 = .ok (.iaload, 1) := by decide +kernel
theorem d_M_look_77 : decode b_M_look 77 = .ok (.ireturn, 1) := by decide +kernel
theorem d_M_look_78 : decode b_M_look 78 = .ok (.aload_n 0, 1) := by decide +kernel
theorem d_M_look_79 : decode b_M_look 79 = .ok (.getfield 16, 3) := by decide +kernel
theorem d_M_look_82 : decode b_M_look 82 = .ok (.aload_n 0, 1) := by decide +kernel
theorem d_M_look_83 : decode b_M_look 83 = .ok (.getfield 83, 3) := by decide +kernel
theorem d_M_look_86 : decode b_M_look 86 = .ok (.iaload, 1) := by decide +kernel
theorem d_M_look_87 : decode b_M_look 87 = .ok (.ireturn, 1) := by decide +kernel
theorem d_M_look_88 : decode b_M_look 88 = .ok (.aload_n 0, 1) := by decide +kernel
theorem d_M_look_89 : decode b_M_look 89 = .ok (.getfield 97, 3) := by decide +kernel
theorem d_M_look_92 : decode b_M_look 92 = .ok (.ireturn, 1) := by decide +kernel
theorem d_M_look_93 : decode b_M_look 93 = .ok (.aload_n 0, 1) := by decide +kernel
theorem d_M_look_94 : decode b_M_look 94 = .ok (.getfield 94, 3) := by decide +kernel
theorem d_M_look_97 : decode b_M_look 97 = .ok (.ireturn, 1) := by decide +kernel
theorem d_M_look_98 : decode b_M_look 98 = .ok (.aload_n 0, 1) := by decide +kernel
theorem d_M_look_99 : decode b_M_look 99 = .ok (.getfield 80, 3) := by decide +kernel
theorem d_M_look_102 : decode b_M_look 102 = .ok (.ireturn, 1) := by decide +kernel
theorem d_M_look_103 : decode b_M_look 103 = .ok (.aload_n 0, 1) := by decide +kernel
theorem d_M_look_104 : decode b_M_look 104 = .ok (.getfield 70, 3) := by decide +kernel
theorem d_M_look_107 : decode b_M_look 107 = .ok (.ifCond .eq 10, 3) := by decide +kernel
theorem d_M_look_110 : decode b_M_look 110 = .ok (.aload_n 0, 1) := by decide +kernel
theorem d_M_look_111 : decode b_M_look 111 = .ok (.getfield 74, 3) := by decide +kernel
theorem d_M_look_114 : decode b_M_look 114 = .ok (.goto 4, 3) := by decide +kernel
theorem d_M_look_117 : decode b_M_look 117 = .ok (.iconst (-1), 1) := by decide +kernel
theorem d_M_look_118 : decode b_M_look 118 = .ok (.ireturn, 1) := by decide +kernel
theorem d_M_look_119 : decode b_M_look 119 = .ok (.aload_n 0, 1) := by decide +kernel
theorem d_M_look_120 : decode b_M_look 120 = .ok (.getfield 77, 3) := by decide +kernel
theorem d_M_look_123 : decode b_M_look 123 = .ok (.ifCond .eq 7, 3) := by decide +kernel
theorem d_M_look_126 : decode b_M_look 126 = .ok (.iconst 1, 1) := by decide +kernel
theorem d_M_look_127 : decode b_M_look 127 = .ok (.goto 4, 3) := by decide +kernel
theorem d_M_look_130 : decode b_M_look 130 = .ok (.iconst 0, 1) := by decide +kernel
theorem d_M_look_131 : decode b_M_look 131 = .ok (.ireturn, 1) := by decide +kernel
