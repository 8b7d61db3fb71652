theorem d_Cy_init_0 : decode b_Cy_init 0 = .ok (.aload_n 0, 1) := by decide +kernel
theorem d_Cy_init_1 : decode b_Cy_init 1 = .ok (.invokespecial 3, 3) := by decide +kernel
theorem d_Cy_init_4 : decode b_Cy_init 4 = .ok (.aload_n 0, 1) := by decide +kernel
theorem d_Cy_init_5 : decode b_Cy_init 5 = .ok (.new 9, 3) := by decide +kernel
theorem d_Cy_init_8 : decode b_Cy_init 8 = .ok (.dup, 1) := by decide +kernel
theorem d_Cy_init_9 : decode b_Cy_init 9 = .ok (.invokespecial 11, 3) := by decide +kernel
theorem d_Cy_init_12 : decode b_Cy_init 12 = .ok (.putfield 12, 3) := by decide +kernel
theorem d_Cy_init_15 : decode b_Cy_init 15 = .ok (.return_, 1) := by decide +kernel
theorem d_Cy_find_0 : decode b_Cy_find 0 = .ok (.aload_n 0, 1) := by decide +kernel
theorem d_Cy_find_1 : decode b_Cy_find 1 = .ok (.getfield 12, 3) := by decide +kernel
theorem d_Cy_find_4 : decode b_Cy_find 4 = .ok (.iconst 0, 1) := by decide +kernel
theorem d_Cy_find_5 : decode b_Cy_find 5 = .ok (.iload_n 1, 1) := by decide +kernel
theorem d_Cy_find_6 : decode b_Cy_find 6 = .ok (.invokevirtual 18, 3) := by decide +kernel
theorem d_Cy_find_9 : decode b_Cy_find 9 = .ok (.aload_n 0, 1) := by decide +kernel
theorem d_Cy_find_10 : decode b_Cy_find 10 = .ok (.iload_n 2, 1) := by decide +kernel
theorem d_Cy_find_11 : decode b_Cy_find 11 = .ok (.putfield 22, 3) := by decide +kernel
theorem d_Cy_find_14 : decode b_Cy_find 14 = .ok (.aload_n 0, 1) := by decide +kernel
theorem d_Cy_find_15 : decode b_Cy_find 15 = .ok (.iconst 0, 1) := by decide +kernel
theorem d_Cy_find_16 : decode b_Cy_find 16 = .ok (.iconst 0, 1) := by decide +kernel
theorem d_Cy_find_17 : decode b_Cy_find 17 = .ok (.iconst 0, 1) := by decide +kernel
theorem d_Cy_find_18 : decode b_Cy_find 18 = .ok (.invokevirtual 26, 3) := by decide +kernel
theorem d_Cy_find_21 : decode b_Cy_find 21 = .ok (.ireturn, 1) := by decide +kernel
theorem d_Cy_search_0 : decode b_Cy_search 0 = .ok (.aload_n 0, 1) := by decide +kernel
theorem d_Cy_search_1 : decode b_Cy_search 1 = .ok (.getfield 12, 3) := by decide +kernel
theorem d_Cy_search_4 : decode b_Cy_search 4 = .ok (.iload_n 1, 1) := by decide +kernel
theorem d_Cy_search_5 : decode b_Cy_search 5 = .ok (.invokevirtual 30, 3) := by decide +kernel
theorem d_Cy_search_8 : decode b_Cy_search 8 = .ok (.ifCond .ne 38, 3) := by decide +kernel
theorem d_Cy_search_11 : decode b_Cy_search 11 = .ok (.aload_n 0, 1) := by decide +kernel
theorem d_Cy_search_12 : decode b_Cy_search 12 = .ok (.getfield 12, 3) := by decide +kernel
theorem d_Cy_search_15 : decode b_Cy_search 15 = .ok (.invokevirtual 34, 3) := by decide +kernel
theorem d_Cy_search_18 : decode b_Cy_search 18 = .ok (.ifCond .ne 5, 3) := by decide +kernel
theorem d_Cy_search_21 : decode b_Cy_search 21 = .ok (.iconst (-1), 1) := by decide +kernel
theorem d_Cy_search_22 : decode b_Cy_search 22 = .ok (.ireturn, 1) := by decide +kernel
theorem d_Cy_search_23 : decode b_Cy_search 23 = .ok (.aload_n 0, 1) := by decide +kernel
theorem d_Cy_search_24 : decode b_Cy_search 24 = .ok (.dup, 1) := by decide +kernel
theorem d_Cy_search_25 : decode b_Cy_search 25 = .ok (.getfield 22, 3) := by decide +kernel
theorem d_Cy_search_28 : decode b_Cy_search 28 = .ok (.iconst 1, 1) := by decide +kernel
theorem d_Cy_search_29 : decode b_Cy_search 29 = .ok (.isub, 1) := by decide +kernel
theorem d_Cy_search_30 : decode b_Cy_search 30 = .ok (.putfield 22, 3) := by decide +kernel
theorem d_Cy_search_33 : decode b_Cy_search 33 = .ok (.aload_n 0, 1) := by decide +kernel
theorem d_Cy_search_34 : decode b_Cy_search 34 = .ok (.getfield 22, 3) := by decide +kernel
theorem d_Cy_search_37 : decode b_Cy_search 37 = .ok (.ifCond .ge 7, 3) := by decide +kernel
theorem d_Cy_search_40 : decode b_Cy_search 40 = .ok (.iload_n 3, 1) := by decide +kernel
theorem d_Cy_search_41 : decode b_Cy_search 41 = .ok (.goto 4, 3) := by decide +kernel
theorem d_Cy_search_44 : decode b_Cy_search 44 = .ok (.iconst (-1), 1) := by decide +kernel
theorem d_Cy_search_45 : decode b_Cy_search 45 = .ok (.ireturn, 1) := by decide +kernel
theorem d_Cy_search_46 : decode b_Cy_search 46 = .ok (.iload_n 1, 1) := by decide +kernel
theorem d_Cy_search_47 : decode b_Cy_search 47 = .ok (.ifCond .ne 7, 3) := by decide +kernel
theorem d_Cy_search_50 : decode b_Cy_search 50 = .ok (.iconst 0, 1) := by decide +kernel
theorem d_Cy_search_51 : decode b_Cy_search 51 = .ok (.goto 11, 3) := by decide +kernel
theorem d_Cy_search_54 : decode b_Cy_search 54 = .ok (.aload_n 0, 1) := by decide +kernel
theorem d_Cy_search_55 : decode b_Cy_search 55 = .ok (.getfield 12, 3) := by decide +kernel
theorem d_Cy_search_58 : decode b_Cy_search 58 = .ok (.iconst 0, 1) := by decide +kernel
theorem d_Cy_search_59 : decode b_Cy_search 59 = .ok (.invokevirtual 38, 3) := by decide +kernel
theorem d_Cy_search_62 : decode b_Cy_search 62 = .ok (.istore 4, 2) := by decide +kernel
theorem d_Cy_search_64 : decode b_Cy_search 64 = .ok (.iload 4, 2) := by decide +kernel
theorem d_Cy_search_66 : decode b_Cy_search 66 = .ok (.istore 5, 2) := by decide +kernel
theorem d_Cy_search_68 : decode b_Cy_search 68 = .ok (.iload 5, 2) := by decide +kernel
theorem d_Cy_search_70 : decode b_Cy_search 70 = .ok (.bipush 9, 2) := by decide +kernel
theorem d_Cy_search_72 : decode b_Cy_search 72 = .ok (.if_icmp .gt 74, 3) := by decide +kernel
theorem d_Cy_search_75 : decode b_Cy_search 75 = .ok (.iconst 1, 1) := by decide +kernel
theorem d_Cy_search_76 : decode b_Cy_search 76 = .ok (.iload_n 1, 1) := by decide +kernel
theorem d_Cy_search_77 : decode b_Cy_search 77 = .ok (.iload 5, 2) := by decide +kernel
theorem d_Cy_search_79 : decode b_Cy_search 79 = .ok (.iadd, 1) := by decide +kernel
theorem d_Cy_search_80 : decode b_Cy_search 80 = .ok (.aload_n 0, 1) := by decide +kernel
theorem d_Cy_search_81 : decode b_Cy_search 81 = .ok (.getfield 12, 3) := by decide +kernel
theorem d_Cy_search_84 : decode b_Cy_search 84 = .ok (.getfield 42, 3) := by decide +kernel
theorem d_Cy_search_87 : decode b_Cy_search 87 = .ok (.invokestatic 45, 3) := by decide +kernel
theorem d_Cy_search_90 : decode b_Cy_search 90 = .ok (.ishl, 1) := by decide +kernel
theorem d_Cy_search_91 : decode b_Cy_search 91 = .ok (.istore 6, 2) := by decide +kernel
theorem d_Cy_search_93 : decode b_Cy_search 93 = .ok (.iload_n 2, 1) := by decide +kernel
theorem d_Cy_search_94 : decode b_Cy_search 94 = .ok (.iload 6, 2) := by decide +kernel
theorem d_Cy_search_96 : decode b_Cy_search 96 = .ok (.iand, 1) := by decide +kernel
theorem d_Cy_search_97 : decode b_Cy_search 97 = .ok (.ifCond .ne 43, 3) := by decide +kernel
theorem d_Cy_search_100 : decode b_Cy_search 100 = .ok (.aload_n 0, 1) := by decide +kernel
theorem d_Cy_search_101 : decode b_Cy_search 101 = .ok (.getfield 12, 3) := by decide +kernel
theorem d_Cy_search_104 : decode b_Cy_search 104 = .ok (.iload_n 1, 1) := by decide +kernel
theorem d_Cy_search_105 : decode b_Cy_search 105 = .ok (.iload 5, 2) := by decide +kernel
theorem d_Cy_search_107 : decode b_Cy_search 107 = .ok (.iconst 0, 1) := by decide +kernel
theorem d_Cy_search_108 : decode b_Cy_search 108 = .ok (.invokevirtual 49, 3) := by decide +kernel
theorem d_Cy_search_111 : decode b_Cy_search 111 = .ok (.aload_n 0, 1) := by decide +kernel
theorem d_Cy_search_112 : decode b_Cy_search 112 = .ok (.iload_n 1, 1) := by decide +kernel
theorem d_Cy_search_113 : decode b_Cy_search 113 = .ok (.iconst 1, 1) := by decide +kernel
theorem d_Cy_search_114 : decode b_Cy_search 114 = .ok (.iadd, 1) := by decide +kernel
theorem d_Cy_search_115 : decode b_Cy_search 115 = .ok (.iload_n 2, 1) := by decide +kernel
theorem d_Cy_search_116 : decode b_Cy_search 116 = .ok (.iload 6, 2) := by decide +kernel
theorem d_Cy_search_118 : decode b_Cy_search 118 = .ok (.ior, 1) := by decide +kernel
theorem d_Cy_search_119 : decode b_Cy_search 119 = .ok (.iload_n 3, 1) := by decide +kernel
theorem d_Cy_search_120 : decode b_Cy_search 120 = .ok (.bipush 10, 2) := by decide +kernel
theorem d_Cy_search_122 : decode b_Cy_search 122 = .ok (.imul, 1) := by decide +kernel
theorem d_Cy_search_123 : decode b_Cy_search 123 = .ok (.iload 5, 2) := by decide +kernel
theorem d_Cy_search_125 : decode b_Cy_search 125 = .ok (.iadd, 1) := by decide +kernel
theorem d_Cy_search_126 : decode b_Cy_search 126 = .ok (.invokevirtual 26, 3) := by decide +kernel
theorem d_Cy_search_129 : decode b_Cy_search 129 = .ok (.istore 7, 2) := by decide +kernel
theorem d_Cy_search_131 : decode b_Cy_search 131 = .ok (.iload 7, 2) := by decide +kernel
theorem d_Cy_search_133 : decode b_Cy_search 133 = .ok (.iconst (-1), 1) := by decide +kernel
theorem d_Cy_search_134 : decode b_Cy_search 134 = .ok (.if_icmp .eq 6, 3) := by decide +kernel
theorem d_Cy_search_137 : decode b_Cy_search 137 = .ok (.iload 7, 2) := by decide +kernel
theorem d_Cy_search_139 : decode b_Cy_search 139 = .ok (.ireturn, 1) := by decide +kernel
theorem d_Cy_search_140 : decode b_Cy_search 140 = .ok (.iinc 5 1, 3) := by decide +kernel
theorem d_Cy_search_143 : decode b_Cy_search 143 = .ok (.goto (-75), 3) := by decide +kernel
theorem d_Cy_search_146 : decode b_Cy_search 146 = .ok (.iconst (-1), 1) := by decide +kernel
theorem d_Cy_search_147 : decode b_Cy_search 147 = .ok (.ireturn, 1) := by decide +kernel
