theorem d_Md_stateOf_50 : decode b_Md_stateOf 50 = .ok (.iload 5, 2) := by decide +kernel
theorem d_Md_stateOf_52 : decode b_Md_stateOf 52 = .ok (.iload 4, 2) := by decide +kernel
theorem d_Md_stateOf_54 : decode b_Md_stateOf 54 = .ok (.isub, 1) := by decide +kernel
theorem d_Md_stateOf_55 : decode b_Md_stateOf 55 = .ok (.ishl, 1) := by decide +kernel
theorem d_Md_stateOf_56 : decode b_Md_stateOf 56 = .ok (.ior, 1) := by decide +kernel
theorem d_Md_stateOf_57 : decode b_Md_stateOf 57 = .ok (.istore_n 3, 1) := by decide +kernel
theorem d_Md_stateOf_58 : decode b_Md_stateOf 58 = .ok (.iinc 4 1, 3) := by decide +kernel
theorem d_Md_stateOf_61 : decode b_Md_stateOf 61 = .ok (.goto (-56), 3) := by decide +kernel
theorem d_Md_stateOf_64 : decode b_Md_stateOf 64 = .ok (.iload_n 3, 1) := by decide +kernel
theorem d_Md_stateOf_65 : decode b_Md_stateOf 65 = .ok (.ireturn, 1) := by decide +kernel
theorem d_Md_swap_0 : decode b_Md_swap 0 = .ok (.aload_n 0, 1) := by decide +kernel
theorem d_Md_swap_1 : decode b_Md_swap 1 = .ok (.iconst 0, 1) := by decide +kernel
theorem d_Md_swap_2 : decode b_Md_swap 2 = .ok (.putfield 58, 3) := by decide +kernel
theorem d_Md_swap_5 : decode b_Md_swap 5 = .ok (.aload_n 0, 1) := by decide +kernel
theorem d_Md_swap_6 : decode b_Md_swap 6 = .ok (.getfield 7, 3) := by decide +kernel
theorem d_Md_swap_9 : decode b_Md_swap 9 = .ok (.iconst 0, 1) := by decide +kernel
theorem d_Md_swap_10 : decode b_Md_swap 10 = .ok (.iaload, 1) := by decide +kernel
theorem d_Md_swap_11 : decode b_Md_swap 11 = .ok (.ifCond .eq 17, 3) := by decide +kernel
theorem d_Md_swap_14 : decode b_Md_swap 14 = .ok (.aload_n 0, 1) := by decide +kernel
theorem d_Md_swap_15 : decode b_Md_swap 15 = .ok (.iconst 1, 1) := by decide +kernel
theorem d_Md_swap_16 : decode b_Md_swap 16 = .ok (.invokevirtual 65, 3) := by decide +kernel
theorem d_Md_swap_19 : decode b_Md_swap 19 = .ok (.ifCond .le 7, 3) := by decide +kernel
theorem d_Md_swap_22 : decode b_Md_swap 22 = .ok (.iconst 1, 1) := by decide +kernel
theorem d_Md_swap_23 : decode b_Md_swap 23 = .ok (.goto 4, 3) := by decide +kernel
theorem d_Md_swap_26 : decode b_Md_swap 26 = .ok (.iconst 0, 1) := by decide +kernel
theorem d_Md_swap_27 : decode b_Md_swap 27 = .ok (.ireturn, 1) := by decide +kernel
theorem d_Md_swap_28 : decode b_Md_swap 28 = .ok (.aload_n 0, 1) := by decide +kernel
theorem d_Md_swap_29 : decode b_Md_swap 29 = .ok (.iload_n 1, 1) := by decide +kernel
theorem d_Md_swap_30 : decode b_Md_swap 30 = .ok (.invokevirtual 69, 3) := by decide +kernel
theorem d_Md_swap_33 : decode b_Md_swap 33 = .ok (.ifCond .ne 11, 3) := by decide +kernel
theorem d_Md_swap_36 : decode b_Md_swap 36 = .ok (.aload_n 0, 1) := by decide +kernel
theorem d_Md_swap_37 : decode b_Md_swap 37 = .ok (.iload_n 2, 1) := by decide +kernel
theorem d_Md_swap_38 : decode b_Md_swap 38 = .ok (.invokevirtual 69, 3) := by decide +kernel
theorem d_Md_swap_41 : decode b_Md_swap 41 = .ok (.ifCond .eq 17, 3) := by decide +kernel
theorem d_Md_swap_44 : decode b_Md_swap 44 = .ok (.aload_n 0, 1) := by decide +kernel
theorem d_Md_swap_45 : decode b_Md_swap 45 = .ok (.iconst 2, 1) := by decide +kernel
theorem d_Md_swap_46 : decode b_Md_swap 46 = .ok (.invokevirtual 65, 3) := by decide +kernel
theorem d_Md_swap_49 : decode b_Md_swap 49 = .ok (.ifCond .le 7, 3) := by decide +kernel
theorem d_Md_swap_52 : decode b_Md_swap 52 = .ok (.iconst 1, 1) := by decide +kernel
theorem d_Md_swap_53 : decode b_Md_swap 53 = .ok (.goto 4, 3) := by decide +kernel
theorem d_Md_swap_56 : decode b_Md_swap 56 = .ok (.iconst 0, 1) := by decide +kernel
theorem d_Md_swap_57 : decode b_Md_swap 57 = .ok (.ireturn, 1) := by decide +kernel
theorem d_Md_swap_58 : decode b_Md_swap 58 = .ok (.iload_n 2, 1) := by decide +kernel
theorem d_Md_swap_59 : decode b_Md_swap 59 = .ok (.aload_n 0, 1) := by decide +kernel
theorem d_Md_swap_60 : decode b_Md_swap 60 = .ok (.iconst 0, 1) := by decide +kernel
theorem d_Md_swap_61 : decode b_Md_swap 61 = .ok (.iload_n 2, 1) := by decide +kernel
theorem d_Md_swap_62 : decode b_Md_swap 62 = .ok (.iconst 0, 1) := by decide +kernel
theorem d_Md_swap_63 : decode b_Md_swap 63 = .ok (.invokevirtual 73, 3) := by decide +kernel
theorem d_Md_swap_66 : decode b_Md_swap 66 = .ok (.iadd, 1) := by decide +kernel
theorem d_Md_swap_67 : decode b_Md_swap 67 = .ok (.iload_n 1, 1) := by decide +kernel
theorem d_Md_swap_68 : decode b_Md_swap 68 = .ok (.isub, 1) := by decide +kernel
theorem d_Md_swap_69 : decode b_Md_swap 69 = .ok (.istore_n 3, 1) := by decide +kernel
theorem d_Md_swap_70 : decode b_Md_swap 70 = .ok (.iload_n 1, 1) := by decide +kernel
theorem d_Md_swap_71 : decode b_Md_swap 71 = .ok (.aload_n 0, 1) := by decide +kernel
theorem d_Md_swap_72 : decode b_Md_swap 72 = .ok (.iconst 0, 1) := by decide +kernel
theorem d_Md_swap_73 : decode b_Md_swap 73 = .ok (.iload_n 1, 1) := by decide +kernel
theorem d_Md_swap_74 : decode b_Md_swap 74 = .ok (.iconst 0, 1) := by decide +kernel
theorem d_Md_swap_75 : decode b_Md_swap 75 = .ok (.invokevirtual 73, 3) := by decide +kernel
theorem d_Md_swap_78 : decode b_Md_swap 78 = .ok (.iadd, 1) := by decide +kernel
theorem d_Md_swap_79 : decode b_Md_swap 79 = .ok (.iload_n 2, 1) := by decide +kernel
theorem d_Md_swap_80 : decode b_Md_swap 80 = .ok (.isub, 1) := by decide +kernel
theorem d_Md_swap_81 : decode b_Md_swap 81 = .ok (.istore 4, 2) := by decide +kernel
theorem d_Md_swap_83 : decode b_Md_swap 83 = .ok (.iload_n 3, 1) := by decide +kernel
theorem d_Md_swap_84 : decode b_Md_swap 84 = .ok (.iconst 0, 1) := by decide +kernel
theorem d_Md_swap_85 : decode b_Md_swap 85 = .ok (.bipush 9, 2) := by decide +kernel
theorem d_Md_swap_87 : decode b_Md_swap 87 = .ok (.invokestatic 61, 3) := by decide +kernel
theorem d_Md_swap_90 : decode b_Md_swap 90 = .ok (.ifCond .eq 14, 3) := by decide +kernel
theorem d_Md_swap_93 : decode b_Md_swap 93 = .ok (.iload 4, 2) := by decide +kernel
theorem d_Md_swap_95 : decode b_Md_swap 95 = .ok (.iconst 0, 1) := by decide +kernel
theorem d_Md_swap_96 : decode b_Md_swap 96 = .ok (.bipush 9, 2) := by decide +kernel
theorem d_Md_swap_98 : decode b_Md_swap 98 = .ok (.invokestatic 61, 3) := by decide +kernel
theorem d_Md_swap_101 : decode b_Md_swap 101 = .ok (.ifCond .ne 5, 3) := by decide +kernel
theorem d_Md_swap_104 : decode b_Md_swap 104 = .ok (.iconst 0, 1) := by decide +kernel
theorem d_Md_swap_105 : decode b_Md_swap 105 = .ok (.ireturn, 1) := by decide +kernel
theorem d_Md_swap_106 : decode b_Md_swap 106 = .ok (.aload_n 0, 1) := by decide +kernel
theorem d_Md_swap_107 : decode b_Md_swap 107 = .ok (.getfield 19, 3) := by decide +kernel
theorem d_Md_swap_110 : decode b_Md_swap 110 = .ok (.iconst 3, 1) := by decide +kernel
theorem d_Md_swap_111 : decode b_Md_swap 111 = .ok (.iload_n 1, 1) := by decide +kernel
theorem d_Md_swap_112 : decode b_Md_swap 112 = .ok (.imul, 1) := by decide +kernel
theorem d_Md_swap_113 : decode b_Md_swap 113 = .ok (.iload_n 3, 1) := by decide +kernel
theorem d_Md_swap_114 : decode b_Md_swap 114 = .ok (.iastore, 1) := by decide +kernel
theorem d_Md_swap_115 : decode b_Md_swap 115 = .ok (.aload_n 0, 1) := by decide +kernel
theorem d_Md_swap_116 : decode b_Md_swap 116 = .ok (.getfield 19, 3) := by decide +kernel
theorem d_Md_swap_119 : decode b_Md_swap 119 = .ok (.iconst 3, 1) := by decide +kernel
theorem d_Md_swap_120 : decode b_Md_swap 120 = .ok (.iload_n 2, 1) := by decide +kernel
theorem d_Md_swap_121 : decode b_Md_swap 121 = .ok (.imul, 1) := by decide +kernel
theorem d_Md_swap_122 : decode b_Md_swap 122 = .ok (.iload 4, 2) := by decide +kernel
theorem d_Md_swap_124 : decode b_Md_swap 124 = .ok (.iastore, 1) := by decide +kernel
theorem d_Md_swap_125 : decode b_Md_swap 125 = .ok (.iconst 1, 1) := by decide +kernel
theorem d_Md_swap_126 : decode b_Md_swap 126 = .ok (.ireturn, 1) := by decide +kernel
theorem d_Md_canonical_0 : decode b_Md_canonical 0 = .ok (.aload_n 0, 1) := by decide +kernel
theorem d_Md_canonical_1 : decode b_Md_canonical 1 = .ok (.iconst 0, 1) := by decide +kernel
theorem d_Md_canonical_2 : decode b_Md_canonical 2 = .ok (.putfield 58, 3) := by decide +kernel
theorem d_Md_canonical_5 : decode b_Md_canonical 5 = .ok (.aload_n 0, 1) := by decide +kernel
theorem d_Md_canonical_6 : decode b_Md_canonical 6 = .ok (.getfield 7, 3) := by decide +kernel
theorem d_Md_canonical_9 : decode b_Md_canonical 9 = .ok (.iconst 0, 1) := by decide +kernel
theorem d_Md_canonical_10 : decode b_Md_canonical 10 = .ok (.iaload, 1) := by decide +kernel
theorem d_Md_canonical_11 : decode b_Md_canonical 11 = .ok (.ifCond .eq 9, 3) := by decide +kernel
theorem d_Md_canonical_14 : decode b_Md_canonical 14 = .ok (.aload_n 0, 1) := by decide +kernel
theorem d_Md_canonical_15 : decode b_Md_canonical 15 = .ok (.iconst 1, 1) := by decide +kernel
theorem d_Md_canonical_16 : decode b_Md_canonical 16 = .ok (.invokevirtual 65, 3) := by decide +kernel
theorem d_Md_canonical_19 : decode b_Md_canonical 19 = .ok (.ireturn, 1) := by decide +kernel
theorem d_Md_canonical_20 : decode b_Md_canonical 20 = .ok (.aload_n 0, 1) := by decide +kernel
theorem d_Md_canonical_21 : decode b_Md_canonical 21 = .ok (.getfield 13, 3) := by decide +kernel
theorem d_Md_canonical_24 : decode b_Md_canonical 24 = .ok (.iconst 0, 1) := by decide +kernel
theorem d_Md_canonical_25 : decode b_Md_canonical 25 = .ok (.iaload, 1) := by decide +kernel
theorem d_Md_canonical_26 : decode b_Md_canonical 26 = .ok (.istore_n 1, 1) := by decide +kernel
theorem d_Md_canonical_27 : decode b_Md_canonical 27 = .ok (.iconst 0, 1) := by decide +kernel
theorem d_Md_canonical_28 : decode b_Md_canonical 28 = .ok (.istore_n 2, 1) := by decide +kernel
theorem d_Md_canonical_29 : decode b_Md_canonical 29 = .ok (.iconst 1, 1) := by decide +kernel
theorem d_Md_canonical_30 : decode b_Md_canonical 30 = .ok (.istore_n 3, 1) := by decide +kernel
theorem d_Md_canonical_31 : decode b_Md_canonical 31 = .ok (.iload_n 3, 1) := by decide +kernel
theorem d_Md_canonical_32 : decode b_Md_canonical 32 = .ok (.iload_n 1, 1) := by decide +kernel
theorem d_Md_canonical_33 : decode b_Md_canonical 33 = .ok (.if_icmp .ge 24, 3) := by decide +kernel
theorem d_Md_canonical_36 : decode b_Md_canonical 36 = .ok (.aload_n 0, 1) := by decide +kernel
theorem d_Md_canonical_37 : decode b_Md_canonical 37 = .ok (.iload_n 3, 1) := by decide +kernel
theorem d_Md_canonical_38 : decode b_Md_canonical 38 = .ok (.iload_n 2, 1) := by decide +kernel
theorem d_Md_canonical_39 : decode b_Md_canonical 39 = .ok (.invokevirtual 96, 3) := by decide +kernel
theorem d_Md_canonical_42 : decode b_Md_canonical 42 = .ok (.ifCond .eq 7, 3) := by decide +kernel
theorem d_Md_canonical_45 : decode b_Md_canonical 45 = .ok (.iload_n 3, 1) := by decide +kernel
theorem d_Md_canonical_46 : decode b_Md_canonical 46 = .ok (.goto 4, 3) := by decide +kernel
theorem d_Md_canonical_49 : decode b_Md_canonical 49 = .ok (.iload_n 2, 1) := by decide +kernel
theorem d_Md_canonical_50 : decode b_Md_canonical 50 = .ok (.istore_n 2, 1) := by decide +kernel
theorem d_Md_canonical_51 : decode b_Md_canonical 51 = .ok (.iinc 3 1, 3) := by decide +kernel
theorem d_Md_canonical_54 : decode b_Md_canonical 54 = .ok (.goto (-23), 3) := by decide +kernel
theorem d_Md_canonical_57 : decode b_Md_canonical 57 = .ok (.iconst 0, 1) := by decide +kernel
theorem d_Md_canonical_58 : decode b_Md_canonical 58 = .ok (.istore_n 3, 1) := by decide +kernel
theorem d_Md_canonical_59 : decode b_Md_canonical 59 = .ok (.iload_n 3, 1) := by decide +kernel
theorem d_Md_canonical_60 : decode b_Md_canonical 60 = .ok (.iload_n 1, 1) := by decide +kernel
theorem d_Md_canonical_61 : decode b_Md_canonical 61 = .ok (.if_icmp .ge 26, 3) := by decide +kernel
theorem d_Md_canonical_64 : decode b_Md_canonical 64 = .ok (.aload_n 0, 1) := by decide +kernel
theorem d_Md_canonical_65 : decode b_Md_canonical 65 = .ok (.getfield 51, 3) := by decide +kernel
theorem d_Md_canonical_68 : decode b_Md_canonical 68 = .ok (.iload_n 3, 1) := by decide +kernel
theorem d_Md_canonical_69 : decode b_Md_canonical 69 = .ok (.aload_n 0, 1) := by decide +kernel
theorem d_Md_canonical_70 : decode b_Md_canonical 70 = .ok (.iconst 0, 1) := by decide +kernel
theorem d_Md_canonical_71 : decode b_Md_canonical 71 = .ok (.iload_n 2, 1) := by decide +kernel
theorem d_Md_canonical_72 : decode b_Md_canonical 72 = .ok (.iload_n 3, 1) := by decide +kernel
theorem d_Md_canonical_73 : decode b_Md_canonical 73 = .ok (.iadd, 1) := by decide +kernel
theorem d_Md_canonical_74 : decode b_Md_canonical 74 = .ok (.iload_n 1, 1) := by decide +kernel
theorem d_Md_canonical_75 : decode b_Md_canonical 75 = .ok (.irem, 1) := by decide +kernel
theorem d_Md_canonical_76 : decode b_Md_canonical 76 = .ok (.iconst 0, 1) := by decide +kernel
theorem d_Md_canonical_77 : decode b_Md_canonical 77 = .ok (.invokevirtual 73, 3) := by decide +kernel
theorem d_Md_canonical_80 : decode b_Md_canonical 80 = .ok (.iastore, 1) := by decide +kernel
theorem d_Md_canonical_81 : decode b_Md_canonical 81 = .ok (.iinc 3 1, 3) := by decide +kernel
theorem d_Md_canonical_84 : decode b_Md_canonical 84 = .ok (.goto (-25), 3) := by decide +kernel
theorem d_Md_canonical_87 : decode b_Md_canonical 87 = .ok (.iconst 0, 1) := by decide +kernel
theorem d_Md_canonical_88 : decode b_Md_canonical 88 = .ok (.istore_n 3, 1) := by decide +kernel
theorem d_Md_canonical_89 : decode b_Md_canonical 89 = .ok (.iload_n 3, 1) := by decide +kernel
theorem d_Md_canonical_90 : decode b_Md_canonical 90 = .ok (.iload_n 1, 1) := by decide +kernel
theorem d_Md_canonical_91 : decode b_Md_canonical 91 = .ok (.if_icmp .ge 23, 3) := by decide +kernel
theorem d_Md_canonical_94 : decode b_Md_canonical 94 = .ok (.aload_n 0, 1) := by decide +kernel
theorem d_Md_canonical_95 : decode b_Md_canonical 95 = .ok (.getfield 19, 3) := by decide +kernel
theorem d_Md_canonical_98 : decode b_Md_canonical 98 = .ok (.iconst 3, 1) := by decide +kernel
theorem d_Md_canonical_99 : decode b_Md_canonical 99 = .ok (.iload_n 3, 1) := by decide +kernel
theorem d_Md_canonical_100 : decode b_Md_canonical 100 = .ok (.imul, 1) := by decide +kernel
theorem d_Md_canonical_101 : decode b_Md_canonical 101 = .ok (.aload_n 0, 1) := by decide +kernel
theorem d_Md_canonical_102 : decode b_Md_canonical 102 = .ok (.getfield 51, 3) := by decide +kernel
theorem d_Md_canonical_105 : decode b_Md_canonical 105 = .ok (.iload_n 3, 1) := by decide +kernel
theorem d_Md_canonical_106 : decode b_Md_canonical 106 = .ok (.iaload, 1) := by decide +kernel
theorem d_Md_canonical_107 : decode b_Md_canonical 107 = .ok (.iastore, 1) := by decide +kernel
theorem d_Md_canonical_108 : decode b_Md_canonical 108 = .ok (.iinc 3 1, 3) := by decide +kernel
theorem d_Md_canonical_111 : decode b_Md_canonical 111 = .ok (.goto (-22), 3) := by decide +kernel
theorem d_Md_canonical_114 : decode b_Md_canonical 114 = .ok (.iload_n 2, 1) := by decide +kernel
theorem d_Md_canonical_115 : decode b_Md_canonical 115 = .ok (.ireturn, 1) := by decide +kernel
theorem d_Md_lower_0 : decode b_Md_lower 0 = .ok (.aload_n 0, 1) := by decide +kernel
theorem d_Md_lower_1 : decode b_Md_lower 1 = .ok (.getfield 13, 3) := by decide +kernel
theorem d_Md_lower_4 : decode b_Md_lower 4 = .ok (.iconst 0, 1) := by decide +kernel
theorem d_Md_lower_5 : decode b_Md_lower 5 = .ok (.iaload, 1) := by decide +kernel
theorem d_Md_lower_6 : decode b_Md_lower 6 = .ok (.istore_n 3, 1) := by decide +kernel
theorem d_Md_lower_7 : decode b_Md_lower 7 = .ok (.iconst 0, 1) := by decide +kernel
theorem d_Md_lower_8 : decode b_Md_lower 8 = .ok (.istore 4, 2) := by decide +kernel
theorem d_Md_lower_10 : decode b_Md_lower 10 = .ok (.iload 4, 2) := by decide +kernel
theorem d_Md_lower_12 : decode b_Md_lower 12 = .ok (.iload_n 3, 1) := by decide +kernel
theorem d_Md_lower_13 : decode b_Md_lower 13 = .ok (.if_icmp .ge 57, 3) := by decide +kernel
theorem d_Md_lower_16 : decode b_Md_lower 16 = .ok (.aload_n 0, 1) := by decide +kernel
theorem d_Md_lower_17 : decode b_Md_lower 17 = .ok (.iconst 0, 1) := by decide +kernel
theorem d_Md_lower_18 : decode b_Md_lower 18 = .ok (.iload_n 1, 1) := by decide +kernel
theorem d_Md_lower_19 : decode b_Md_lower 19 = .ok (.iload 4, 2) := by decide +kernel
theorem d_Md_lower_21 : decode b_Md_lower 21 = .ok (.iadd, 1) := by decide +kernel
theorem d_Md_lower_22 : decode b_Md_lower 22 = .ok (.iload_n 3, 1) := by decide +kernel
theorem d_Md_lower_23 : decode b_Md_lower 23 = .ok (.irem, 1) := by decide +kernel
theorem d_Md_lower_24 : decode b_Md_lower 24 = .ok (.iconst 0, 1) := by decide +kernel
theorem d_Md_lower_25 : decode b_Md_lower 25 = .ok (.invokevirtual 73, 3) := by decide +kernel
theorem d_Md_lower_28 : decode b_Md_lower 28 = .ok (.istore 5, 2) := by decide +kernel
theorem d_Md_lower_30 : decode b_Md_lower 30 = .ok (.aload_n 0, 1) := by decide +kernel
theorem d_Md_lower_31 : decode b_Md_lower 31 = .ok (.iconst 0, 1) := by decide +kernel
theorem d_Md_lower_32 : decode b_Md_lower 32 = .ok (.iload_n 2, 1) := by decide +kernel
theorem d_Md_lower_33 : decode b_Md_lower 33 = .ok (.iload 4, 2) := by decide +kernel
theorem d_Md_lower_35 : decode b_Md_lower 35 = .ok (.iadd, 1) := by decide +kernel
theorem d_Md_lower_36 : decode b_Md_lower 36 = .ok (.iload_n 3, 1) := by decide +kernel
theorem d_Md_lower_37 : decode b_Md_lower 37 = .ok (.irem, 1) := by decide +kernel
theorem d_Md_lower_38 : decode b_Md_lower 38 = .ok (.iconst 0, 1) := by decide +kernel
theorem d_Md_lower_39 : decode b_Md_lower 39 = .ok (.invokevirtual 73, 3) := by decide +kernel
theorem d_Md_lower_42 : decode b_Md_lower 42 = .ok (.istore 6, 2) := by decide +kernel
theorem d_Md_lower_44 : decode b_Md_lower 44 = .ok (.iload 5, 2) := by decide +kernel
theorem d_Md_lower_46 : decode b_Md_lower 46 = .ok (.iload 6, 2) := by decide +kernel
theorem d_Md_lower_48 : decode b_Md_lower 48 = .ok (.if_icmp .eq 16, 3) := by decide +kernel
theorem d_Md_lower_51 : decode b_Md_lower 51 = .ok (.iload 5, 2) := by decide +kernel
theorem d_Md_lower_53 : decode b_Md_lower 53 = .ok (.iload 6, 2) := by decide +kernel
theorem d_Md_lower_55 : decode b_Md_lower 55 = .ok (.if_icmp .ge 7, 3) := by decide +kernel
theorem d_Md_lower_58 : decode b_Md_lower 58 = .ok (.iconst 1, 1) := by decide +kernel
theorem d_Md_lower_59 : decode b_Md_lower 59 = .ok (.goto 4, 3) := by decide +kernel
theorem d_Md_lower_62 : decode b_Md_lower 62 = .ok (.iconst 0, 1) := by decide +kernel
theorem d_Md_lower_63 : decode b_Md_lower 63 = .ok (.ireturn, 1) := by decide +kernel
theorem d_Md_lower_64 : decode b_Md_lower 64 = .ok (.iinc 4 1, 3) := by decide +kernel
theorem d_Md_lower_67 : decode b_Md_lower 67 = .ok (.goto (-57), 3) := by decide +kernel
theorem d_Md_lower_70 : decode b_Md_lower 70 = .ok (.iconst 0, 1) := by decide +kernel
theorem d_Md_lower_71 : decode b_Md_lower 71 = .ok (.ireturn, 1) := by decide +kernel
theorem d_Md_height_0 : decode b_Md_height 0 = .ok (.aload_n 0, 1) := by decide +kernel
theorem d_Md_height_1 : decode b_Md_height 1 = .ok (.iconst 0, 1) := by decide +kernel
theorem d_Md_height_2 : decode b_Md_height 2 = .ok (.putfield 58, 3) := by decide +kernel
theorem d_Md_height_5 : decode b_Md_height 5 = .ok (.aload_n 0, 1) := by decide +kernel
theorem d_Md_height_6 : decode b_Md_height 6 = .ok (.iload_n 1, 1) := by decide +kernel
theorem d_Md_height_7 : decode b_Md_height 7 = .ok (.invokevirtual 69, 3) := by decide +kernel
theorem d_Md_height_10 : decode b_Md_height 10 = .ok (.ifCond .ne 19, 3) := by decide +kernel
theorem d_Md_height_13 : decode b_Md_height 13 = .ok (.iload_n 2, 1) := by decide +kernel
theorem d_Md_height_14 : decode b_Md_height 14 = .ok (.iconst 0, 1) := by decide +kernel
theorem d_Md_height_15 : decode b_Md_height 15 = .ok (.aload_n 0, 1) := by decide +kernel
theorem d_Md_height_16 : decode b_Md_height 16 = .ok (.getfield 16, 3) := by decide +kernel
theorem d_Md_height_19 : decode b_Md_height 19 = .ok (.iload_n 1, 1) := by decide +kernel
theorem d_Md_height_20 : decode b_Md_height 20 = .ok (.iaload, 1) := by decide +kernel
theorem d_Md_height_21 : decode b_Md_height 21 = .ok (.iconst 1, 1) := by decide +kernel
theorem d_Md_height_22 : decode b_Md_height 22 = .ok (.isub, 1) := by decide +kernel
theorem d_Md_height_23 : decode b_Md_height 23 = .ok (.invokestatic 61, 3) := by decide +kernel
theorem d_Md_height_26 : decode b_Md_height 26 = .ok (.ifCond .ne 9, 3) := by decide +kernel
theorem d_Md_height_29 : decode b_Md_height 29 = .ok (.aload_n 0, 1) := by decide +kernel
theorem d_Md_height_30 : decode b_Md_height 30 = .ok (.iconst 1, 1) := by decide +kernel
theorem d_Md_height_31 : decode b_Md_height 31 = .ok (.invokevirtual 65, 3) := by decide +kernel
theorem d_Md_height_34 : decode b_Md_height 34 = .ok (.ireturn, 1) := by decide +kernel
theorem d_Md_height_35 : decode b_Md_height 35 = .ok (.aload_n 0, 1) := by decide +kernel
theorem d_Md_height_36 : decode b_Md_height 36 = .ok (.iconst 0, 1) := by decide +kernel
theorem d_Md_height_37 : decode b_Md_height 37 = .ok (.iload_n 1, 1) := by decide +kernel
theorem d_Md_height_38 : decode b_Md_height 38 = .ok (.iload_n 2, 1) := by decide +kernel
theorem d_Md_height_39 : decode b_Md_height 39 = .ok (.invokevirtual 73, 3) := by decide +kernel
theorem d_Md_height_42 : decode b_Md_height 42 = .ok (.aload_n 0, 1) := by decide +kernel
theorem d_Md_height_43 : decode b_Md_height 43 = .ok (.getfield 22, 3) := by decide +kernel
theorem d_Md_height_46 : decode b_Md_height 46 = .ok (.iload_n 1, 1) := by decide +kernel
theorem d_Md_height_47 : decode b_Md_height 47 = .ok (.baload, 1) := by decide +kernel
theorem d_Md_height_48 : decode b_Md_height 48 = .ok (.ifCond .eq 8, 3) := by decide +kernel
theorem d_Md_height_51 : decode b_Md_height 51 = .ok (.bipush 16, 2) := by decide +kernel
theorem d_Md_height_53 : decode b_Md_height 53 = .ok (.goto 4, 3) := by decide +kernel
theorem d_Md_height_56 : decode b_Md_height 56 = .ok (.iconst 0, 1) := by decide +kernel
theorem d_Md_height_57 : decode b_Md_height 57 = .ok (.iadd, 1) := by decide +kernel
theorem d_Md_height_58 : decode b_Md_height 58 = .ok (.ireturn, 1) := by decide +kernel
theorem d_Md_save_0 : decode b_Md_save 0 = .ok (.aload_n 0, 1) := by decide +kernel
theorem d_Md_save_1 : decode b_Md_save 1 = .ok (.iconst 0, 1) := by decide +kernel
theorem d_Md_save_2 : decode b_Md_save 2 = .ok (.putfield 58, 3) := by decide +kernel
theorem d_Md_save_5 : decode b_Md_save 5 = .ok (.iload_n 1, 1) := by decide +kernel
theorem d_Md_save_6 : decode b_Md_save 6 = .ok (.iconst 0, 1) := by decide +kernel
theorem d_Md_save_7 : decode b_Md_save 7 = .ok (.iconst 5, 1) := by decide +kernel
theorem d_Md_save_8 : decode b_Md_save 8 = .ok (.invokestatic 61, 3) := by decide +kernel
theorem d_Md_save_11 : decode b_Md_save 11 = .ok (.ifCond .ne 17, 3) := by decide +kernel
theorem d_Md_save_14 : decode b_Md_save 14 = .ok (.aload_n 0, 1) := by decide +kernel
theorem d_Md_save_15 : decode b_Md_save 15 = .ok (.iconst 1, 1) := by decide +kernel
theorem d_Md_save_16 : decode b_Md_save 16 = .ok (.invokevirtual 65, 3) := by decide +kernel
theorem d_Md_save_19 : decode b_Md_save 19 = .ok (.ifCond .le 7, 3) := by decide +kernel
theorem d_Md_save_22 : decode b_Md_save 22 = .ok (.iconst 1, 1) := by decide +kernel
theorem d_Md_save_23 : decode b_Md_save 23 = .ok (.goto 4, 3) := by decide +kernel
theorem d_Md_save_26 : decode b_Md_save 26 = .ok (.iconst 0, 1) := by decide +kernel
theorem d_Md_save_27 : decode b_Md_save 27 = .ok (.ireturn, 1) := by decide +kernel
theorem d_Md_save_28 : decode b_Md_save 28 = .ok (.aload_n 0, 1) := by decide +kernel
theorem d_Md_save_29 : decode b_Md_save 29 = .ok (.getfield 13, 3) := by decide +kernel
theorem d_Md_save_32 : decode b_Md_save 32 = .ok (.iconst 1, 1) := by decide +kernel
theorem d_Md_save_33 : decode b_Md_save 33 = .ok (.iload_n 1, 1) := by decide +kernel
theorem d_Md_save_34 : decode b_Md_save 34 = .ok (.iadd, 1) := by decide +kernel
theorem d_Md_save_35 : decode b_Md_save 35 = .ok (.iaload, 1) := by decide +kernel
theorem d_Md_save_36 : decode b_Md_save 36 = .ok (.ifCond .le 7, 3) := by decide +kernel
theorem d_Md_save_39 : decode b_Md_save 39 = .ok (.iconst 1, 1) := by decide +kernel
theorem d_Md_save_40 : decode b_Md_save 40 = .ok (.goto 4, 3) := by decide +kernel
theorem d_Md_save_43 : decode b_Md_save 43 = .ok (.iconst 0, 1) := by decide +kernel
theorem d_Md_save_44 : decode b_Md_save 44 = .ok (.istore_n 2, 1) := by decide +kernel
theorem d_Md_save_45 : decode b_Md_save 45 = .ok (.aload_n 0, 1) := by decide +kernel
theorem d_Md_save_46 : decode b_Md_save 46 = .ok (.iconst 0, 1) := by decide +kernel
theorem d_Md_save_47 : decode b_Md_save 47 = .ok (.iconst 1, 1) := by decide +kernel
theorem d_Md_save_48 : decode b_Md_save 48 = .ok (.iload_n 1, 1) := by decide +kernel
theorem d_Md_save_49 : decode b_Md_save 49 = .ok (.iadd, 1) := by decide +kernel
theorem d_Md_save_50 : decode b_Md_save 50 = .ok (.invokevirtual 100, 3) := by decide +kernel
theorem d_Md_save_53 : decode b_Md_save 53 = .ok (.iload_n 2, 1) := by decide +kernel
theorem d_Md_save_54 : decode b_Md_save 54 = .ok (.ireturn, 1) := by decide +kernel
theorem d_Md_copy_0 : decode b_Md_copy 0 = .ok (.aload_n 0, 1) := by decide +kernel
theorem d_Md_copy_1 : decode b_Md_copy 1 = .ok (.getfield 7, 3) := by decide +kernel
theorem d_Md_copy_4 : decode b_Md_copy 4 = .ok (.iload_n 2, 1) := by decide +kernel
theorem d_Md_copy_5 : decode b_Md_copy 5 = .ok (.aload_n 0, 1) := by decide +kernel
theorem d_Md_copy_6 : decode b_Md_copy 6 = .ok (.getfield 7, 3) := by decide +kernel
theorem d_Md_copy_9 : decode b_Md_copy 9 = .ok (.iload_n 1, 1) := by decide +kernel
theorem d_Md_copy_10 : decode b_Md_copy 10 = .ok (.iaload, 1) := by decide +kernel
theorem d_Md_copy_11 : decode b_Md_copy 11 = .ok (.iastore, 1) := by decide +kernel
theorem d_Md_copy_12 : decode b_Md_copy 12 = .ok (.aload_n 0, 1) := by decide +kernel
theorem d_Md_copy_13 : decode b_Md_copy 13 = .ok (.getfield 13, 3) := by decide +kernel
theorem d_Md_copy_16 : decode b_Md_copy 16 = .ok (.iload_n 2, 1) := by decide +kernel
theorem d_Md_copy_17 : decode b_Md_copy 17 = .ok (.aload_n 0, 1) := by decide +kernel
theorem d_Md_copy_18 : decode b_Md_copy 18 = .ok (.getfield 13, 3) := by decide +kernel
theorem d_Md_copy_21 : decode b_Md_copy 21 = .ok (.iload_n 1, 1) := by decide +kernel
theorem d_Md_copy_22 : decode b_Md_copy 22 = .ok (.iaload, 1) := by decide +kernel
theorem d_Md_copy_23 : decode b_Md_copy 23 = .ok (.iastore, 1) := by decide +kernel
theorem d_Md_copy_24 : decode b_Md_copy 24 = .ok (.iconst 0, 1) := by decide +kernel
theorem d_Md_copy_25 : decode b_Md_copy 25 = .ok (.istore_n 3, 1) := by decide +kernel
theorem d_Md_copy_26 : decode b_Md_copy 26 = .ok (.iload_n 3, 1) := by decide +kernel
theorem d_Md_copy_27 : decode b_Md_copy 27 = .ok (.bipush 16, 2) := by decide +kernel
theorem d_Md_copy_29 : decode b_Md_copy 29 = .ok (.if_icmp .ge 100, 3) := by decide +kernel
theorem d_Md_copy_32 : decode b_Md_copy 32 = .ok (.aload_n 0, 1) := by decide +kernel
theorem d_Md_copy_33 : decode b_Md_copy 33 = .ok (.getfield 16, 3) := by decide +kernel
theorem d_Md_copy_36 : decode b_Md_copy 36 = .ok (.bipush 16, 2) := by decide +kernel
theorem d_Md_copy_38 : decode b_Md_copy 38 = .ok (.iload_n 2, 1) := by decide +kernel
theorem d_Md_copy_39 : decode b_Md_copy 39 = .ok (.imul, 1) := by decide +kernel
theorem d_Md_copy_40 : decode b_Md_copy 40 = .ok (.iload_n 3, 1) := by decide +kernel
theorem d_Md_copy_41 : decode b_Md_copy 41 = .ok (.iadd, 1) := by decide +kernel
theorem d_Md_copy_42 : decode b_Md_copy 42 = .ok (.aload_n 0, 1) := by decide +kernel
theorem d_Md_copy_43 : decode b_Md_copy 43 = .ok (.getfield 16, 3) := by decide +kernel
theorem d_Md_copy_46 : decode b_Md_copy 46 = .ok (.bipush 16, 2) := by decide +kernel
theorem d_Md_copy_48 : decode b_Md_copy 48 = .ok (.iload_n 1, 1) := by decide +kernel
theorem d_Md_copy_49 : decode b_Md_copy 49 = .ok (.imul, 1) := by decide +kernel
theorem d_Md_copy_50 : decode b_Md_copy 50 = .ok (.iload_n 3, 1) := by decide +kernel
theorem d_Md_copy_51 : decode b_Md_copy 51 = .ok (.iadd, 1) := by decide +kernel
theorem d_Md_copy_52 : decode b_Md_copy 52 = .ok (.iaload, 1) := by decide +kernel
theorem d_Md_copy_53 : decode b_Md_copy 53 = .ok (.iastore, 1) := by decide +kernel
theorem d_Md_copy_54 : decode b_Md_copy 54 = .ok (.aload_n 0, 1) := by decide +kernel
theorem d_Md_copy_55 : decode b_Md_copy 55 = .ok (.getfield 22, 3) := by decide +kernel
theorem d_Md_copy_58 : decode b_Md_copy 58 = .ok (.bipush 16, 2) := by decide +kernel
theorem d_Md_copy_60 : decode b_Md_copy 60 = .ok (.iload_n 2, 1) := by decide +kernel
theorem d_Md_copy_61 : decode b_Md_copy 61 = .ok (.imul, 1) := by decide +kernel
theorem d_Md_copy_62 : decode b_Md_copy 62 = .ok (.iload_n 3, 1) := by decide +kernel
theorem d_Md_copy_63 : decode b_Md_copy 63 = .ok (.iadd, 1) := by decide +kernel
theorem d_Md_copy_64 : decode b_Md_copy 64 = .ok (.aload_n 0, 1) := by decide +kernel
theorem d_Md_copy_65 : decode b_Md_copy 65 = .ok (.getfield 22, 3) := by decide +kernel
theorem d_Md_copy_68 : decode b_Md_copy 68 = .ok (.bipush 16, 2) := by decide +kernel
theorem d_Md_copy_70 : decode b_Md_copy 70 = .ok (.iload_n 1, 1) := by decide +kernel
theorem d_Md_copy_71 : decode b_Md_copy 71 = .ok (.imul, 1) := by decide +kernel
theorem d_Md_copy_72 : decode b_Md_copy 72 = .ok (.iload_n 3, 1) := by decide +kernel
theorem d_Md_copy_73 : decode b_Md_copy 73 = .ok (.iadd, 1) := by decide +kernel
theorem d_Md_copy_74 : decode b_Md_copy 74 = .ok (.baload, 1) := by decide +kernel
theorem d_Md_copy_75 : decode b_Md_copy 75 = .ok (.bastore, 1) := by decide +kernel
theorem d_Md_copy_76 : decode b_Md_copy 76 = .ok (.iconst 0, 1) := by decide +kernel
theorem d_Md_copy_77 : decode b_Md_copy 77 = .ok (.istore 4, 2) := by decide +kernel
theorem d_Md_copy_79 : decode b_Md_copy 79 = .ok (.iload 4, 2) := by decide +kernel
theorem d_Md_copy_81 : decode b_Md_copy 81 = .ok (.iconst 3, 1) := by decide +kernel
theorem d_Md_copy_82 : decode b_Md_copy 82 = .ok (.if_icmp .ge 41, 3) := by decide +kernel
theorem d_Md_copy_85 : decode b_Md_copy 85 = .ok (.aload_n 0, 1) := by decide +kernel
theorem d_Md_copy_86 : decode b_Md_copy 86 = .ok (.getfield 19, 3) := by decide +kernel
theorem d_Md_copy_89 : decode b_Md_copy 89 = .ok (.iconst 3, 1) := by decide +kernel
theorem d_Md_copy_90 : decode b_Md_copy 90 = .ok (.bipush 16, 2) := by decide +kernel
theorem d_Md_copy_92 : decode b_Md_copy 92 = .ok (.iload_n 2, 1) := by decide +kernel
theorem d_Md_copy_93 : decode b_Md_copy 93 = .ok (.imul, 1) := by decide +kernel
theorem d_Md_copy_94 : decode b_Md_copy 94 = .ok (.iload_n 3, 1) := by decide +kernel
theorem d_Md_copy_95 : decode b_Md_copy 95 = .ok (.iadd, 1) := by decide +kernel
theorem d_Md_copy_96 : decode b_Md_copy 96 = .ok (.imul, 1) := by decide +kernel
theorem d_Md_copy_97 : decode b_Md_copy 97 = .ok (.iload 4, 2) := by decide +kernel
theorem d_Md_copy_99 : decode b_Md_copy 99 = .ok (.iadd, 1) := by decide +kernel
theorem d_Md_copy_100 : decode b_Md_copy 100 = .ok (.aload_n 0, 1) := by decide +kernel
theorem d_Md_copy_101 : decode b_Md_copy 101 = .ok (.getfield 19, 3) := by decide +kernel
theorem d_Md_copy_104 : decode b_Md_copy 104 = .ok (.iconst 3, 1) := by decide +kernel
theorem d_Md_copy_105 : decode b_Md_copy 105 = .ok (.bipush 16, 2) := by decide +kernel
theorem d_Md_copy_107 : decode b_Md_copy 107 = .ok (.iload_n 1, 1) := by decide +kernel
theorem d_Md_copy_108 : decode b_Md_copy 108 = .ok (.imul, 1) := by decide +kernel
theorem d_Md_copy_109 : decode b_Md_copy 109 = .ok (.iload_n 3, 1) := by decide +kernel
theorem d_Md_copy_110 : decode b_Md_copy 110 = .ok (.iadd, 1) := by decide +kernel
theorem d_Md_copy_111 : decode b_Md_copy 111 = .ok (.imul, 1) := by decide +kernel
theorem d_Md_copy_112 : decode b_Md_copy 112 = .ok (.iload 4, 2) := by decide +kernel
theorem d_Md_copy_114 : decode b_Md_copy 114 = .ok (.iadd, 1) := by decide +kernel
theorem d_Md_copy_115 : decode b_Md_copy 115 = .ok (.iaload, 1) := by decide +kernel
theorem d_Md_copy_116 : decode b_Md_copy 116 = .ok (.iastore, 1) := by decide +kernel
theorem d_Md_copy_117 : decode b_Md_copy 117 = .ok (.iinc 4 1, 3) := by decide +kernel
theorem d_Md_copy_120 : decode b_Md_copy 120 = .ok (.goto (-41), 3) := by decide +kernel
theorem d_Md_copy_123 : decode b_Md_copy 123 = .ok (.iinc 3 1, 3) := by decide +kernel
theorem d_Md_copy_126 : decode b_Md_copy 126 = .ok (.goto (-100), 3) := by decide +kernel
theorem d_Md_copy_129 : decode b_Md_copy 129 = .ok (.return_, 1) := by decide +kernel
theorem d_Md_load_0 : decode b_Md_load 0 = .ok (.aload_n 0, 1) := by decide +kernel
theorem d_Md_load_1 : decode b_Md_load 1 = .ok (.iconst 0, 1) := by decide +kernel
theorem d_Md_load_2 : decode b_Md_load 2 = .ok (.putfield 58, 3) := by decide +kernel
theorem d_Md_load_5 : decode b_Md_load 5 = .ok (.iload_n 1, 1) := by decide +kernel
theorem d_Md_load_6 : decode b_Md_load 6 = .ok (.iconst 0, 1) := by decide +kernel
theorem d_Md_load_7 : decode b_Md_load 7 = .ok (.iconst 5, 1) := by decide +kernel
theorem d_Md_load_8 : decode b_Md_load 8 = .ok (.invokestatic 61, 3) := by decide +kernel
theorem d_Md_load_11 : decode b_Md_load 11 = .ok (.ifCond .ne 9, 3) := by decide +kernel
theorem d_Md_load_14 : decode b_Md_load 14 = .ok (.aload_n 0, 1) := by decide +kernel
theorem d_Md_load_15 : decode b_Md_load 15 = .ok (.iconst 1, 1) := by decide +kernel
theorem d_Md_load_16 : decode b_Md_load 16 = .ok (.invokevirtual 65, 3) := by decide +kernel
theorem d_Md_load_19 : decode b_Md_load 19 = .ok (.ireturn, 1) := by decide +kernel
theorem d_Md_load_20 : decode b_Md_load 20 = .ok (.aload_n 0, 1) := by decide +kernel
theorem d_Md_load_21 : decode b_Md_load 21 = .ok (.getfield 13, 3) := by decide +kernel
theorem d_Md_load_24 : decode b_Md_load 24 = .ok (.iconst 1, 1) := by decide +kernel
theorem d_Md_load_25 : decode b_Md_load 25 = .ok (.iload_n 1, 1) := by decide +kernel
theorem d_Md_load_26 : decode b_Md_load 26 = .ok (.iadd, 1) := by decide +kernel
theorem d_Md_load_27 : decode b_Md_load 27 = .ok (.iaload, 1) := by decide +kernel
theorem d_Md_load_28 : decode b_Md_load 28 = .ok (.ifCond .ne 9, 3) := by decide +kernel
theorem d_Md_load_31 : decode b_Md_load 31 = .ok (.aload_n 0, 1) := by decide +kernel
theorem d_Md_load_32 : decode b_Md_load 32 = .ok (.iconst 2, 1) := by decide +kernel
theorem d_Md_load_33 : decode b_Md_load 33 = .ok (.invokevirtual 65, 3) := by decide +kernel
theorem d_Md_load_36 : decode b_Md_load 36 = .ok (.ireturn, 1) := by decide +kernel
theorem d_Md_load_37 : decode b_Md_load 37 = .ok (.aload_n 0, 1) := by decide +kernel
theorem d_Md_load_38 : decode b_Md_load 38 = .ok (.iconst 1, 1) := by decide +kernel
theorem d_Md_load_39 : decode b_Md_load 39 = .ok (.iload_n 1, 1) := by decide +kernel
theorem d_Md_load_40 : decode b_Md_load 40 = .ok (.iadd, 1) := by decide +kernel
theorem d_Md_load_41 : decode b_Md_load 41 = .ok (.iconst 0, 1) := by decide +kernel
theorem d_Md_load_42 : decode b_Md_load 42 = .ok (.invokevirtual 100, 3) := by decide +kernel
theorem d_Md_load_45 : decode b_Md_load 45 = .ok (.aload_n 0, 1) := by decide +kernel
theorem d_Md_load_46 : decode b_Md_load 46 = .ok (.getfield 13, 3) := by decide +kernel
theorem d_Md_load_49 : decode b_Md_load 49 = .ok (.iconst 0, 1) := by decide +kernel
theorem d_Md_load_50 : decode b_Md_load 50 = .ok (.iaload, 1) := by decide +kernel
theorem d_Md_load_51 : decode b_Md_load 51 = .ok (.ireturn, 1) := by decide +kernel
theorem d_Md_join_0 : decode b_Md_join 0 = .ok (.aload_n 0, 1) := by decide +kernel
theorem d_Md_join_1 : decode b_Md_join 1 = .ok (.iconst 0, 1) := by decide +kernel
theorem d_Md_join_2 : decode b_Md_join 2 = .ok (.putfield 58, 3) := by decide +kernel
theorem d_Md_join_5 : decode b_Md_join 5 = .ok (.iload_n 1, 1) := by decide +kernel
theorem d_Md_join_6 : decode b_Md_join 6 = .ok (.iconst 0, 1) := by decide +kernel
theorem d_Md_join_7 : decode b_Md_join 7 = .ok (.iconst 5, 1) := by decide +kernel
theorem d_Md_join_8 : decode b_Md_join 8 = .ok (.invokestatic 61, 3) := by decide +kernel
theorem d_Md_join_11 : decode b_Md_join 11 = .ok (.ifCond .eq 12, 3) := by decide +kernel
theorem d_Md_join_14 : decode b_Md_join 14 = .ok (.iload_n 2, 1) := by decide +kernel
theorem d_Md_join_15 : decode b_Md_join 15 = .ok (.iconst 0, 1) := by decide +kernel
theorem d_Md_join_16 : decode b_Md_join 16 = .ok (.iconst 5, 1) := by decide +kernel
theorem d_Md_join_17 : decode b_Md_join 17 = .ok (.invokestatic 61, 3) := by decide +kernel
theorem d_Md_join_20 : decode b_Md_join 20 = .ok (.ifCond .ne 9, 3) := by decide +kernel
theorem d_Md_join_23 : decode b_Md_join 23 = .ok (.aload_n 0, 1) := by decide +kernel
theorem d_Md_join_24 : decode b_Md_join 24 = .ok (.iconst 1, 1) := by decide +kernel
theorem d_Md_join_25 : decode b_Md_join 25 = .ok (.invokevirtual 65, 3) := by decide +kernel
theorem d_Md_join_28 : decode b_Md_join 28 = .ok (.ireturn, 1) := by decide +kernel
theorem d_Md_join_29 : decode b_Md_join 29 = .ok (.iconst 1, 1) := by decide +kernel
theorem d_Md_join_30 : decode b_Md_join 30 = .ok (.iload_n 1, 1) := by decide +kernel
theorem d_Md_join_31 : decode b_Md_join 31 = .ok (.iadd, 1) := by decide +kernel
theorem d_Md_join_32 : decode b_Md_join 32 = .ok (.istore_n 3, 1) := by decide +kernel
theorem d_Md_join_33 : decode b_Md_join 33 = .ok (.iconst 1, 1) := by decide +kernel
theorem d_Md_join_34 : decode b_Md_join 34 = .ok (.iload_n 2, 1) := by decide +kernel
theorem d_Md_join_35 : decode b_Md_join 35 = .ok (.iadd, 1) := by decide +kernel
theorem d_Md_join_36 : decode b_Md_join 36 = .ok (.istore 4, 2) := by decide +kernel
theorem d_Md_join_38 : decode b_Md_join 38 = .ok (.aload_n 0, 1) := by decide +kernel
theorem d_Md_join_39 : decode b_Md_join 39 = .ok (.getfield 13, 3) := by decide +kernel
theorem d_Md_join_42 : decode b_Md_join 42 = .ok (.iload_n 3, 1) := by decide +kernel
theorem d_Md_join_43 : decode b_Md_join 43 = .ok (.iaload, 1) := by decide +kernel
theorem d_Md_join_44 : decode b_Md_join 44 = .ok (.ifCond .eq 13, 3) := by decide +kernel
theorem d_Md_join_47 : decode b_Md_join 47 = .ok (.aload_n 0, 1) := by decide +kernel
theorem d_Md_join_48 : decode b_Md_join 48 = .ok (.getfield 13, 3) := by decide +kernel
theorem d_Md_join_51 : decode b_Md_join 51 = .ok (.iload 4, 2) := by decide +kernel
theorem d_Md_join_53 : decode b_Md_join 53 = .ok (.iaload, 1) := by decide +kernel
theorem d_Md_join_54 : decode b_Md_join 54 = .ok (.ifCond .ne 9, 3) := by decide +kernel
theorem d_Md_join_57 : decode b_Md_join 57 = .ok (.aload_n 0, 1) := by decide +kernel
theorem d_Md_join_58 : decode b_Md_join 58 = .ok (.iconst 2, 1) := by decide +kernel
theorem d_Md_join_59 : decode b_Md_join 59 = .ok (.invokevirtual 65, 3) := by decide +kernel
theorem d_Md_join_62 : decode b_Md_join 62 = .ok (.ireturn, 1) := by decide +kernel
theorem d_Md_join_63 : decode b_Md_join 63 = .ok (.aload_n 0, 1) := by decide +kernel
theorem d_Md_join_64 : decode b_Md_join 64 = .ok (.getfield 7, 3) := by decide +kernel
theorem d_Md_join_67 : decode b_Md_join 67 = .ok (.iload_n 3, 1) := by decide +kernel
theorem d_Md_join_68 : decode b_Md_join 68 = .ok (.iaload, 1) := by decide +kernel
theorem d_Md_join_69 : decode b_Md_join 69 = .ok (.ifCond .ne 44, 3) := by decide +kernel
theorem d_Md_join_72 : decode b_Md_join 72 = .ok (.aload_n 0, 1) := by decide +kernel
theorem d_Md_join_73 : decode b_Md_join 73 = .ok (.getfield 7, 3) := by decide +kernel
theorem d_Md_join_76 : decode b_Md_join 76 = .ok (.iload 4, 2) := by decide +kernel
theorem d_Md_join_78 : decode b_Md_join 78 = .ok (.iaload, 1) := by decide +kernel
theorem d_Md_join_79 : decode b_Md_join 79 = .ok (.ifCond .ne 34, 3) := by decide +kernel
theorem d_Md_join_82 : decode b_Md_join 82 = .ok (.aload_n 0, 1) := by decide +kernel
theorem d_Md_join_83 : decode b_Md_join 83 = .ok (.iload_n 3, 1) := by decide +kernel
theorem d_Md_join_84 : decode b_Md_join 84 = .ok (.invokevirtual 87, 3) := by decide +kernel
theorem d_Md_join_87 : decode b_Md_join 87 = .ok (.ifCond .eq 26, 3) := by decide +kernel
theorem d_Md_join_90 : decode b_Md_join 90 = .ok (.aload_n 0, 1) := by decide +kernel
theorem d_Md_join_91 : decode b_Md_join 91 = .ok (.iload 4, 2) := by decide +kernel
theorem d_Md_join_93 : decode b_Md_join 93 = .ok (.invokevirtual 87, 3) := by decide +kernel
theorem d_Md_join_96 : decode b_Md_join 96 = .ok (.ifCond .eq 17, 3) := by decide +kernel
theorem d_Md_join_99 : decode b_Md_join 99 = .ok (.aload_n 0, 1) := by decide +kernel
theorem d_Md_join_100 : decode b_Md_join 100 = .ok (.iload_n 3, 1) := by decide +kernel
theorem d_Md_join_101 : decode b_Md_join 101 = .ok (.invokevirtual 90, 3) := by decide +kernel
theorem d_Md_join_104 : decode b_Md_join 104 = .ok (.aload_n 0, 1) := by decide +kernel
theorem d_Md_join_105 : decode b_Md_join 105 = .ok (.iload 4, 2) := by decide +kernel
theorem d_Md_join_107 : decode b_Md_join 107 = .ok (.invokevirtual 90, 3) := by decide +kernel
theorem d_Md_join_110 : decode b_Md_join 110 = .ok (.if_icmp .eq 9, 3) := by decide +kernel
theorem d_Md_join_113 : decode b_Md_join 113 = .ok (.aload_n 0, 1) := by decide +kernel
theorem d_Md_join_114 : decode b_Md_join 114 = .ok (.iconst 3, 1) := by decide +kernel
theorem d_Md_join_115 : decode b_Md_join 115 = .ok (.invokevirtual 65, 3) := by decide +kernel
theorem d_Md_join_118 : decode b_Md_join 118 = .ok (.ireturn, 1) := by decide +kernel
theorem d_Md_join_119 : decode b_Md_join 119 = .ok (.aload_n 0, 1) := by decide +kernel
theorem d_Md_join_120 : decode b_Md_join 120 = .ok (.iload 4, 2) := by decide +kernel
theorem d_Md_join_122 : decode b_Md_join 122 = .ok (.invokevirtual 107, 3) := by decide +kernel
theorem d_Md_join_125 : decode b_Md_join 125 = .ok (.aload_n 0, 1) := by decide +kernel
theorem d_Md_join_126 : decode b_Md_join 126 = .ok (.iconst 0, 1) := by decide +kernel
theorem d_Md_join_127 : decode b_Md_join 127 = .ok (.putfield 111, 3) := by decide +kernel
theorem d_Md_join_130 : decode b_Md_join 130 = .ok (.iconst 1, 1) := by decide +kernel
theorem d_Md_join_131 : decode b_Md_join 131 = .ok (.istore 5, 2) := by decide +kernel
theorem d_Md_join_133 : decode b_Md_join 133 = .ok (.iload 5, 2) := by decide +kernel
theorem d_Md_join_135 : decode b_Md_join 135 = .ok (.aload_n 0, 1) := by decide +kernel
theorem d_Md_join_136 : decode b_Md_join 136 = .ok (.getfield 13, 3) := by decide +kernel
theorem d_Md_join_139 : decode b_Md_join 139 = .ok (.iload_n 3, 1) := by decide +kernel
theorem d_Md_join_140 : decode b_Md_join 140 = .ok (.iaload, 1) := by decide +kernel
theorem d_Md_join_141 : decode b_Md_join 141 = .ok (.if_icmp .ge 51, 3) := by decide +kernel
theorem d_Md_join_144 : decode b_Md_join 144 = .ok (.aload_n 0, 1) := by decide +kernel
theorem d_Md_join_145 : decode b_Md_join 145 = .ok (.aload_n 0, 1) := by decide +kernel
theorem d_Md_join_146 : decode b_Md_join 146 = .ok (.getfield 33, 3) := by decide +kernel
theorem d_Md_join_149 : decode b_Md_join 149 = .ok (.aload_n 0, 1) := by decide +kernel
theorem d_Md_join_150 : decode b_Md_join 150 = .ok (.iload_n 3, 1) := by decide +kernel
theorem d_Md_join_151 : decode b_Md_join 151 = .ok (.iload 5, 2) := by decide +kernel
theorem d_Md_join_153 : decode b_Md_join 153 = .ok (.invokevirtual 93, 3) := by decide +kernel
theorem d_Md_join_156 : decode b_Md_join 156 = .ok (.iaload, 1) := by decide +kernel
theorem d_Md_join_157 : decode b_Md_join 157 = .ok (.aload_n 0, 1) := by decide +kernel
theorem d_Md_join_158 : decode b_Md_join 158 = .ok (.getfield 33, 3) := by decide +kernel
theorem d_Md_join_161 : decode b_Md_join 161 = .ok (.aload_n 0, 1) := by decide +kernel
theorem d_Md_join_162 : decode b_Md_join 162 = .ok (.iload_n 3, 1) := by decide +kernel
theorem d_Md_join_163 : decode b_Md_join 163 = .ok (.aload_n 0, 1) := by decide +kernel
theorem d_Md_join_164 : decode b_Md_join 164 = .ok (.getfield 111, 3) := by decide +kernel
theorem d_Md_join_167 : decode b_Md_join 167 = .ok (.invokevirtual 93, 3) := by decide +kernel
theorem d_Md_join_170 : decode b_Md_join 170 = .ok (.iaload, 1) := by decide +kernel
theorem d_Md_join_171 : decode b_Md_join 171 = .ok (.if_icmp .ge 8, 3) := by decide +kernel
theorem d_Md_join_174 : decode b_Md_join 174 = .ok (.iload 5, 2) := by decide +kernel
theorem d_Md_join_176 : decode b_Md_join 176 = .ok (.goto 7, 3) := by decide +kernel
theorem d_Md_join_179 : decode b_Md_join 179 = .ok (.aload_n 0, 1) := by decide +kernel
theorem d_Md_join_180 : decode b_Md_join 180 = .ok (.getfield 111, 3) := by decide +kernel
theorem d_Md_join_183 : decode b_Md_join 183 = .ok (.putfield 111, 3) := by decide +kernel
theorem d_Md_join_186 : decode b_Md_join 186 = .ok (.iinc 5 1, 3) := by decide +kernel
theorem d_Md_join_189 : decode b_Md_join 189 = .ok (.goto (-56), 3) := by decide +kernel
theorem d_Md_join_192 : decode b_Md_join 192 = .ok (.aload_n 0, 1) := by decide +kernel
theorem d_Md_join_193 : decode b_Md_join 193 = .ok (.iload_n 3, 1) := by decide +kernel
theorem d_Md_join_194 : decode b_Md_join 194 = .ok (.aload_n 0, 1) := by decide +kernel
theorem d_Md_join_195 : decode b_Md_join 195 = .ok (.getfield 111, 3) := by decide +kernel
theorem d_Md_join_198 : decode b_Md_join 198 = .ok (.invokevirtual 93, 3) := by decide +kernel
theorem d_Md_join_201 : decode b_Md_join 201 = .ok (.istore 5, 2) := by decide +kernel
theorem d_Md_join_203 : decode b_Md_join 203 = .ok (.aload_n 0, 1) := by decide +kernel
theorem d_Md_join_204 : decode b_Md_join 204 = .ok (.iconst 0, 1) := by decide +kernel
theorem d_Md_join_205 : decode b_Md_join 205 = .ok (.putfield 26, 3) := by decide +kernel
theorem d_Md_join_208 : decode b_Md_join 208 = .ok (.aload_n 0, 1) := by decide +kernel
theorem d_Md_join_209 : decode b_Md_join 209 = .ok (.getfield 33, 3) := by decide +kernel
theorem d_Md_join_212 : decode b_Md_join 212 = .ok (.iload 5, 2) := by decide +kernel
theorem d_Md_join_214 : decode b_Md_join 214 = .ok (.iaload, 1) := by decide +kernel
theorem d_Md_join_215 : decode b_Md_join 215 = .ok (.ifCond .le 79, 3) := by decide +kernel
theorem d_Md_join_218 : decode b_Md_join 218 = .ok (.iconst 0, 1) := by decide +kernel
theorem d_Md_join_219 : decode b_Md_join 219 = .ok (.istore 6, 2) := by decide +kernel
theorem d_Md_join_221 : decode b_Md_join 221 = .ok (.iload 5, 2) := by decide +kernel
theorem d_Md_join_223 : decode b_Md_join 223 = .ok (.iload 6, 2) := by decide +kernel
theorem d_Md_join_225 : decode b_Md_join 225 = .ok (.invokestatic 104, 3) := by decide +kernel
theorem d_Md_join_228 : decode b_Md_join 228 = .ok (.ifCond .lt 27, 3) := by decide +kernel
theorem d_Md_join_231 : decode b_Md_join 231 = .ok (.aload_n 0, 1) := by decide +kernel
theorem d_Md_join_232 : decode b_Md_join 232 = .ok (.getfield 33, 3) := by decide +kernel
theorem d_Md_join_235 : decode b_Md_join 235 = .ok (.iload 5, 2) := by decide +kernel
theorem d_Md_join_237 : decode b_Md_join 237 = .ok (.iload 6, 2) := by decide +kernel
theorem d_Md_join_239 : decode b_Md_join 239 = .ok (.invokestatic 104, 3) := by decide +kernel
theorem d_Md_join_242 : decode b_Md_join 242 = .ok (.iaload, 1) := by decide +kernel
theorem d_Md_join_243 : decode b_Md_join 243 = .ok (.aload_n 0, 1) := by decide +kernel
theorem d_Md_join_244 : decode b_Md_join 244 = .ok (.getfield 33, 3) := by decide +kernel
theorem d_Md_join_247 : decode b_Md_join 247 = .ok (.iload 5, 2) := by decide +kernel
theorem d_Md_join_249 : decode b_Md_join 249 = .ok (.iaload, 1) := by decide +kernel
theorem d_Md_join_250 : decode b_Md_join 250 = .ok (.iconst 1, 1) := by decide +kernel
theorem d_Md_join_251 : decode b_Md_join 251 = .ok (.isub, 1) := by decide +kernel
theorem d_Md_join_252 : decode b_Md_join 252 = .ok (.if_icmp .eq 9, 3) := by decide +kernel
theorem d_Md_join_255 : decode b_Md_join 255 = .ok (.iinc 6 1, 3) := by decide +kernel
theorem d_Md_join_258 : decode b_Md_join 258 = .ok (.goto (-37), 3) := by decide +kernel
theorem d_Md_join_261 : decode b_Md_join 261 = .ok (.aload_n 0, 1) := by decide +kernel
theorem d_Md_join_262 : decode b_Md_join 262 = .ok (.getfield 30, 3) := by decide +kernel
theorem d_Md_join_265 : decode b_Md_join 265 = .ok (.aload_n 0, 1) := by decide +kernel
theorem d_Md_join_266 : decode b_Md_join 266 = .ok (.getfield 26, 3) := by decide +kernel
theorem d_Md_join_269 : decode b_Md_join 269 = .ok (.iload 6, 2) := by decide +kernel
theorem d_Md_join_271 : decode b_Md_join 271 = .ok (.iastore, 1) := by decide +kernel
theorem d_Md_join_272 : decode b_Md_join 272 = .ok (.aload_n 0, 1) := by decide +kernel
theorem d_Md_join_273 : decode b_Md_join 273 = .ok (.dup, 1) := by decide +kernel
theorem d_Md_join_274 : decode b_Md_join 274 = .ok (.getfield 26, 3) := by decide +kernel
theorem d_Md_join_277 : decode b_Md_join 277 = .ok (.iconst 1, 1) := by decide +kernel
theorem d_Md_join_278 : decode b_Md_join 278 = .ok (.iadd, 1) := by decide +kernel
theorem d_Md_join_279 : decode b_Md_join 279 = .ok (.putfield 26, 3) := by decide +kernel
theorem d_Md_join_282 : decode b_Md_join 282 = .ok (.iload 5, 2) := by decide +kernel
theorem d_Md_join_284 : decode b_Md_join 284 = .ok (.iload 6, 2) := by decide +kernel
theorem d_Md_join_286 : decode b_Md_join 286 = .ok (.invokestatic 104, 3) := by decide +kernel
theorem d_Md_join_289 : decode b_Md_join 289 = .ok (.istore 5, 2) := by decide +kernel
theorem d_Md_join_291 : decode b_Md_join 291 = .ok (.goto (-83), 3) := by decide +kernel
theorem d_Md_join_294 : decode b_Md_join 294 = .ok (.aload_n 0, 1) := by decide +kernel
theorem d_Md_join_295 : decode b_Md_join 295 = .ok (.iconst 0, 1) := by decide +kernel
theorem d_Md_join_296 : decode b_Md_join 296 = .ok (.putfield 114, 3) := by decide +kernel
theorem d_Md_join_299 : decode b_Md_join 299 = .ok (.aload_n 0, 1) := by decide +kernel
theorem d_Md_join_300 : decode b_Md_join 300 = .ok (.iload 4, 2) := by decide +kernel
theorem d_Md_join_302 : decode b_Md_join 302 = .ok (.aload_n 0, 1) := by decide +kernel
theorem d_Md_join_303 : decode b_Md_join 303 = .ok (.getfield 114, 3) := by decide +kernel
theorem d_Md_join_306 : decode b_Md_join 306 = .ok (.invokevirtual 93, 3) := by decide +kernel
theorem d_Md_join_309 : decode b_Md_join 309 = .ok (.iload 5, 2) := by decide +kernel
theorem d_Md_join_311 : decode b_Md_join 311 = .ok (.if_icmp .eq 16, 3) := by decide +kernel
theorem d_Md_join_314 : decode b_Md_join 314 = .ok (.aload_n 0, 1) := by decide +kernel
theorem d_Md_join_315 : decode b_Md_join 315 = .ok (.dup, 1) := by decide +kernel
theorem d_Md_join_316 : decode b_Md_join 316 = .ok (.getfield 114, 3) := by decide +kernel
theorem d_Md_join_319 : decode b_Md_join 319 = .ok (.iconst 1, 1) := by decide +kernel
theorem d_Md_join_320 : decode b_Md_join 320 = .ok (.iadd, 1) := by decide +kernel
theorem d_Md_join_321 : decode b_Md_join 321 = .ok (.putfield 114, 3) := by decide +kernel
theorem d_Md_join_324 : decode b_Md_join 324 = .ok (.goto (-25), 3) := by decide +kernel
theorem d_Md_join_327 : decode b_Md_join 327 = .ok (.aload_n 0, 1) := by decide +kernel
theorem d_Md_join_328 : decode b_Md_join 328 = .ok (.getfield 26, 3) := by decide +kernel
theorem d_Md_join_331 : decode b_Md_join 331 = .ok (.ireturn, 1) := by decide +kernel
theorem d_Md_measure_0 : decode b_Md_measure 0 = .ok (.iconst 0, 1) := by decide +kernel
theorem d_Md_measure_1 : decode b_Md_measure 1 = .ok (.istore_n 2, 1) := by decide +kernel
theorem d_Md_measure_2 : decode b_Md_measure 2 = .ok (.iload_n 2, 1) := by decide +kernel
theorem d_Md_measure_3 : decode b_Md_measure 3 = .ok (.sipush 512, 3) := by decide +kernel
theorem d_Md_measure_6 : decode b_Md_measure 6 = .ok (.if_icmp .ge 18, 3) := by decide +kernel
theorem d_Md_measure_9 : decode b_Md_measure 9 = .ok (.aload_n 0, 1) := by decide +kernel
theorem d_Md_measure_10 : decode b_Md_measure 10 = .ok (.getfield 33, 3) := by decide +kernel
theorem d_Md_measure_13 : decode b_Md_measure 13 = .ok (.iload_n 2, 1) := by decide +kernel
theorem d_Md_measure_14 : decode b_Md_measure 14 = .ok (.sipush 1000, 3) := by decide +kernel
theorem d_Md_measure_17 : decode b_Md_measure 17 = .ok (.iastore, 1) := by decide +kernel
theorem d_Md_measure_18 : decode b_Md_measure 18 = .ok (.iinc 2 1, 3) := by decide +kernel
theorem d_Md_measure_21 : decode b_Md_measure 21 = .ok (.goto (-19), 3) := by decide +kernel
theorem d_Md_measure_24 : decode b_Md_measure 24 = .ok (.iconst 0, 1) := by decide +kernel
theorem d_Md_measure_25 : decode b_Md_measure 25 = .ok (.istore_n 2, 1) := by decide +kernel
theorem d_Md_measure_26 : decode b_Md_measure 26 = .ok (.iload_n 2, 1) := by decide +kernel
theorem d_Md_measure_27 : decode b_Md_measure 27 = .ok (.aload_n 0, 1) := by decide +kernel
theorem d_Md_measure_28 : decode b_Md_measure 28 = .ok (.getfield 13, 3) := by decide +kernel
theorem d_Md_measure_31 : decode b_Md_measure 31 = .ok (.iload_n 1, 1) := by decide +kernel
theorem d_Md_measure_32 : decode b_Md_measure 32 = .ok (.iaload, 1) := by decide +kernel
theorem d_Md_measure_33 : decode b_Md_measure 33 = .ok (.if_icmp .ge 21, 3) := by decide +kernel
theorem d_Md_measure_36 : decode b_Md_measure 36 = .ok (.aload_n 0, 1) := by decide +kernel
theorem d_Md_measure_37 : decode b_Md_measure 37 = .ok (.getfield 33, 3) := by decide +kernel
theorem d_Md_measure_40 : decode b_Md_measure 40 = .ok (.aload_n 0, 1) := by decide +kernel
theorem d_Md_measure_41 : decode b_Md_measure 41 = .ok (.iload_n 1, 1) := by decide +kernel
theorem d_Md_measure_42 : decode b_Md_measure 42 = .ok (.iload_n 2, 1) := by decide +kernel
theorem d_Md_measure_43 : decode b_Md_measure 43 = .ok (.invokevirtual 93, 3) := by decide +kernel
theorem d_Md_measure_46 : decode b_Md_measure 46 = .ok (.iconst 0, 1) := by decide +kernel
theorem d_Md_measure_47 : decode b_Md_measure 47 = .ok (.iastore, 1) := by decide +kernel
theorem d_Md_measure_48 : decode b_Md_measure 48 = .ok (.iinc 2 1, 3) := by decide +kernel
theorem d_Md_measure_51 : decode b_Md_measure 51 = .ok (.goto (-25), 3) := by decide +kernel
theorem d_Md_measure_54 : decode b_Md_measure 54 = .ok (.iconst 1, 1) := by decide +kernel
theorem d_Md_measure_55 : decode b_Md_measure 55 = .ok (.istore_n 2, 1) := by decide +kernel
theorem d_Md_measure_56 : decode b_Md_measure 56 = .ok (.iload_n 2, 1) := by decide +kernel
theorem d_Md_measure_57 : decode b_Md_measure 57 = .ok (.ifCond .eq 87, 3) := by decide +kernel
theorem d_Md_measure_60 : decode b_Md_measure 60 = .ok (.iconst 0, 1) := by decide +kernel
theorem d_Md_measure_61 : decode b_Md_measure 61 = .ok (.istore_n 2, 1) := by decide +kernel
theorem d_Md_measure_62 : decode b_Md_measure 62 = .ok (.iconst 0, 1) := by decide +kernel
theorem d_Md_measure_63 : decode b_Md_measure 63 = .ok (.istore_n 3, 1) := by decide +kernel
theorem d_Md_measure_64 : decode b_Md_measure 64 = .ok (.iload_n 3, 1) := by decide +kernel
theorem d_Md_measure_65 : decode b_Md_measure 65 = .ok (.sipush 512, 3) := by decide +kernel
theorem d_Md_measure_68 : decode b_Md_measure 68 = .ok (.if_icmp .ge 73, 3) := by decide +kernel
theorem d_Md_measure_71 : decode b_Md_measure 71 = .ok (.iconst 0, 1) := by decide +kernel
theorem d_Md_measure_72 : decode b_Md_measure 72 = .ok (.istore 4, 2) := by decide +kernel
theorem d_Md_measure_74 : decode b_Md_measure 74 = .ok (.iload 4, 2) := by decide +kernel
theorem d_Md_measure_76 : decode b_Md_measure 76 = .ok (.bipush 9, 2) := by decide +kernel
theorem d_Md_measure_78 : decode b_Md_measure 78 = .ok (.if_icmp .gt 57, 3) := by decide +kernel
theorem d_Md_measure_81 : decode b_Md_measure 81 = .ok (.iload_n 3, 1) := by decide +kernel
theorem d_Md_measure_82 : decode b_Md_measure 82 = .ok (.iload 4, 2) := by decide +kernel
theorem d_Md_measure_84 : decode b_Md_measure 84 = .ok (.invokestatic 104, 3) := by decide +kernel
theorem d_Md_measure_87 : decode b_Md_measure 87 = .ok (.istore 5, 2) := by decide +kernel
theorem d_Md_measure_89 : decode b_Md_measure 89 = .ok (.iload 5, 2) := by decide +kernel
theorem d_Md_measure_91 : decode b_Md_measure 91 = .ok (.ifCond .lt 38, 3) := by decide +kernel
theorem d_Md_measure_94 : decode b_Md_measure 94 = .ok (.aload_n 0, 1) := by decide +kernel
theorem d_Md_measure_95 : decode b_Md_measure 95 = .ok (.getfield 33, 3) := by decide +kernel
theorem d_Md_measure_98 : decode b_Md_measure 98 = .ok (.iload 5, 2) := by decide +kernel
theorem d_Md_measure_100 : decode b_Md_measure 100 = .ok (.iaload, 1) := by decide +kernel
theorem d_Md_measure_101 : decode b_Md_measure 101 = .ok (.iconst 1, 1) := by decide +kernel
theorem d_Md_measure_102 : decode b_Md_measure 102 = .ok (.iadd, 1) := by decide +kernel
theorem d_Md_measure_103 : decode b_Md_measure 103 = .ok (.aload_n 0, 1) := by decide +kernel
theorem d_Md_measure_104 : decode b_Md_measure 104 = .ok (.getfield 33, 3) := by decide +kernel
theorem d_Md_measure_107 : decode b_Md_measure 107 = .ok (.iload_n 3, 1) := by decide +kernel
theorem d_Md_measure_108 : decode b_Md_measure 108 = .ok (.iaload, 1) := by decide +kernel
theorem d_Md_measure_109 : decode b_Md_measure 109 = .ok (.if_icmp .ge 20, 3) := by decide +kernel
theorem d_Md_measure_112 : decode b_Md_measure 112 = .ok (.aload_n 0, 1) := by decide +kernel
theorem d_Md_measure_113 : decode b_Md_measure 113 = .ok (.getfield 33, 3) := by decide +kernel
theorem d_Md_measure_116 : decode b_Md_measure 116 = .ok (.iload_n 3, 1) := by decide +kernel
theorem d_Md_measure_117 : decode b_Md_measure 117 = .ok (.aload_n 0, 1) := by decide +kernel
theorem d_Md_measure_118 : decode b_Md_measure 118 = .ok (.getfield 33, 3) := by decide +kernel
theorem d_Md_measure_121 : decode b_Md_measure 121 = .ok (.iload 5, 2) := by decide +kernel
theorem d_Md_measure_123 : decode b_Md_measure 123 = .ok (.iaload, 1) := by decide +kernel
theorem d_Md_measure_124 : decode b_Md_measure 124 = .ok (.iconst 1, 1) := by decide +kernel
theorem d_Md_measure_125 : decode b_Md_measure 125 = .ok (.iadd, 1) := by decide +kernel
theorem d_Md_measure_126 : decode b_Md_measure 126 = .ok (.iastore, 1) := by decide +kernel
theorem d_Md_measure_127 : decode b_Md_measure 127 = .ok (.iconst 1, 1) := by decide +kernel
theorem d_Md_measure_128 : decode b_Md_measure 128 = .ok (.istore_n 2, 1) := by decide +kernel
theorem d_Md_measure_129 : decode b_Md_measure 129 = .ok (.iinc 4 1, 3) := by decide +kernel
theorem d_Md_measure_132 : decode b_Md_measure 132 = .ok (.goto (-58), 3) := by decide +kernel
theorem d_Md_measure_135 : decode b_Md_measure 135 = .ok (.iinc 3 1, 3) := by decide +kernel
theorem d_Md_measure_138 : decode b_Md_measure 138 = .ok (.goto (-74), 3) := by decide +kernel
theorem d_Md_measure_141 : decode b_Md_measure 141 = .ok (.goto (-85), 3) := by decide +kernel
theorem d_Md_measure_144 : decode b_Md_measure 144 = .ok (.return_, 1) := by decide +kernel
theorem d_Md_behind_0 : decode b_Md_behind 0 = .ok (.iload_n 0, 1) := by decide +kernel
theorem d_Md_behind_1 : decode b_Md_behind 1 = .ok (.iconst 2, 1) := by decide +kernel
theorem d_Md_behind_2 : decode b_Md_behind 2 = .ok (.idiv, 1) := by decide +kernel
theorem d_Md_behind_3 : decode b_Md_behind 3 = .ok (.istore_n 2, 1) := by decide +kernel
theorem d_Md_behind_4 : decode b_Md_behind 4 = .ok (.iload_n 0, 1) := by decide +kernel
theorem d_Md_behind_5 : decode b_Md_behind 5 = .ok (.iconst 2, 1) := by decide +kernel
theorem d_Md_behind_6 : decode b_Md_behind 6 = .ok (.irem, 1) := by decide +kernel
theorem d_Md_behind_7 : decode b_Md_behind 7 = .ok (.ifCond .ne 13, 3) := by decide +kernel
theorem d_Md_behind_10 : decode b_Md_behind 10 = .ok (.iload_n 1, 1) := by decide +kernel
theorem d_Md_behind_11 : decode b_Md_behind 11 = .ok (.ifCond .ne 7, 3) := by decide +kernel
theorem d_Md_behind_14 : decode b_Md_behind 14 = .ok (.iload_n 2, 1) := by decide +kernel
theorem d_Md_behind_15 : decode b_Md_behind 15 = .ok (.goto 4, 3) := by decide +kernel
theorem d_Md_behind_18 : decode b_Md_behind 18 = .ok (.iconst (-1), 1) := by decide +kernel
theorem d_Md_behind_19 : decode b_Md_behind 19 = .ok (.ireturn, 1) := by decide +kernel
theorem d_Md_behind_20 : decode b_Md_behind 20 = .ok (.iload_n 1, 1) := by decide +kernel
theorem d_Md_behind_21 : decode b_Md_behind 21 = .ok (.ifCond .eq 14, 3) := by decide +kernel
theorem d_Md_behind_24 : decode b_Md_behind 24 = .ok (.iload_n 2, 1) := by decide +kernel
theorem d_Md_behind_25 : decode b_Md_behind 25 = .ok (.iload_n 1, 1) := by decide +kernel
theorem d_Md_behind_26 : decode b_Md_behind 26 = .ok (.iconst 1, 1) := by decide +kernel
theorem d_Md_behind_27 : decode b_Md_behind 27 = .ok (.isub, 1) := by decide +kernel
theorem d_Md_behind_28 : decode b_Md_behind 28 = .ok (.ishr, 1) := by decide +kernel
theorem d_Md_behind_29 : decode b_Md_behind 29 = .ok (.iconst 1, 1) := by decide +kernel
theorem d_Md_behind_30 : decode b_Md_behind 30 = .ok (.iand, 1) := by decide +kernel
theorem d_Md_behind_31 : decode b_Md_behind 31 = .ok (.iconst 1, 1) := by decide +kernel
theorem d_Md_behind_32 : decode b_Md_behind 32 = .ok (.if_icmp .ne 7, 3) := by decide +kernel
theorem d_Md_behind_35 : decode b_Md_behind 35 = .ok (.iconst (-1), 1) := by decide +kernel
theorem d_Md_behind_36 : decode b_Md_behind 36 = .ok (.goto 10, 3) := by decide +kernel
theorem d_Md_behind_39 : decode b_Md_behind 39 = .ok (.iload_n 2, 1) := by decide +kernel
theorem d_Md_behind_40 : decode b_Md_behind 40 = .ok (.iconst 1, 1) := by decide +kernel
theorem d_Md_behind_41 : decode b_Md_behind 41 = .ok (.iload_n 1, 1) := by decide +kernel
theorem d_Md_behind_42 : decode b_Md_behind 42 = .ok (.iconst 1, 1) := by decide +kernel
theorem d_Md_behind_43 : decode b_Md_behind 43 = .ok (.isub, 1) := by decide +kernel
theorem d_Md_behind_44 : decode b_Md_behind 44 = .ok (.ishl, 1) := by decide +kernel
theorem d_Md_behind_45 : decode b_Md_behind 45 = .ok (.ior, 1) := by decide +kernel
theorem d_Md_behind_46 : decode b_Md_behind 46 = .ok (.ireturn, 1) := by decide +kernel
theorem d_Md_joinThrow_0 : decode b_Md_joinThrow 0 = .ok (.aload_n 0, 1) := by decide +kernel
theorem d_Md_joinThrow_1 : decode b_Md_joinThrow 1 = .ok (.iconst 0, 1) := by decide +kernel
theorem d_Md_joinThrow_2 : decode b_Md_joinThrow 2 = .ok (.putfield 58, 3) := by decide +kernel
theorem d_Md_joinThrow_5 : decode b_Md_joinThrow 5 = .ok (.iload_n 1, 1) := by decide +kernel
theorem d_Md_joinThrow_6 : decode b_Md_joinThrow 6 = .ok (.iconst 0, 1) := by decide +kernel
theorem d_Md_joinThrow_7 : decode b_Md_joinThrow 7 = .ok (.aload_n 0, 1) := by decide +kernel
