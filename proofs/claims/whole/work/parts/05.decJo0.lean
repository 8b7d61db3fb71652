theorem d_Jo_init_0 : decode b_Jo_init 0 = .ok (.aload_n 0, 1) := by decide +kernel
theorem d_Jo_init_1 : decode b_Jo_init 1 = .ok (.invokespecial 3, 3) := by decide +kernel
theorem d_Jo_init_4 : decode b_Jo_init 4 = .ok (.aload_n 0, 1) := by decide +kernel
theorem d_Jo_init_5 : decode b_Jo_init 5 = .ok (.sipush 512, 3) := by decide +kernel
theorem d_Jo_init_8 : decode b_Jo_init 8 = .ok (.newarray .int, 2) := by decide +kernel
theorem d_Jo_init_10 : decode b_Jo_init 10 = .ok (.putfield 9, 3) := by decide +kernel
theorem d_Jo_init_13 : decode b_Jo_init 13 = .ok (.aload_n 0, 1) := by decide +kernel
theorem d_Jo_init_14 : decode b_Jo_init 14 = .ok (.sipush 512, 3) := by decide +kernel
theorem d_Jo_init_17 : decode b_Jo_init 17 = .ok (.newarray .int, 2) := by decide +kernel
theorem d_Jo_init_19 : decode b_Jo_init 19 = .ok (.putfield 15, 3) := by decide +kernel
theorem d_Jo_init_22 : decode b_Jo_init 22 = .ok (.aload_n 0, 1) := by decide +kernel
theorem d_Jo_init_23 : decode b_Jo_init 23 = .ok (.sipush 512, 3) := by decide +kernel
theorem d_Jo_init_26 : decode b_Jo_init 26 = .ok (.newarray .int, 2) := by decide +kernel
theorem d_Jo_init_28 : decode b_Jo_init 28 = .ok (.putfield 18, 3) := by decide +kernel
theorem d_Jo_init_31 : decode b_Jo_init 31 = .ok (.return_, 1) := by decide +kernel
theorem d_Jo_connect_0 : decode b_Jo_connect 0 = .ok (.aload_n 0, 1) := by decide +kernel
theorem d_Jo_connect_1 : decode b_Jo_connect 1 = .ok (.aload_n 2, 1) := by decide +kernel
theorem d_Jo_connect_2 : decode b_Jo_connect 2 = .ok (.invokevirtual 21, 3) := by decide +kernel
theorem d_Jo_connect_5 : decode b_Jo_connect 5 = .ok (.aload_n 0, 1) := by decide +kernel
theorem d_Jo_connect_6 : decode b_Jo_connect 6 = .ok (.aload_n 0, 1) := by decide +kernel
theorem d_Jo_connect_7 : decode b_Jo_connect 7 = .ok (.aload_n 1, 1) := by decide +kernel
theorem d_Jo_connect_8 : decode b_Jo_connect 8 = .ok (.invokevirtual 25, 3) := by decide +kernel
theorem d_Jo_connect_11 : decode b_Jo_connect 11 = .ok (.putfield 29, 3) := by decide +kernel
theorem d_Jo_connect_14 : decode b_Jo_connect 14 = .ok (.aload_n 0, 1) := by decide +kernel
theorem d_Jo_connect_15 : decode b_Jo_connect 15 = .ok (.aload_n 2, 1) := by decide +kernel
theorem d_Jo_connect_16 : decode b_Jo_connect 16 = .ok (.aload_n 0, 1) := by decide +kernel
theorem d_Jo_connect_17 : decode b_Jo_connect 17 = .ok (.aload_n 1, 1) := by decide +kernel
theorem d_Jo_connect_18 : decode b_Jo_connect 18 = .ok (.aload_n 0, 1) := by decide +kernel
theorem d_Jo_connect_19 : decode b_Jo_connect 19 = .ok (.getfield 29, 3) := by decide +kernel
theorem d_Jo_connect_22 : decode b_Jo_connect 22 = .ok (.invokevirtual 33, 3) := by decide +kernel
theorem d_Jo_connect_25 : decode b_Jo_connect 25 = .ok (.invokevirtual 39, 3) := by decide +kernel
theorem d_Jo_connect_28 : decode b_Jo_connect 28 = .ok (.invokevirtual 42, 3) := by decide +kernel
theorem d_Jo_connect_31 : decode b_Jo_connect 31 = .ok (.putfield 45, 3) := by decide +kernel
theorem d_Jo_connect_34 : decode b_Jo_connect 34 = .ok (.aload_n 0, 1) := by decide +kernel
theorem d_Jo_connect_35 : decode b_Jo_connect 35 = .ok (.iconst 1, 1) := by decide +kernel
theorem d_Jo_connect_36 : decode b_Jo_connect 36 = .ok (.putfield 48, 3) := by decide +kernel
theorem d_Jo_connect_39 : decode b_Jo_connect 39 = .ok (.return_, 1) := by decide +kernel
theorem d_Jo_measureDistances_0 : decode b_Jo_measureDistances 0 = .ok (.aload_n 0, 1) := by decide +kernel
theorem d_Jo_measureDistances_1 : decode b_Jo_measureDistances 1 = .ok (.getfield 9, 3) := by decide +kernel
theorem d_Jo_measureDistances_4 : decode b_Jo_measureDistances 4 = .ok (.iconst (-1), 1) := by decide +kernel
theorem d_Jo_measureDistances_5 : decode b_Jo_measureDistances 5 = .ok (.invokestatic 52, 3) := by decide +kernel
theorem d_Jo_measureDistances_8 : decode b_Jo_measureDistances 8 = .ok (.aload_n 0, 1) := by decide +kernel
theorem d_Jo_measureDistances_9 : decode b_Jo_measureDistances 9 = .ok (.iconst 0, 1) := by decide +kernel
theorem d_Jo_measureDistances_10 : decode b_Jo_measureDistances 10 = .ok (.putfield 58, 3) := by decide +kernel
theorem d_Jo_measureDistances_13 : decode b_Jo_measureDistances 13 = .ok (.iconst 0, 1) := by decide +kernel
theorem d_Jo_measureDistances_14 : decode b_Jo_measureDistances 14 = .ok (.istore_n 2, 1) := by decide +kernel
theorem d_Jo_measureDistances_15 : decode b_Jo_measureDistances 15 = .ok (.iload_n 2, 1) := by decide +kernel
theorem d_Jo_measureDistances_16 : decode b_Jo_measureDistances 16 = .ok (.aload_n 1, 1) := by decide +kernel
theorem d_Jo_measureDistances_17 : decode b_Jo_measureDistances 17 = .ok (.getfield 61, 3) := by decide +kernel
theorem d_Jo_measureDistances_20 : decode b_Jo_measureDistances 20 = .ok (.if_icmp .ge 19, 3) := by decide +kernel
theorem d_Jo_measureDistances_23 : decode b_Jo_measureDistances 23 = .ok (.aload_n 0, 1) := by decide +kernel
theorem d_Jo_measureDistances_24 : decode b_Jo_measureDistances 24 = .ok (.aload_n 1, 1) := by decide +kernel
theorem d_Jo_measureDistances_25 : decode b_Jo_measureDistances 25 = .ok (.iload_n 2, 1) := by decide +kernel
theorem d_Jo_measureDistances_26 : decode b_Jo_measureDistances 26 = .ok (.invokevirtual 33, 3) := by decide +kernel
theorem d_Jo_measureDistances_29 : decode b_Jo_measureDistances 29 = .ok (.iconst 0, 1) := by decide +kernel
theorem d_Jo_measureDistances_30 : decode b_Jo_measureDistances 30 = .ok (.invokevirtual 64, 3) := by decide +kernel
theorem d_Jo_measureDistances_33 : decode b_Jo_measureDistances 33 = .ok (.iinc 2 1, 3) := by decide +kernel
theorem d_Jo_measureDistances_36 : decode b_Jo_measureDistances 36 = .ok (.goto (-21), 3) := by decide +kernel
theorem d_Jo_measureDistances_39 : decode b_Jo_measureDistances 39 = .ok (.iconst 0, 1) := by decide +kernel
theorem d_Jo_measureDistances_40 : decode b_Jo_measureDistances 40 = .ok (.istore_n 2, 1) := by decide +kernel
theorem d_Jo_measureDistances_41 : decode b_Jo_measureDistances 41 = .ok (.iload_n 2, 1) := by decide +kernel
theorem d_Jo_measureDistances_42 : decode b_Jo_measureDistances 42 = .ok (.sipush 512, 3) := by decide +kernel
theorem d_Jo_measureDistances_45 : decode b_Jo_measureDistances 45 = .ok (.if_icmp .ge 59, 3) := by decide +kernel
theorem d_Jo_measureDistances_48 : decode b_Jo_measureDistances 48 = .ok (.iload_n 2, 1) := by decide +kernel
theorem d_Jo_measureDistances_49 : decode b_Jo_measureDistances 49 = .ok (.aload_n 0, 1) := by decide +kernel
theorem d_Jo_measureDistances_50 : decode b_Jo_measureDistances 50 = .ok (.getfield 58, 3) := by decide +kernel
theorem d_Jo_measureDistances_53 : decode b_Jo_measureDistances 53 = .ok (.if_icmp .lt 4, 3) := by decide +kernel
theorem d_Jo_measureDistances_56 : decode b_Jo_measureDistances 56 = .ok (.return_, 1) := by decide +kernel
theorem d_Jo_measureDistances_57 : decode b_Jo_measureDistances 57 = .ok (.aload_n 0, 1) := by decide +kernel
theorem d_Jo_measureDistances_58 : decode b_Jo_measureDistances 58 = .ok (.getfield 15, 3) := by decide +kernel
theorem d_Jo_measureDistances_61 : decode b_Jo_measureDistances 61 = .ok (.iload_n 2, 1) := by decide +kernel
theorem d_Jo_measureDistances_62 : decode b_Jo_measureDistances 62 = .ok (.iaload, 1) := by decide +kernel
theorem d_Jo_measureDistances_63 : decode b_Jo_measureDistances 63 = .ok (.istore_n 3, 1) := by decide +kernel
theorem d_Jo_measureDistances_64 : decode b_Jo_measureDistances 64 = .ok (.iconst 0, 1) := by decide +kernel
theorem d_Jo_measureDistances_65 : decode b_Jo_measureDistances 65 = .ok (.istore 4, 2) := by decide +kernel
theorem d_Jo_measureDistances_67 : decode b_Jo_measureDistances 67 = .ok (.iload 4, 2) := by decide +kernel
theorem d_Jo_measureDistances_69 : decode b_Jo_measureDistances 69 = .ok (.bipush 9, 2) := by decide +kernel
theorem d_Jo_measureDistances_71 : decode b_Jo_measureDistances 71 = .ok (.if_icmp .gt 27, 3) := by decide +kernel
theorem d_Jo_measureDistances_74 : decode b_Jo_measureDistances 74 = .ok (.aload_n 0, 1) := by decide +kernel
theorem d_Jo_measureDistances_75 : decode b_Jo_measureDistances 75 = .ok (.iload_n 3, 1) := by decide +kernel
theorem d_Jo_measureDistances_76 : decode b_Jo_measureDistances 76 = .ok (.iload 4, 2) := by decide +kernel
theorem d_Jo_measureDistances_78 : decode b_Jo_measureDistances 78 = .ok (.invokestatic 68, 3) := by decide +kernel
theorem d_Jo_measureDistances_81 : decode b_Jo_measureDistances 81 = .ok (.aload_n 0, 1) := by decide +kernel
theorem d_Jo_measureDistances_82 : decode b_Jo_measureDistances 82 = .ok (.getfield 9, 3) := by decide +kernel
theorem d_Jo_measureDistances_85 : decode b_Jo_measureDistances 85 = .ok (.iload_n 3, 1) := by decide +kernel
theorem d_Jo_measureDistances_86 : decode b_Jo_measureDistances 86 = .ok (.iaload, 1) := by decide +kernel
theorem d_Jo_measureDistances_87 : decode b_Jo_measureDistances 87 = .ok (.iconst 1, 1) := by decide +kernel
theorem d_Jo_measureDistances_88 : decode b_Jo_measureDistances 88 = .ok (.iadd, 1) := by decide +kernel
theorem d_Jo_measureDistances_89 : decode b_Jo_measureDistances 89 = .ok (.invokevirtual 64, 3) := by decide +kernel
theorem d_Jo_measureDistances_92 : decode b_Jo_measureDistances 92 = .ok (.iinc 4 1, 3) := by decide +kernel
theorem d_Jo_measureDistances_95 : decode b_Jo_measureDistances 95 = .ok (.goto (-28), 3) := by decide +kernel
theorem d_Jo_measureDistances_98 : decode b_Jo_measureDistances 98 = .ok (.iinc 2 1, 3) := by decide +kernel
theorem d_Jo_measureDistances_101 : decode b_Jo_measureDistances 101 = .ok (.goto (-60), 3) := by decide +kernel
theorem d_Jo_measureDistances_104 : decode b_Jo_measureDistances 104 = .ok (.return_, 1) := by decide +kernel
theorem d_Jo_reach_0 : decode b_Jo_reach 0 = .ok (.iload_n 1, 1) := by decide +kernel
theorem d_Jo_reach_1 : decode b_Jo_reach 1 = .ok (.iconst (-1), 1) := by decide +kernel
theorem d_Jo_reach_2 : decode b_Jo_reach 2 = .ok (.if_icmp .eq 40, 3) := by decide +kernel
theorem d_Jo_reach_5 : decode b_Jo_reach 5 = .ok (.aload_n 0, 1) := by decide +kernel
theorem d_Jo_reach_6 : decode b_Jo_reach 6 = .ok (.getfield 9, 3) := by decide +kernel
theorem d_Jo_reach_9 : decode b_Jo_reach 9 = .ok (.iload_n 1, 1) := by decide +kernel
theorem d_Jo_reach_10 : decode b_Jo_reach 10 = .ok (.iaload, 1) := by decide +kernel
theorem d_Jo_reach_11 : decode b_Jo_reach 11 = .ok (.iconst (-1), 1) := by decide +kernel
theorem d_Jo_reach_12 : decode b_Jo_reach 12 = .ok (.if_icmp .ne 30, 3) := by decide +kernel
theorem d_Jo_reach_15 : decode b_Jo_reach 15 = .ok (.aload_n 0, 1) := by decide +kernel
theorem d_Jo_reach_16 : decode b_Jo_reach 16 = .ok (.getfield 9, 3) := by decide +kernel
theorem d_Jo_reach_19 : decode b_Jo_reach 19 = .ok (.iload_n 1, 1) := by decide +kernel
theorem d_Jo_reach_20 : decode b_Jo_reach 20 = .ok (.iload_n 2, 1) := by decide +kernel
theorem d_Jo_reach_21 : decode b_Jo_reach 21 = .ok (.iastore, 1) := by decide +kernel
theorem d_Jo_reach_22 : decode b_Jo_reach 22 = .ok (.aload_n 0, 1) := by decide +kernel
theorem d_Jo_reach_23 : decode b_Jo_reach 23 = .ok (.getfield 15, 3) := by decide +kernel
theorem d_Jo_reach_26 : decode b_Jo_reach 26 = .ok (.aload_n 0, 1) := by decide +kernel
theorem d_Jo_reach_27 : decode b_Jo_reach 27 = .ok (.getfield 58, 3) := by decide +kernel
theorem d_Jo_reach_30 : decode b_Jo_reach 30 = .ok (.iload_n 1, 1) := by decide +kernel
theorem d_Jo_reach_31 : decode b_Jo_reach 31 = .ok (.iastore, 1) := by decide +kernel
theorem d_Jo_reach_32 : decode b_Jo_reach 32 = .ok (.aload_n 0, 1) := by decide +kernel
theorem d_Jo_reach_33 : decode b_Jo_reach 33 = .ok (.dup, 1) := by decide +kernel
theorem d_Jo_reach_34 : decode b_Jo_reach 34 = .ok (.getfield 58, 3) := by decide +kernel
theorem d_Jo_reach_37 : decode b_Jo_reach 37 = .ok (.iconst 1, 1) := by decide +kernel
theorem d_Jo_reach_38 : decode b_Jo_reach 38 = .ok (.iadd, 1) := by decide +kernel
theorem d_Jo_reach_39 : decode b_Jo_reach 39 = .ok (.putfield 58, 3) := by decide +kernel
theorem d_Jo_reach_42 : decode b_Jo_reach 42 = .ok (.return_, 1) := by decide +kernel
theorem d_Jo_nearestSite_0 : decode b_Jo_nearestSite 0 = .ok (.iconst 0, 1) := by decide +kernel
theorem d_Jo_nearestSite_1 : decode b_Jo_nearestSite 1 = .ok (.istore_n 2, 1) := by decide +kernel
theorem d_Jo_nearestSite_2 : decode b_Jo_nearestSite 2 = .ok (.iconst 1, 1) := by decide +kernel
theorem d_Jo_nearestSite_3 : decode b_Jo_nearestSite 3 = .ok (.istore_n 3, 1) := by decide +kernel
theorem d_Jo_nearestSite_4 : decode b_Jo_nearestSite 4 = .ok (.iload_n 3, 1) := by decide +kernel
theorem d_Jo_nearestSite_5 : decode b_Jo_nearestSite 5 = .ok (.aload_n 1, 1) := by decide +kernel
theorem d_Jo_nearestSite_6 : decode b_Jo_nearestSite 6 = .ok (.getfield 61, 3) := by decide +kernel
theorem d_Jo_nearestSite_9 : decode b_Jo_nearestSite 9 = .ok (.if_icmp .ge 26, 3) := by decide +kernel
theorem d_Jo_nearestSite_12 : decode b_Jo_nearestSite 12 = .ok (.aload_n 0, 1) := by decide +kernel
theorem d_Jo_nearestSite_13 : decode b_Jo_nearestSite 13 = .ok (.aload_n 1, 1) := by decide +kernel
theorem d_Jo_nearestSite_14 : decode b_Jo_nearestSite 14 = .ok (.iload_n 3, 1) := by decide +kernel
theorem d_Jo_nearestSite_15 : decode b_Jo_nearestSite 15 = .ok (.invokevirtual 72, 3) := by decide +kernel
theorem d_Jo_nearestSite_18 : decode b_Jo_nearestSite 18 = .ok (.aload_n 0, 1) := by decide +kernel
theorem d_Jo_nearestSite_19 : decode b_Jo_nearestSite 19 = .ok (.aload_n 1, 1) := by decide +kernel
theorem d_Jo_nearestSite_20 : decode b_Jo_nearestSite 20 = .ok (.iload_n 2, 1) := by decide +kernel
theorem d_Jo_nearestSite_21 : decode b_Jo_nearestSite 21 = .ok (.invokevirtual 72, 3) := by decide +kernel
theorem d_Jo_nearestSite_24 : decode b_Jo_nearestSite 24 = .ok (.if_icmp .ge 5, 3) := by decide +kernel
theorem d_Jo_nearestSite_27 : decode b_Jo_nearestSite 27 = .ok (.iload_n 3, 1) := by decide +kernel
theorem d_Jo_nearestSite_28 : decode b_Jo_nearestSite 28 = .ok (.istore_n 2, 1) := by decide +kernel
theorem d_Jo_nearestSite_29 : decode b_Jo_nearestSite 29 = .ok (.iinc 3 1, 3) := by decide +kernel
theorem d_Jo_nearestSite_32 : decode b_Jo_nearestSite 32 = .ok (.goto (-28), 3) := by decide +kernel
theorem d_Jo_nearestSite_35 : decode b_Jo_nearestSite 35 = .ok (.iload_n 2, 1) := by decide +kernel
theorem d_Jo_nearestSite_36 : decode b_Jo_nearestSite 36 = .ok (.ireturn, 1) := by decide +kernel
theorem d_Jo_distanceOf_0 : decode b_Jo_distanceOf 0 = .ok (.aload_n 0, 1) := by decide +kernel
theorem d_Jo_distanceOf_1 : decode b_Jo_distanceOf 1 = .ok (.getfield 9, 3) := by decide +kernel
theorem d_Jo_distanceOf_4 : decode b_Jo_distanceOf 4 = .ok (.aload_n 1, 1) := by decide +kernel
theorem d_Jo_distanceOf_5 : decode b_Jo_distanceOf 5 = .ok (.iload_n 2, 1) := by decide +kernel
theorem d_Jo_distanceOf_6 : decode b_Jo_distanceOf 6 = .ok (.invokevirtual 33, 3) := by decide +kernel
theorem d_Jo_distanceOf_9 : decode b_Jo_distanceOf 9 = .ok (.iaload, 1) := by decide +kernel
theorem d_Jo_distanceOf_10 : decode b_Jo_distanceOf 10 = .ok (.ireturn, 1) := by decide +kernel
theorem d_Jo_walk_0 : decode b_Jo_walk 0 = .ok (.iload_n 1, 1) := by decide +kernel
theorem d_Jo_walk_1 : decode b_Jo_walk 1 = .ok (.istore_n 2, 1) := by decide +kernel
theorem d_Jo_walk_2 : decode b_Jo_walk 2 = .ok (.aload_n 0, 1) := by decide +kernel
theorem d_Jo_walk_3 : decode b_Jo_walk 3 = .ok (.iconst 0, 1) := by decide +kernel
theorem d_Jo_walk_4 : decode b_Jo_walk 4 = .ok (.putfield 76, 3) := by decide +kernel
theorem d_Jo_walk_7 : decode b_Jo_walk 7 = .ok (.aload_n 0, 1) := by decide +kernel
theorem d_Jo_walk_8 : decode b_Jo_walk 8 = .ok (.getfield 9, 3) := by decide +kernel
theorem d_Jo_walk_11 : decode b_Jo_walk 11 = .ok (.iload_n 1, 1) := by decide +kernel
theorem d_Jo_walk_12 : decode b_Jo_walk 12 = .ok (.iaload, 1) := by decide +kernel
theorem d_Jo_walk_13 : decode b_Jo_walk 13 = .ok (.istore_n 3, 1) := by decide +kernel
theorem d_Jo_walk_14 : decode b_Jo_walk 14 = .ok (.iload_n 3, 1) := by decide +kernel
theorem d_Jo_walk_15 : decode b_Jo_walk 15 = .ok (.ifCond .le 55, 3) := by decide +kernel
theorem d_Jo_walk_18 : decode b_Jo_walk 18 = .ok (.aload_n 0, 1) := by decide +kernel
theorem d_Jo_walk_19 : decode b_Jo_walk 19 = .ok (.iload_n 2, 1) := by decide +kernel
theorem d_Jo_walk_20 : decode b_Jo_walk 20 = .ok (.iload_n 3, 1) := by decide +kernel
theorem d_Jo_walk_21 : decode b_Jo_walk 21 = .ok (.iconst 1, 1) := by decide +kernel
theorem d_Jo_walk_22 : decode b_Jo_walk 22 = .ok (.isub, 1) := by decide +kernel
theorem d_Jo_walk_23 : decode b_Jo_walk 23 = .ok (.invokevirtual 79, 3) := by decide +kernel
theorem d_Jo_walk_26 : decode b_Jo_walk 26 = .ok (.istore 4, 2) := by decide +kernel
theorem d_Jo_walk_28 : decode b_Jo_walk 28 = .ok (.iload 4, 2) := by decide +kernel
theorem d_Jo_walk_30 : decode b_Jo_walk 30 = .ok (.iconst (-1), 1) := by decide +kernel
theorem d_Jo_walk_31 : decode b_Jo_walk 31 = .ok (.if_icmp .ne 5, 3) := by decide +kernel
theorem d_Jo_walk_34 : decode b_Jo_walk 34 = .ok (.iload_n 2, 1) := by decide +kernel
theorem d_Jo_walk_35 : decode b_Jo_walk 35 = .ok (.ireturn, 1) := by decide +kernel
theorem d_Jo_walk_36 : decode b_Jo_walk 36 = .ok (.aload_n 0, 1) := by decide +kernel
theorem d_Jo_walk_37 : decode b_Jo_walk 37 = .ok (.getfield 18, 3) := by decide +kernel
theorem d_Jo_walk_40 : decode b_Jo_walk 40 = .ok (.aload_n 0, 1) := by decide +kernel
theorem d_Jo_walk_41 : decode b_Jo_walk 41 = .ok (.getfield 76, 3) := by decide +kernel
theorem d_Jo_walk_44 : decode b_Jo_walk 44 = .ok (.iload 4, 2) := by decide +kernel
theorem d_Jo_walk_46 : decode b_Jo_walk 46 = .ok (.iastore, 1) := by decide +kernel
theorem d_Jo_walk_47 : decode b_Jo_walk 47 = .ok (.aload_n 0, 1) := by decide +kernel
theorem d_Jo_walk_48 : decode b_Jo_walk 48 = .ok (.dup, 1) := by decide +kernel
theorem d_Jo_walk_49 : decode b_Jo_walk 49 = .ok (.getfield 76, 3) := by decide +kernel
theorem d_Jo_walk_52 : decode b_Jo_walk 52 = .ok (.iconst 1, 1) := by decide +kernel
theorem d_Jo_walk_53 : decode b_Jo_walk 53 = .ok (.iadd, 1) := by decide +kernel
theorem d_Jo_walk_54 : decode b_Jo_walk 54 = .ok (.putfield 76, 3) := by decide +kernel
theorem d_Jo_walk_57 : decode b_Jo_walk 57 = .ok (.iload_n 2, 1) := by decide +kernel
theorem d_Jo_walk_58 : decode b_Jo_walk 58 = .ok (.iload 4, 2) := by decide +kernel
theorem d_Jo_walk_60 : decode b_Jo_walk 60 = .ok (.invokestatic 82, 3) := by decide +kernel
theorem d_Jo_walk_63 : decode b_Jo_walk 63 = .ok (.istore_n 2, 1) := by decide +kernel
theorem d_Jo_walk_64 : decode b_Jo_walk 64 = .ok (.iinc 3 (-1), 3) := by decide +kernel
theorem d_Jo_walk_67 : decode b_Jo_walk 67 = .ok (.goto (-53), 3) := by decide +kernel
theorem d_Jo_walk_70 : decode b_Jo_walk 70 = .ok (.iload_n 2, 1) := by decide +kernel
theorem d_Jo_walk_71 : decode b_Jo_walk 71 = .ok (.ireturn, 1) := by decide +kernel
theorem d_Jo_leastThrow_0 : decode b_Jo_leastThrow 0 = .ok (.iconst 0, 1) := by decide +kernel
theorem d_Jo_leastThrow_1 : decode b_Jo_leastThrow 1 = .ok (.istore_n 3, 1) := by decide +kernel
theorem d_Jo_leastThrow_2 : decode b_Jo_leastThrow 2 = .ok (.iload_n 3, 1) := by decide +kernel
theorem d_Jo_leastThrow_3 : decode b_Jo_leastThrow 3 = .ok (.bipush 9, 2) := by decide +kernel
theorem d_Jo_leastThrow_5 : decode b_Jo_leastThrow 5 = .ok (.if_icmp .gt 35, 3) := by decide +kernel
theorem d_Jo_leastThrow_8 : decode b_Jo_leastThrow 8 = .ok (.iload_n 1, 1) := by decide +kernel
theorem d_Jo_leastThrow_9 : decode b_Jo_leastThrow 9 = .ok (.iload_n 3, 1) := by decide +kernel
theorem d_Jo_leastThrow_10 : decode b_Jo_leastThrow 10 = .ok (.invokestatic 82, 3) := by decide +kernel
theorem d_Jo_leastThrow_13 : decode b_Jo_leastThrow 13 = .ok (.istore 4, 2) := by decide +kernel
theorem d_Jo_leastThrow_15 : decode b_Jo_leastThrow 15 = .ok (.iload 4, 2) := by decide +kernel
theorem d_Jo_leastThrow_17 : decode b_Jo_leastThrow 17 = .ok (.iconst (-1), 1) := by decide +kernel
theorem d_Jo_leastThrow_18 : decode b_Jo_leastThrow 18 = .ok (.if_icmp .eq 16, 3) := by decide +kernel
theorem d_Jo_leastThrow_21 : decode b_Jo_leastThrow 21 = .ok (.aload_n 0, 1) := by decide +kernel
theorem d_Jo_leastThrow_22 : decode b_Jo_leastThrow 22 = .ok (.getfield 9, 3) := by decide +kernel
theorem d_Jo_leastThrow_25 : decode b_Jo_leastThrow 25 = .ok (.iload 4, 2) := by decide +kernel
theorem d_Jo_leastThrow_27 : decode b_Jo_leastThrow 27 = .ok (.iaload, 1) := by decide +kernel
theorem d_Jo_leastThrow_28 : decode b_Jo_leastThrow 28 = .ok (.iload_n 2, 1) := by decide +kernel
theorem d_Jo_leastThrow_29 : decode b_Jo_leastThrow 29 = .ok (.if_icmp .ne 5, 3) := by decide +kernel
theorem d_Jo_leastThrow_32 : decode b_Jo_leastThrow 32 = .ok (.iload_n 3, 1) := by decide +kernel
theorem d_Jo_leastThrow_33 : decode b_Jo_leastThrow 33 = .ok (.ireturn, 1) := by decide +kernel
theorem d_Jo_leastThrow_34 : decode b_Jo_leastThrow 34 = .ok (.iinc 3 1, 3) := by decide +kernel
theorem d_Jo_leastThrow_37 : decode b_Jo_leastThrow 37 = .ok (.goto (-35), 3) := by decide +kernel
theorem d_Jo_leastThrow_40 : decode b_Jo_leastThrow 40 = .ok (.iconst (-1), 1) := by decide +kernel
theorem d_Jo_leastThrow_41 : decode b_Jo_leastThrow 41 = .ok (.ireturn, 1) := by decide +kernel
theorem d_Jo_throwAt_0 : decode b_Jo_throwAt 0 = .ok (.aload_n 0, 1) := by decide +kernel
theorem d_Jo_throwAt_1 : decode b_Jo_throwAt 1 = .ok (.getfield 18, 3) := by decide +kernel
theorem d_Jo_throwAt_4 : decode b_Jo_throwAt 4 = .ok (.iload_n 1, 1) := by decide +kernel
theorem d_Jo_throwAt_5 : decode b_Jo_throwAt 5 = .ok (.iaload, 1) := by decide +kernel
theorem d_Jo_throwAt_6 : decode b_Jo_throwAt 6 = .ok (.ireturn, 1) := by decide +kernel
