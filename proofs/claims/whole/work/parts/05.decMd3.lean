theorem d_Md_fly_40 : decode b_Md_fly 40 = .ok (.invokevirtual 73, 3) := by decide +kernel
theorem d_Md_fly_43 : decode b_Md_fly 43 = .ok (.istore 4, 2) := by decide +kernel
theorem d_Md_fly_45 : decode b_Md_fly 45 = .ok (.aload_n 0, 1) := by decide +kernel
theorem d_Md_fly_46 : decode b_Md_fly 46 = .ok (.getfield 36, 3) := by decide +kernel
theorem d_Md_fly_49 : decode b_Md_fly 49 = .ok (.iload_n 1, 1) := by decide +kernel
theorem d_Md_fly_50 : decode b_Md_fly 50 = .ok (.aload_n 0, 1) := by decide +kernel
theorem d_Md_fly_51 : decode b_Md_fly 51 = .ok (.getfield 129, 3) := by decide +kernel
theorem d_Md_fly_54 : decode b_Md_fly 54 = .ok (.iload 4, 2) := by decide +kernel
theorem d_Md_fly_56 : decode b_Md_fly 56 = .ok (.iadd, 1) := by decide +kernel
theorem d_Md_fly_57 : decode b_Md_fly 57 = .ok (.iastore, 1) := by decide +kernel
theorem d_Md_fly_58 : decode b_Md_fly 58 = .ok (.aload_n 0, 1) := by decide +kernel
theorem d_Md_fly_59 : decode b_Md_fly 59 = .ok (.getfield 39, 3) := by decide +kernel
theorem d_Md_fly_62 : decode b_Md_fly 62 = .ok (.iload_n 1, 1) := by decide +kernel
theorem d_Md_fly_63 : decode b_Md_fly 63 = .ok (.aload_n 0, 1) := by decide +kernel
theorem d_Md_fly_64 : decode b_Md_fly 64 = .ok (.getfield 7, 3) := by decide +kernel
theorem d_Md_fly_67 : decode b_Md_fly 67 = .ok (.bipush 7, 2) := by decide +kernel
theorem d_Md_fly_69 : decode b_Md_fly 69 = .ok (.iaload, 1) := by decide +kernel
theorem d_Md_fly_70 : decode b_Md_fly 70 = .ok (.iconst 2, 1) := by decide +kernel
theorem d_Md_fly_71 : decode b_Md_fly 71 = .ok (.if_icmp .ne 16, 3) := by decide +kernel
theorem d_Md_fly_74 : decode b_Md_fly 74 = .ok (.aload_n 0, 1) := by decide +kernel
theorem d_Md_fly_75 : decode b_Md_fly 75 = .ok (.bipush 7, 2) := by decide +kernel
theorem d_Md_fly_77 : decode b_Md_fly 77 = .ok (.iload_n 2, 1) := by decide +kernel
theorem d_Md_fly_78 : decode b_Md_fly 78 = .ok (.iload_n 3, 1) := by decide +kernel
theorem d_Md_fly_79 : decode b_Md_fly 79 = .ok (.invokevirtual 77, 3) := by decide +kernel
theorem d_Md_fly_82 : decode b_Md_fly 82 = .ok (.iconst 2, 1) := by decide +kernel
theorem d_Md_fly_83 : decode b_Md_fly 83 = .ok (.irem, 1) := by decide +kernel
theorem d_Md_fly_84 : decode b_Md_fly 84 = .ok (.goto 12, 3) := by decide +kernel
theorem d_Md_fly_87 : decode b_Md_fly 87 = .ok (.aload_n 0, 1) := by decide +kernel
theorem d_Md_fly_88 : decode b_Md_fly 88 = .ok (.getfield 129, 3) := by decide +kernel
theorem d_Md_fly_91 : decode b_Md_fly 91 = .ok (.iload 4, 2) := by decide +kernel
theorem d_Md_fly_93 : decode b_Md_fly 93 = .ok (.iadd, 1) := by decide +kernel
theorem d_Md_fly_94 : decode b_Md_fly 94 = .ok (.iconst 2, 1) := by decide +kernel
theorem d_Md_fly_95 : decode b_Md_fly 95 = .ok (.irem, 1) := by decide +kernel
theorem d_Md_fly_96 : decode b_Md_fly 96 = .ok (.iastore, 1) := by decide +kernel
theorem d_Md_fly_97 : decode b_Md_fly 97 = .ok (.return_, 1) := by decide +kernel
theorem d_Md_handOf_0 : decode b_Md_handOf 0 = .ok (.aload_n 0, 1) := by decide +kernel
theorem d_Md_handOf_1 : decode b_Md_handOf 1 = .ok (.getfield 7, 3) := by decide +kernel
theorem d_Md_handOf_4 : decode b_Md_handOf 4 = .ok (.bipush 7, 2) := by decide +kernel
theorem d_Md_handOf_6 : decode b_Md_handOf 6 = .ok (.iaload, 1) := by decide +kernel
theorem d_Md_handOf_7 : decode b_Md_handOf 7 = .ok (.iconst 2, 1) := by decide +kernel
theorem d_Md_handOf_8 : decode b_Md_handOf 8 = .ok (.if_icmp .ne 9, 3) := by decide +kernel
theorem d_Md_handOf_11 : decode b_Md_handOf 11 = .ok (.iload_n 1, 1) := by decide +kernel
theorem d_Md_handOf_12 : decode b_Md_handOf 12 = .ok (.iconst 2, 1) := by decide +kernel
theorem d_Md_handOf_13 : decode b_Md_handOf 13 = .ok (.irem, 1) := by decide +kernel
theorem d_Md_handOf_14 : decode b_Md_handOf 14 = .ok (.goto 6, 3) := by decide +kernel
theorem d_Md_handOf_17 : decode b_Md_handOf 17 = .ok (.iload_n 2, 1) := by decide +kernel
theorem d_Md_handOf_18 : decode b_Md_handOf 18 = .ok (.iconst 2, 1) := by decide +kernel
theorem d_Md_handOf_19 : decode b_Md_handOf 19 = .ok (.irem, 1) := by decide +kernel
theorem d_Md_handOf_20 : decode b_Md_handOf 20 = .ok (.ireturn, 1) := by decide +kernel
theorem d_Md_ball_0 : decode b_Md_ball 0 = .ok (.aload_n 0, 1) := by decide +kernel
theorem d_Md_ball_1 : decode b_Md_ball 1 = .ok (.iconst 0, 1) := by decide +kernel
theorem d_Md_ball_2 : decode b_Md_ball 2 = .ok (.putfield 58, 3) := by decide +kernel
theorem d_Md_ball_5 : decode b_Md_ball 5 = .ok (.iload_n 1, 1) := by decide +kernel
theorem d_Md_ball_6 : decode b_Md_ball 6 = .ok (.iconst 0, 1) := by decide +kernel
theorem d_Md_ball_7 : decode b_Md_ball 7 = .ok (.aload_n 0, 1) := by decide +kernel
theorem d_Md_ball_8 : decode b_Md_ball 8 = .ok (.getfield 126, 3) := by decide +kernel
theorem d_Md_ball_11 : decode b_Md_ball 11 = .ok (.iconst 1, 1) := by decide +kernel
theorem d_Md_ball_12 : decode b_Md_ball 12 = .ok (.isub, 1) := by decide +kernel
theorem d_Md_ball_13 : decode b_Md_ball 13 = .ok (.invokestatic 61, 3) := by decide +kernel
theorem d_Md_ball_16 : decode b_Md_ball 16 = .ok (.ifCond .eq 17, 3) := by decide +kernel
theorem d_Md_ball_19 : decode b_Md_ball 19 = .ok (.aload_n 0, 1) := by decide +kernel
theorem d_Md_ball_20 : decode b_Md_ball 20 = .ok (.getfield 36, 3) := by decide +kernel
theorem d_Md_ball_23 : decode b_Md_ball 23 = .ok (.iload_n 1, 1) := by decide +kernel
theorem d_Md_ball_24 : decode b_Md_ball 24 = .ok (.iaload, 1) := by decide +kernel
theorem d_Md_ball_25 : decode b_Md_ball 25 = .ok (.aload_n 0, 1) := by decide +kernel
theorem d_Md_ball_26 : decode b_Md_ball 26 = .ok (.getfield 129, 3) := by decide +kernel
theorem d_Md_ball_29 : decode b_Md_ball 29 = .ok (.isub, 1) := by decide +kernel
theorem d_Md_ball_30 : decode b_Md_ball 30 = .ok (.goto 8, 3) := by decide +kernel
theorem d_Md_ball_33 : decode b_Md_ball 33 = .ok (.aload_n 0, 1) := by decide +kernel
theorem d_Md_ball_34 : decode b_Md_ball 34 = .ok (.iconst 1, 1) := by decide +kernel
theorem d_Md_ball_35 : decode b_Md_ball 35 = .ok (.invokevirtual 65, 3) := by decide +kernel
theorem d_Md_ball_38 : decode b_Md_ball 38 = .ok (.ireturn, 1) := by decide +kernel
theorem d_Md_hand_0 : decode b_Md_hand 0 = .ok (.aload_n 0, 1) := by decide +kernel
theorem d_Md_hand_1 : decode b_Md_hand 1 = .ok (.iconst 0, 1) := by decide +kernel
theorem d_Md_hand_2 : decode b_Md_hand 2 = .ok (.putfield 58, 3) := by decide +kernel
theorem d_Md_hand_5 : decode b_Md_hand 5 = .ok (.iload_n 1, 1) := by decide +kernel
theorem d_Md_hand_6 : decode b_Md_hand 6 = .ok (.iconst 0, 1) := by decide +kernel
theorem d_Md_hand_7 : decode b_Md_hand 7 = .ok (.aload_n 0, 1) := by decide +kernel
theorem d_Md_hand_8 : decode b_Md_hand 8 = .ok (.getfield 126, 3) := by decide +kernel
theorem d_Md_hand_11 : decode b_Md_hand 11 = .ok (.iconst 1, 1) := by decide +kernel
theorem d_Md_hand_12 : decode b_Md_hand 12 = .ok (.isub, 1) := by decide +kernel
theorem d_Md_hand_13 : decode b_Md_hand 13 = .ok (.invokestatic 61, 3) := by decide +kernel
theorem d_Md_hand_16 : decode b_Md_hand 16 = .ok (.ifCond .eq 12, 3) := by decide +kernel
theorem d_Md_hand_19 : decode b_Md_hand 19 = .ok (.aload_n 0, 1) := by decide +kernel
theorem d_Md_hand_20 : decode b_Md_hand 20 = .ok (.getfield 39, 3) := by decide +kernel
theorem d_Md_hand_23 : decode b_Md_hand 23 = .ok (.iload_n 1, 1) := by decide +kernel
theorem d_Md_hand_24 : decode b_Md_hand 24 = .ok (.iaload, 1) := by decide +kernel
theorem d_Md_hand_25 : decode b_Md_hand 25 = .ok (.goto 8, 3) := by decide +kernel
theorem d_Md_hand_28 : decode b_Md_hand 28 = .ok (.aload_n 0, 1) := by decide +kernel
theorem d_Md_hand_29 : decode b_Md_hand 29 = .ok (.iconst 1, 1) := by decide +kernel
theorem d_Md_hand_30 : decode b_Md_hand 30 = .ok (.invokevirtual 65, 3) := by decide +kernel
theorem d_Md_hand_33 : decode b_Md_hand 33 = .ok (.ireturn, 1) := by decide +kernel
theorem d_Md_highest_0 : decode b_Md_highest 0 = .ok (.aload_n 0, 1) := by decide +kernel
theorem d_Md_highest_1 : decode b_Md_highest 1 = .ok (.iconst 0, 1) := by decide +kernel
theorem d_Md_highest_2 : decode b_Md_highest 2 = .ok (.putfield 58, 3) := by decide +kernel
theorem d_Md_highest_5 : decode b_Md_highest 5 = .ok (.iconst (-1), 1) := by decide +kernel
theorem d_Md_highest_6 : decode b_Md_highest 6 = .ok (.istore_n 1, 1) := by decide +kernel
theorem d_Md_highest_7 : decode b_Md_highest 7 = .ok (.iconst 0, 1) := by decide +kernel
theorem d_Md_highest_8 : decode b_Md_highest 8 = .ok (.istore_n 2, 1) := by decide +kernel
theorem d_Md_highest_9 : decode b_Md_highest 9 = .ok (.iload_n 2, 1) := by decide +kernel
theorem d_Md_highest_10 : decode b_Md_highest 10 = .ok (.aload_n 0, 1) := by decide +kernel
theorem d_Md_highest_11 : decode b_Md_highest 11 = .ok (.getfield 126, 3) := by decide +kernel
theorem d_Md_highest_14 : decode b_Md_highest 14 = .ok (.if_icmp .ge 34, 3) := by decide +kernel
theorem d_Md_highest_17 : decode b_Md_highest 17 = .ok (.iload_n 1, 1) := by decide +kernel
theorem d_Md_highest_18 : decode b_Md_highest 18 = .ok (.ifCond .lt 18, 3) := by decide +kernel
theorem d_Md_highest_21 : decode b_Md_highest 21 = .ok (.aload_n 0, 1) := by decide +kernel
theorem d_Md_highest_22 : decode b_Md_highest 22 = .ok (.getfield 36, 3) := by decide +kernel
theorem d_Md_highest_25 : decode b_Md_highest 25 = .ok (.iload_n 2, 1) := by decide +kernel
theorem d_Md_highest_26 : decode b_Md_highest 26 = .ok (.iaload, 1) := by decide +kernel
theorem d_Md_highest_27 : decode b_Md_highest 27 = .ok (.aload_n 0, 1) := by decide +kernel
theorem d_Md_highest_28 : decode b_Md_highest 28 = .ok (.getfield 36, 3) := by decide +kernel
theorem d_Md_highest_31 : decode b_Md_highest 31 = .ok (.iload_n 1, 1) := by decide +kernel
theorem d_Md_highest_32 : decode b_Md_highest 32 = .ok (.iaload, 1) := by decide +kernel
theorem d_Md_highest_33 : decode b_Md_highest 33 = .ok (.if_icmp .le 7, 3) := by decide +kernel
theorem d_Md_highest_36 : decode b_Md_highest 36 = .ok (.iload_n 2, 1) := by decide +kernel
theorem d_Md_highest_37 : decode b_Md_highest 37 = .ok (.goto 4, 3) := by decide +kernel
theorem d_Md_highest_40 : decode b_Md_highest 40 = .ok (.iload_n 1, 1) := by decide +kernel
theorem d_Md_highest_41 : decode b_Md_highest 41 = .ok (.istore_n 1, 1) := by decide +kernel
theorem d_Md_highest_42 : decode b_Md_highest 42 = .ok (.iinc 2 1, 3) := by decide +kernel
theorem d_Md_highest_45 : decode b_Md_highest 45 = .ok (.goto (-36), 3) := by decide +kernel
theorem d_Md_highest_48 : decode b_Md_highest 48 = .ok (.iload_n 1, 1) := by decide +kernel
theorem d_Md_highest_49 : decode b_Md_highest 49 = .ok (.ireturn, 1) := by decide +kernel
theorem d_Md_floor_0 : decode b_Md_floor 0 = .ok (.aload_n 0, 1) := by decide +kernel
theorem d_Md_floor_1 : decode b_Md_floor 1 = .ok (.iconst 0, 1) := by decide +kernel
theorem d_Md_floor_2 : decode b_Md_floor 2 = .ok (.putfield 58, 3) := by decide +kernel
theorem d_Md_floor_5 : decode b_Md_floor 5 = .ok (.iload_n 1, 1) := by decide +kernel
theorem d_Md_floor_6 : decode b_Md_floor 6 = .ok (.iconst 0, 1) := by decide +kernel
theorem d_Md_floor_7 : decode b_Md_floor 7 = .ok (.iconst 4, 1) := by decide +kernel
theorem d_Md_floor_8 : decode b_Md_floor 8 = .ok (.invokestatic 61, 3) := by decide +kernel
theorem d_Md_floor_11 : decode b_Md_floor 11 = .ok (.ifCond .ne 9, 3) := by decide +kernel
theorem d_Md_floor_14 : decode b_Md_floor 14 = .ok (.aload_n 0, 1) := by decide +kernel
theorem d_Md_floor_15 : decode b_Md_floor 15 = .ok (.iconst 1, 1) := by decide +kernel
theorem d_Md_floor_16 : decode b_Md_floor 16 = .ok (.invokevirtual 65, 3) := by decide +kernel
theorem d_Md_floor_19 : decode b_Md_floor 19 = .ok (.ireturn, 1) := by decide +kernel
theorem d_Md_floor_20 : decode b_Md_floor 20 = .ok (.aload_n 0, 1) := by decide +kernel
theorem d_Md_floor_21 : decode b_Md_floor 21 = .ok (.getfield 13, 3) := by decide +kernel
theorem d_Md_floor_24 : decode b_Md_floor 24 = .ok (.bipush 7, 2) := by decide +kernel
theorem d_Md_floor_26 : decode b_Md_floor 26 = .ok (.iaload, 1) := by decide +kernel
theorem d_Md_floor_27 : decode b_Md_floor 27 = .ok (.ifCond .ne 9, 3) := by decide +kernel
theorem d_Md_floor_30 : decode b_Md_floor 30 = .ok (.aload_n 0, 1) := by decide +kernel
theorem d_Md_floor_31 : decode b_Md_floor 31 = .ok (.iconst 2, 1) := by decide +kernel
theorem d_Md_floor_32 : decode b_Md_floor 32 = .ok (.invokevirtual 65, 3) := by decide +kernel
theorem d_Md_floor_35 : decode b_Md_floor 35 = .ok (.ireturn, 1) := by decide +kernel
theorem d_Md_floor_36 : decode b_Md_floor 36 = .ok (.iload_n 1, 1) := by decide +kernel
theorem d_Md_floor_37 : decode b_Md_floor 37 = .ok (.iconst 3, 1) := by decide +kernel
theorem d_Md_floor_38 : decode b_Md_floor 38 = .ok (.if_icmp .ge 31, 3) := by decide +kernel
theorem d_Md_floor_41 : decode b_Md_floor 41 = .ok (.iload_n 1, 1) := by decide +kernel
theorem d_Md_floor_42 : decode b_Md_floor 42 = .ok (.ifCond .ne 10, 3) := by decide +kernel
theorem d_Md_floor_45 : decode b_Md_floor 45 = .ok (.aload_n 0, 1) := by decide +kernel
theorem d_Md_floor_46 : decode b_Md_floor 46 = .ok (.getfield 129, 3) := by decide +kernel
theorem d_Md_floor_49 : decode b_Md_floor 49 = .ok (.goto 19, 3) := by decide +kernel
theorem d_Md_floor_52 : decode b_Md_floor 52 = .ok (.iload_n 1, 1) := by decide +kernel
theorem d_Md_floor_53 : decode b_Md_floor 53 = .ok (.iconst 1, 1) := by decide +kernel
theorem d_Md_floor_54 : decode b_Md_floor 54 = .ok (.if_icmp .ne 10, 3) := by decide +kernel
theorem d_Md_floor_57 : decode b_Md_floor 57 = .ok (.aload_n 0, 1) := by decide +kernel
theorem d_Md_floor_58 : decode b_Md_floor 58 = .ok (.getfield 132, 3) := by decide +kernel
theorem d_Md_floor_61 : decode b_Md_floor 61 = .ok (.goto 7, 3) := by decide +kernel
theorem d_Md_floor_64 : decode b_Md_floor 64 = .ok (.aload_n 0, 1) := by decide +kernel
theorem d_Md_floor_65 : decode b_Md_floor 65 = .ok (.getfield 135, 3) := by decide +kernel
theorem d_Md_floor_68 : decode b_Md_floor 68 = .ok (.ireturn, 1) := by decide +kernel
theorem d_Md_floor_69 : decode b_Md_floor 69 = .ok (.iload_n 1, 1) := by decide +kernel
theorem d_Md_floor_70 : decode b_Md_floor 70 = .ok (.iconst 3, 1) := by decide +kernel
theorem d_Md_floor_71 : decode b_Md_floor 71 = .ok (.if_icmp .ne 10, 3) := by decide +kernel
theorem d_Md_floor_74 : decode b_Md_floor 74 = .ok (.aload_n 0, 1) := by decide +kernel
theorem d_Md_floor_75 : decode b_Md_floor 75 = .ok (.getfield 126, 3) := by decide +kernel
theorem d_Md_floor_78 : decode b_Md_floor 78 = .ok (.goto 10, 3) := by decide +kernel
theorem d_Md_floor_81 : decode b_Md_floor 81 = .ok (.aload_n 0, 1) := by decide +kernel
theorem d_Md_floor_82 : decode b_Md_floor 82 = .ok (.getfield 7, 3) := by decide +kernel
theorem d_Md_floor_85 : decode b_Md_floor 85 = .ok (.bipush 7, 2) := by decide +kernel
theorem d_Md_floor_87 : decode b_Md_floor 87 = .ok (.iaload, 1) := by decide +kernel
theorem d_Md_floor_88 : decode b_Md_floor 88 = .ok (.ireturn, 1) := by decide +kernel
