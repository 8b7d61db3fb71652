theorem d_Sg_init_0 : decode b_Sg_init 0 = .ok (.aload_n 0, 1) := by decide +kernel
theorem d_Sg_init_1 : decode b_Sg_init 1 = .ok (.invokespecial 3, 3) := by decide +kernel
theorem d_Sg_init_4 : decode b_Sg_init 4 = .ok (.aload_n 0, 1) := by decide +kernel
theorem d_Sg_init_5 : decode b_Sg_init 5 = .ok (.new 9, 3) := by decide +kernel
theorem d_Sg_init_8 : decode b_Sg_init 8 = .ok (.dup, 1) := by decide +kernel
theorem d_Sg_init_9 : decode b_Sg_init 9 = .ok (.invokespecial 11, 3) := by decide +kernel
theorem d_Sg_init_12 : decode b_Sg_init 12 = .ok (.putfield 12, 3) := by decide +kernel
theorem d_Sg_init_15 : decode b_Sg_init 15 = .ok (.aload_n 0, 1) := by decide +kernel
theorem d_Sg_init_16 : decode b_Sg_init 16 = .ok (.bipush 27, 2) := by decide +kernel
theorem d_Sg_init_18 : decode b_Sg_init 18 = .ok (.newarray .int, 2) := by decide +kernel
theorem d_Sg_init_20 : decode b_Sg_init 20 = .ok (.putfield 18, 3) := by decide +kernel
theorem d_Sg_init_23 : decode b_Sg_init 23 = .ok (.aload_n 0, 1) := by decide +kernel
theorem d_Sg_init_24 : decode b_Sg_init 24 = .ok (.bipush 27, 2) := by decide +kernel
theorem d_Sg_init_26 : decode b_Sg_init 26 = .ok (.newarray .int, 2) := by decide +kernel
theorem d_Sg_init_28 : decode b_Sg_init 28 = .ok (.putfield 22, 3) := by decide +kernel
theorem d_Sg_init_31 : decode b_Sg_init 31 = .ok (.aload_n 0, 1) := by decide +kernel
theorem d_Sg_init_32 : decode b_Sg_init 32 = .ok (.iconst 2, 1) := by decide +kernel
theorem d_Sg_init_33 : decode b_Sg_init 33 = .ok (.newarray .int, 2) := by decide +kernel
theorem d_Sg_init_35 : decode b_Sg_init 35 = .ok (.putfield 25, 3) := by decide +kernel
theorem d_Sg_init_38 : decode b_Sg_init 38 = .ok (.return_, 1) := by decide +kernel
theorem d_Sg_lastToLand_0 : decode b_Sg_lastToLand 0 = .ok (.iconst (-1), 1) := by decide +kernel
theorem d_Sg_lastToLand_1 : decode b_Sg_lastToLand 1 = .ok (.istore_n 1, 1) := by decide +kernel
theorem d_Sg_lastToLand_2 : decode b_Sg_lastToLand 2 = .ok (.iconst 0, 1) := by decide +kernel
theorem d_Sg_lastToLand_3 : decode b_Sg_lastToLand 3 = .ok (.istore_n 2, 1) := by decide +kernel
theorem d_Sg_lastToLand_4 : decode b_Sg_lastToLand 4 = .ok (.iload_n 2, 1) := by decide +kernel
theorem d_Sg_lastToLand_5 : decode b_Sg_lastToLand 5 = .ok (.aload_n 0, 1) := by decide +kernel
theorem d_Sg_lastToLand_6 : decode b_Sg_lastToLand 6 = .ok (.getfield 43, 3) := by decide +kernel
theorem d_Sg_lastToLand_9 : decode b_Sg_lastToLand 9 = .ok (.if_icmp .ge 31, 3) := by decide +kernel
theorem d_Sg_lastToLand_12 : decode b_Sg_lastToLand 12 = .ok (.iload_n 1, 1) := by decide +kernel
theorem d_Sg_lastToLand_13 : decode b_Sg_lastToLand 13 = .ok (.iconst (-1), 1) := by decide +kernel
theorem d_Sg_lastToLand_14 : decode b_Sg_lastToLand 14 = .ok (.if_icmp .eq 18, 3) := by decide +kernel
theorem d_Sg_lastToLand_17 : decode b_Sg_lastToLand 17 = .ok (.aload_n 0, 1) := by decide +kernel
theorem d_Sg_lastToLand_18 : decode b_Sg_lastToLand 18 = .ok (.getfield 18, 3) := by decide +kernel
theorem d_Sg_lastToLand_21 : decode b_Sg_lastToLand 21 = .ok (.iload_n 2, 1) := by decide +kernel
theorem d_Sg_lastToLand_22 : decode b_Sg_lastToLand 22 = .ok (.iaload, 1) := by decide +kernel
theorem d_Sg_lastToLand_23 : decode b_Sg_lastToLand 23 = .ok (.aload_n 0, 1) := by decide +kernel
theorem d_Sg_lastToLand_24 : decode b_Sg_lastToLand 24 = .ok (.getfield 18, 3) := by decide +kernel
theorem d_Sg_lastToLand_27 : decode b_Sg_lastToLand 27 = .ok (.iload_n 1, 1) := by decide +kernel
theorem d_Sg_lastToLand_28 : decode b_Sg_lastToLand 28 = .ok (.iaload, 1) := by decide +kernel
theorem d_Sg_lastToLand_29 : decode b_Sg_lastToLand 29 = .ok (.if_icmp .le 5, 3) := by decide +kernel
theorem d_Sg_lastToLand_32 : decode b_Sg_lastToLand 32 = .ok (.iload_n 2, 1) := by decide +kernel
theorem d_Sg_lastToLand_33 : decode b_Sg_lastToLand 33 = .ok (.istore_n 1, 1) := by decide +kernel
theorem d_Sg_lastToLand_34 : decode b_Sg_lastToLand 34 = .ok (.iinc 2 1, 3) := by decide +kernel
theorem d_Sg_lastToLand_37 : decode b_Sg_lastToLand 37 = .ok (.goto (-33), 3) := by decide +kernel
theorem d_Sg_lastToLand_40 : decode b_Sg_lastToLand 40 = .ok (.iload_n 1, 1) := by decide +kernel
theorem d_Sg_lastToLand_41 : decode b_Sg_lastToLand 41 = .ok (.ireturn, 1) := by decide +kernel
theorem d_Sg_open_0 : decode b_Sg_open 0 = .ok (.aload_n 0, 1) := by decide +kernel
theorem d_Sg_open_1 : decode b_Sg_open 1 = .ok (.getfield 12, 3) := by decide +kernel
theorem d_Sg_open_4 : decode b_Sg_open 4 = .ok (.aload_n 1, 1) := by decide +kernel
theorem d_Sg_open_5 : decode b_Sg_open 5 = .ok (.invokevirtual 28, 3) := by decide +kernel
theorem d_Sg_open_8 : decode b_Sg_open 8 = .ok (.aload_n 0, 1) := by decide +kernel
theorem d_Sg_open_9 : decode b_Sg_open 9 = .ok (.iconst 1, 1) := by decide +kernel
theorem d_Sg_open_10 : decode b_Sg_open 10 = .ok (.putfield 32, 3) := by decide +kernel
theorem d_Sg_open_13 : decode b_Sg_open 13 = .ok (.aload_n 0, 1) := by decide +kernel
theorem d_Sg_open_14 : decode b_Sg_open 14 = .ok (.iconst 0, 1) := by decide +kernel
theorem d_Sg_open_15 : decode b_Sg_open 15 = .ok (.putfield 36, 3) := by decide +kernel
theorem d_Sg_open_18 : decode b_Sg_open 18 = .ok (.aload_n 0, 1) := by decide +kernel
theorem d_Sg_open_19 : decode b_Sg_open 19 = .ok (.getfield 25, 3) := by decide +kernel
theorem d_Sg_open_22 : decode b_Sg_open 22 = .ok (.iconst 0, 1) := by decide +kernel
theorem d_Sg_open_23 : decode b_Sg_open 23 = .ok (.iconst 0, 1) := by decide +kernel
theorem d_Sg_open_24 : decode b_Sg_open 24 = .ok (.iastore, 1) := by decide +kernel
theorem d_Sg_open_25 : decode b_Sg_open 25 = .ok (.aload_n 0, 1) := by decide +kernel
theorem d_Sg_open_26 : decode b_Sg_open 26 = .ok (.getfield 25, 3) := by decide +kernel
theorem d_Sg_open_29 : decode b_Sg_open 29 = .ok (.iconst 1, 1) := by decide +kernel
theorem d_Sg_open_30 : decode b_Sg_open 30 = .ok (.iconst 0, 1) := by decide +kernel
theorem d_Sg_open_31 : decode b_Sg_open 31 = .ok (.iastore, 1) := by decide +kernel
theorem d_Sg_open_32 : decode b_Sg_open 32 = .ok (.aload_n 0, 1) := by decide +kernel
theorem d_Sg_open_33 : decode b_Sg_open 33 = .ok (.invokevirtual 40, 3) := by decide +kernel
theorem d_Sg_open_36 : decode b_Sg_open 36 = .ok (.return_, 1) := by decide +kernel
theorem d_Sg_numberBalls_0 : decode b_Sg_numberBalls 0 = .ok (.aload_n 0, 1) := by decide +kernel
theorem d_Sg_numberBalls_1 : decode b_Sg_numberBalls 1 = .ok (.iconst 0, 1) := by decide +kernel
theorem d_Sg_numberBalls_2 : decode b_Sg_numberBalls 2 = .ok (.putfield 43, 3) := by decide +kernel
theorem d_Sg_numberBalls_5 : decode b_Sg_numberBalls 5 = .ok (.iconst 0, 1) := by decide +kernel
theorem d_Sg_numberBalls_6 : decode b_Sg_numberBalls 6 = .ok (.istore_n 1, 1) := by decide +kernel
theorem d_Sg_numberBalls_7 : decode b_Sg_numberBalls 7 = .ok (.iload_n 1, 1) := by decide +kernel
theorem d_Sg_numberBalls_8 : decode b_Sg_numberBalls 8 = .ok (.bipush 9, 2) := by decide +kernel
theorem d_Sg_numberBalls_10 : decode b_Sg_numberBalls 10 = .ok (.if_icmp .ge 28, 3) := by decide +kernel
theorem d_Sg_numberBalls_13 : decode b_Sg_numberBalls 13 = .ok (.iconst 0, 1) := by decide +kernel
theorem d_Sg_numberBalls_14 : decode b_Sg_numberBalls 14 = .ok (.istore_n 2, 1) := by decide +kernel
theorem d_Sg_numberBalls_15 : decode b_Sg_numberBalls 15 = .ok (.iload_n 2, 1) := by decide +kernel
theorem d_Sg_numberBalls_16 : decode b_Sg_numberBalls 16 = .ok (.iconst 1, 1) := by decide +kernel
theorem d_Sg_numberBalls_17 : decode b_Sg_numberBalls 17 = .ok (.if_icmp .gt 15, 3) := by decide +kernel
theorem d_Sg_numberBalls_20 : decode b_Sg_numberBalls 20 = .ok (.aload_n 0, 1) := by decide +kernel
theorem d_Sg_numberBalls_21 : decode b_Sg_numberBalls 21 = .ok (.iload_n 1, 1) := by decide +kernel
theorem d_Sg_numberBalls_22 : decode b_Sg_numberBalls 22 = .ok (.iload_n 2, 1) := by decide +kernel
theorem d_Sg_numberBalls_23 : decode b_Sg_numberBalls 23 = .ok (.invokevirtual 46, 3) := by decide +kernel
theorem d_Sg_numberBalls_26 : decode b_Sg_numberBalls 26 = .ok (.iinc 2 1, 3) := by decide +kernel
theorem d_Sg_numberBalls_29 : decode b_Sg_numberBalls 29 = .ok (.goto (-14), 3) := by decide +kernel
theorem d_Sg_numberBalls_32 : decode b_Sg_numberBalls 32 = .ok (.iinc 1 1, 3) := by decide +kernel
theorem d_Sg_numberBalls_35 : decode b_Sg_numberBalls 35 = .ok (.goto (-28), 3) := by decide +kernel
theorem d_Sg_numberBalls_38 : decode b_Sg_numberBalls 38 = .ok (.return_, 1) := by decide +kernel
theorem d_Sg_numberBallsLanding_0 : decode b_Sg_numberBallsLanding 0 = .ok (.iconst (-1), 1) := by decide +kernel
theorem d_Sg_numberBallsLanding_1 : decode b_Sg_numberBallsLanding 1 = .ok (.istore_n 3, 1) := by decide +kernel
theorem d_Sg_numberBallsLanding_2 : decode b_Sg_numberBallsLanding 2 = .ok (.iload_n 3, 1) := by decide +kernel
theorem d_Sg_numberBallsLanding_3 : decode b_Sg_numberBallsLanding 3 = .ok (.iload_n 1, 1) := by decide +kernel
theorem d_Sg_numberBallsLanding_4 : decode b_Sg_numberBallsLanding 4 = .ok (.bipush 9, 2) := by decide +kernel
theorem d_Sg_numberBallsLanding_6 : decode b_Sg_numberBallsLanding 6 = .ok (.isub, 1) := by decide +kernel
theorem d_Sg_numberBallsLanding_7 : decode b_Sg_numberBallsLanding 7 = .ok (.if_icmp .lt 69, 3) := by decide +kernel
theorem d_Sg_numberBallsLanding_10 : decode b_Sg_numberBallsLanding 10 = .ok (.iconst 0, 1) := by decide +kernel
theorem d_Sg_numberBallsLanding_11 : decode b_Sg_numberBallsLanding 11 = .ok (.istore 4, 2) := by decide +kernel
theorem d_Sg_numberBallsLanding_13 : decode b_Sg_numberBallsLanding 13 = .ok (.iload 4, 2) := by decide +kernel
theorem d_Sg_numberBallsLanding_15 : decode b_Sg_numberBallsLanding 15 = .ok (.iconst 1, 1) := by decide +kernel
theorem d_Sg_numberBallsLanding_16 : decode b_Sg_numberBallsLanding 16 = .ok (.if_icmp .gt 54, 3) := by decide +kernel
theorem d_Sg_numberBallsLanding_19 : decode b_Sg_numberBallsLanding 19 = .ok (.aload_n 0, 1) := by decide +kernel
theorem d_Sg_numberBallsLanding_20 : decode b_Sg_numberBallsLanding 20 = .ok (.getfield 12, 3) := by decide +kernel
theorem d_Sg_numberBallsLanding_23 : decode b_Sg_numberBallsLanding 23 = .ok (.iload_n 3, 1) := by decide +kernel
theorem d_Sg_numberBallsLanding_24 : decode b_Sg_numberBallsLanding 24 = .ok (.iload 4, 2) := by decide +kernel
theorem d_Sg_numberBallsLanding_26 : decode b_Sg_numberBallsLanding 26 = .ok (.invokevirtual 50, 3) := by decide +kernel
theorem d_Sg_numberBallsLanding_29 : decode b_Sg_numberBallsLanding 29 = .ok (.istore 5, 2) := by decide +kernel
theorem d_Sg_numberBallsLanding_31 : decode b_Sg_numberBallsLanding 31 = .ok (.iload 5, 2) := by decide +kernel
theorem d_Sg_numberBallsLanding_33 : decode b_Sg_numberBallsLanding 33 = .ok (.iconst (-1), 1) := by decide +kernel
theorem d_Sg_numberBallsLanding_34 : decode b_Sg_numberBallsLanding 34 = .ok (.if_icmp .eq 30, 3) := by decide +kernel
theorem d_Sg_numberBallsLanding_37 : decode b_Sg_numberBallsLanding 37 = .ok (.aload_n 0, 1) := by decide +kernel
theorem d_Sg_numberBallsLanding_38 : decode b_Sg_numberBallsLanding 38 = .ok (.getfield 12, 3) := by decide +kernel
theorem d_Sg_numberBallsLanding_41 : decode b_Sg_numberBallsLanding 41 = .ok (.iload 5, 2) := by decide +kernel
theorem d_Sg_numberBallsLanding_43 : decode b_Sg_numberBallsLanding 43 = .ok (.iload 4, 2) := by decide +kernel
theorem d_Sg_numberBallsLanding_45 : decode b_Sg_numberBallsLanding 45 = .ok (.iload_n 1, 1) := by decide +kernel
theorem d_Sg_numberBallsLanding_46 : decode b_Sg_numberBallsLanding 46 = .ok (.invokevirtual 54, 3) := by decide +kernel
theorem d_Sg_numberBallsLanding_49 : decode b_Sg_numberBallsLanding 49 = .ok (.iload_n 2, 1) := by decide +kernel
theorem d_Sg_numberBallsLanding_50 : decode b_Sg_numberBallsLanding 50 = .ok (.if_icmp .ne 14, 3) := by decide +kernel
theorem d_Sg_numberBallsLanding_53 : decode b_Sg_numberBallsLanding 53 = .ok (.aload_n 0, 1) := by decide +kernel
theorem d_Sg_numberBallsLanding_54 : decode b_Sg_numberBallsLanding 54 = .ok (.iload 5, 2) := by decide +kernel
theorem d_Sg_numberBallsLanding_56 : decode b_Sg_numberBallsLanding 56 = .ok (.iload_n 1, 1) := by decide +kernel
theorem d_Sg_numberBallsLanding_57 : decode b_Sg_numberBallsLanding 57 = .ok (.iload_n 3, 1) := by decide +kernel
theorem d_Sg_numberBallsLanding_58 : decode b_Sg_numberBallsLanding 58 = .ok (.isub, 1) := by decide +kernel
theorem d_Sg_numberBallsLanding_59 : decode b_Sg_numberBallsLanding 59 = .ok (.iload_n 1, 1) := by decide +kernel
theorem d_Sg_numberBallsLanding_60 : decode b_Sg_numberBallsLanding 60 = .ok (.iload_n 2, 1) := by decide +kernel
theorem d_Sg_numberBallsLanding_61 : decode b_Sg_numberBallsLanding 61 = .ok (.invokevirtual 58, 3) := by decide +kernel
theorem d_Sg_numberBallsLanding_64 : decode b_Sg_numberBallsLanding 64 = .ok (.iinc 4 1, 3) := by decide +kernel
theorem d_Sg_numberBallsLanding_67 : decode b_Sg_numberBallsLanding 67 = .ok (.goto (-54), 3) := by decide +kernel
theorem d_Sg_numberBallsLanding_70 : decode b_Sg_numberBallsLanding 70 = .ok (.iinc 3 (-1), 3) := by decide +kernel
theorem d_Sg_numberBallsLanding_73 : decode b_Sg_numberBallsLanding 73 = .ok (.goto (-71), 3) := by decide +kernel
theorem d_Sg_numberBallsLanding_76 : decode b_Sg_numberBallsLanding 76 = .ok (.return_, 1) := by decide +kernel
theorem d_Sg_numberBallsOf_0 : decode b_Sg_numberBallsOf 0 = .ok (.iconst 0, 1) := by decide +kernel
theorem d_Sg_numberBallsOf_1 : decode b_Sg_numberBallsOf 1 = .ok (.istore 5, 2) := by decide +kernel
theorem d_Sg_numberBallsOf_3 : decode b_Sg_numberBallsOf 3 = .ok (.iload 5, 2) := by decide +kernel
theorem d_Sg_numberBallsOf_5 : decode b_Sg_numberBallsOf 5 = .ok (.aload_n 0, 1) := by decide +kernel
theorem d_Sg_numberBallsOf_6 : decode b_Sg_numberBallsOf 6 = .ok (.getfield 12, 3) := by decide +kernel
theorem d_Sg_numberBallsOf_9 : decode b_Sg_numberBallsOf 9 = .ok (.iload_n 1, 1) := by decide +kernel
theorem d_Sg_numberBallsOf_10 : decode b_Sg_numberBallsOf 10 = .ok (.invokevirtual 62, 3) := by decide +kernel
theorem d_Sg_numberBallsOf_13 : decode b_Sg_numberBallsOf 13 = .ok (.if_icmp .ge 63, 3) := by decide +kernel
theorem d_Sg_numberBallsOf_16 : decode b_Sg_numberBallsOf 16 = .ok (.aload_n 0, 1) := by decide +kernel
theorem d_Sg_numberBallsOf_17 : decode b_Sg_numberBallsOf 17 = .ok (.getfield 12, 3) := by decide +kernel
theorem d_Sg_numberBallsOf_20 : decode b_Sg_numberBallsOf 20 = .ok (.iload_n 1, 1) := by decide +kernel
theorem d_Sg_numberBallsOf_21 : decode b_Sg_numberBallsOf 21 = .ok (.iload 5, 2) := by decide +kernel
theorem d_Sg_numberBallsOf_23 : decode b_Sg_numberBallsOf 23 = .ok (.invokevirtual 66, 3) := by decide +kernel
theorem d_Sg_numberBallsOf_26 : decode b_Sg_numberBallsOf 26 = .ok (.iload_n 2, 1) := by decide +kernel
theorem d_Sg_numberBallsOf_27 : decode b_Sg_numberBallsOf 27 = .ok (.if_icmp .ne 43, 3) := by decide +kernel
theorem d_Sg_numberBallsOf_30 : decode b_Sg_numberBallsOf 30 = .ok (.aload_n 0, 1) := by decide +kernel
theorem d_Sg_numberBallsOf_31 : decode b_Sg_numberBallsOf 31 = .ok (.getfield 43, 3) := by decide +kernel
theorem d_Sg_numberBallsOf_34 : decode b_Sg_numberBallsOf 34 = .ok (.bipush 27, 2) := by decide +kernel
theorem d_Sg_numberBallsOf_36 : decode b_Sg_numberBallsOf 36 = .ok (.if_icmp .ge 34, 3) := by decide +kernel
theorem d_Sg_numberBallsOf_39 : decode b_Sg_numberBallsOf 39 = .ok (.aload_n 0, 1) := by decide +kernel
theorem d_Sg_numberBallsOf_40 : decode b_Sg_numberBallsOf 40 = .ok (.getfield 18, 3) := by decide +kernel
theorem d_Sg_numberBallsOf_43 : decode b_Sg_numberBallsOf 43 = .ok (.aload_n 0, 1) := by decide +kernel
theorem d_Sg_numberBallsOf_44 : decode b_Sg_numberBallsOf 44 = .ok (.getfield 43, 3) := by decide +kernel
theorem d_Sg_numberBallsOf_47 : decode b_Sg_numberBallsOf 47 = .ok (.iload_n 3, 1) := by decide +kernel
theorem d_Sg_numberBallsOf_48 : decode b_Sg_numberBallsOf 48 = .ok (.iastore, 1) := by decide +kernel
theorem d_Sg_numberBallsOf_49 : decode b_Sg_numberBallsOf 49 = .ok (.aload_n 0, 1) := by decide +kernel
theorem d_Sg_numberBallsOf_50 : decode b_Sg_numberBallsOf 50 = .ok (.getfield 22, 3) := by decide +kernel
theorem d_Sg_numberBallsOf_53 : decode b_Sg_numberBallsOf 53 = .ok (.aload_n 0, 1) := by decide +kernel
theorem d_Sg_numberBallsOf_54 : decode b_Sg_numberBallsOf 54 = .ok (.getfield 43, 3) := by decide +kernel
theorem d_Sg_numberBallsOf_57 : decode b_Sg_numberBallsOf 57 = .ok (.iload 4, 2) := by decide +kernel
theorem d_Sg_numberBallsOf_59 : decode b_Sg_numberBallsOf 59 = .ok (.iastore, 1) := by decide +kernel
theorem d_Sg_numberBallsOf_60 : decode b_Sg_numberBallsOf 60 = .ok (.aload_n 0, 1) := by decide +kernel
theorem d_Sg_numberBallsOf_61 : decode b_Sg_numberBallsOf 61 = .ok (.dup, 1) := by decide +kernel
theorem d_Sg_numberBallsOf_62 : decode b_Sg_numberBallsOf 62 = .ok (.getfield 43, 3) := by decide +kernel
theorem d_Sg_numberBallsOf_65 : decode b_Sg_numberBallsOf 65 = .ok (.iconst 1, 1) := by decide +kernel
theorem d_Sg_numberBallsOf_66 : decode b_Sg_numberBallsOf 66 = .ok (.iadd, 1) := by decide +kernel
theorem d_Sg_numberBallsOf_67 : decode b_Sg_numberBallsOf 67 = .ok (.putfield 43, 3) := by decide +kernel
theorem d_Sg_numberBallsOf_70 : decode b_Sg_numberBallsOf 70 = .ok (.iinc 5 1, 3) := by decide +kernel
theorem d_Sg_numberBallsOf_73 : decode b_Sg_numberBallsOf 73 = .ok (.goto (-70), 3) := by decide +kernel
theorem d_Sg_numberBallsOf_76 : decode b_Sg_numberBallsOf 76 = .ok (.return_, 1) := by decide +kernel
theorem d_Sg_goOn_0 : decode b_Sg_goOn 0 = .ok (.iconst 0, 1) := by decide +kernel
theorem d_Sg_goOn_1 : decode b_Sg_goOn 1 = .ok (.istore_n 2, 1) := by decide +kernel
theorem d_Sg_goOn_2 : decode b_Sg_goOn 2 = .ok (.iconst 0, 1) := by decide +kernel
theorem d_Sg_goOn_3 : decode b_Sg_goOn 3 = .ok (.istore_n 3, 1) := by decide +kernel
theorem d_Sg_goOn_4 : decode b_Sg_goOn 4 = .ok (.iload_n 3, 1) := by decide +kernel
theorem d_Sg_goOn_5 : decode b_Sg_goOn 5 = .ok (.iload_n 1, 1) := by decide +kernel
theorem d_Sg_goOn_6 : decode b_Sg_goOn 6 = .ok (.if_icmp .ge 43, 3) := by decide +kernel
theorem d_Sg_goOn_9 : decode b_Sg_goOn 9 = .ok (.iconst 0, 1) := by decide +kernel
theorem d_Sg_goOn_10 : decode b_Sg_goOn 10 = .ok (.istore 4, 2) := by decide +kernel
theorem d_Sg_goOn_12 : decode b_Sg_goOn 12 = .ok (.iload 4, 2) := by decide +kernel
theorem d_Sg_goOn_14 : decode b_Sg_goOn 14 = .ok (.iconst 1, 1) := by decide +kernel
theorem d_Sg_goOn_15 : decode b_Sg_goOn 15 = .ok (.if_icmp .gt 18, 3) := by decide +kernel
theorem d_Sg_goOn_18 : decode b_Sg_goOn 18 = .ok (.iload_n 2, 1) := by decide +kernel
theorem d_Sg_goOn_19 : decode b_Sg_goOn 19 = .ok (.aload_n 0, 1) := by decide +kernel
theorem d_Sg_goOn_20 : decode b_Sg_goOn 20 = .ok (.iload 4, 2) := by decide +kernel
theorem d_Sg_goOn_22 : decode b_Sg_goOn 22 = .ok (.invokevirtual 69, 3) := by decide +kernel
theorem d_Sg_goOn_25 : decode b_Sg_goOn 25 = .ok (.iadd, 1) := by decide +kernel
theorem d_Sg_goOn_26 : decode b_Sg_goOn 26 = .ok (.istore_n 2, 1) := by decide +kernel
theorem d_Sg_goOn_27 : decode b_Sg_goOn 27 = .ok (.iinc 4 1, 3) := by decide +kernel
theorem d_Sg_goOn_30 : decode b_Sg_goOn 30 = .ok (.goto (-18), 3) := by decide +kernel
theorem d_Sg_goOn_33 : decode b_Sg_goOn 33 = .ok (.aload_n 0, 1) := by decide +kernel
theorem d_Sg_goOn_34 : decode b_Sg_goOn 34 = .ok (.dup, 1) := by decide +kernel
theorem d_Sg_goOn_35 : decode b_Sg_goOn 35 = .ok (.getfield 36, 3) := by decide +kernel
theorem d_Sg_goOn_38 : decode b_Sg_goOn 38 = .ok (.iconst 1, 1) := by decide +kernel
theorem d_Sg_goOn_39 : decode b_Sg_goOn 39 = .ok (.iadd, 1) := by decide +kernel
theorem d_Sg_goOn_40 : decode b_Sg_goOn 40 = .ok (.putfield 36, 3) := by decide +kernel
theorem d_Sg_goOn_43 : decode b_Sg_goOn 43 = .ok (.iinc 3 1, 3) := by decide +kernel
theorem d_Sg_goOn_46 : decode b_Sg_goOn 46 = .ok (.goto (-42), 3) := by decide +kernel
theorem d_Sg_goOn_49 : decode b_Sg_goOn 49 = .ok (.iload_n 2, 1) := by decide +kernel
theorem d_Sg_goOn_50 : decode b_Sg_goOn 50 = .ok (.ireturn, 1) := by decide +kernel
theorem d_Sg_throwFrom_0 : decode b_Sg_throwFrom 0 = .ok (.aload_n 0, 1) := by decide +kernel
theorem d_Sg_throwFrom_1 : decode b_Sg_throwFrom 1 = .ok (.getfield 12, 3) := by decide +kernel
theorem d_Sg_throwFrom_4 : decode b_Sg_throwFrom 4 = .ok (.aload_n 0, 1) := by decide +kernel
theorem d_Sg_throwFrom_5 : decode b_Sg_throwFrom 5 = .ok (.getfield 36, 3) := by decide +kernel
theorem d_Sg_throwFrom_8 : decode b_Sg_throwFrom 8 = .ok (.iload_n 1, 1) := by decide +kernel
theorem d_Sg_throwFrom_9 : decode b_Sg_throwFrom 9 = .ok (.invokevirtual 50, 3) := by decide +kernel
theorem d_Sg_throwFrom_12 : decode b_Sg_throwFrom 12 = .ok (.istore_n 2, 1) := by decide +kernel
theorem d_Sg_throwFrom_13 : decode b_Sg_throwFrom 13 = .ok (.iload_n 2, 1) := by decide +kernel
theorem d_Sg_throwFrom_14 : decode b_Sg_throwFrom 14 = .ok (.iconst (-1), 1) := by decide +kernel
theorem d_Sg_throwFrom_15 : decode b_Sg_throwFrom 15 = .ok (.if_icmp .ne 5, 3) := by decide +kernel
theorem d_Sg_throwFrom_18 : decode b_Sg_throwFrom 18 = .ok (.iconst 0, 1) := by decide +kernel
theorem d_Sg_throwFrom_19 : decode b_Sg_throwFrom 19 = .ok (.ireturn, 1) := by decide +kernel
theorem d_Sg_throwFrom_20 : decode b_Sg_throwFrom 20 = .ok (.iconst 0, 1) := by decide +kernel
theorem d_Sg_throwFrom_21 : decode b_Sg_throwFrom 21 = .ok (.istore_n 3, 1) := by decide +kernel
theorem d_Sg_throwFrom_22 : decode b_Sg_throwFrom 22 = .ok (.iconst (-1), 1) := by decide +kernel
theorem d_Sg_throwFrom_23 : decode b_Sg_throwFrom 23 = .ok (.istore 4, 2) := by decide +kernel
theorem d_Sg_throwFrom_25 : decode b_Sg_throwFrom 25 = .ok (.iconst 0, 1) := by decide +kernel
theorem d_Sg_throwFrom_26 : decode b_Sg_throwFrom 26 = .ok (.istore 5, 2) := by decide +kernel
theorem d_Sg_throwFrom_28 : decode b_Sg_throwFrom 28 = .ok (.iload 5, 2) := by decide +kernel
theorem d_Sg_throwFrom_30 : decode b_Sg_throwFrom 30 = .ok (.aload_n 0, 1) := by decide +kernel
theorem d_Sg_throwFrom_31 : decode b_Sg_throwFrom 31 = .ok (.getfield 43, 3) := by decide +kernel
theorem d_Sg_throwFrom_34 : decode b_Sg_throwFrom 34 = .ok (.if_icmp .ge 102, 3) := by decide +kernel
theorem d_Sg_throwFrom_37 : decode b_Sg_throwFrom 37 = .ok (.aload_n 0, 1) := by decide +kernel
theorem d_Sg_throwFrom_38 : decode b_Sg_throwFrom 38 = .ok (.getfield 18, 3) := by decide +kernel
theorem d_Sg_throwFrom_41 : decode b_Sg_throwFrom 41 = .ok (.iload 5, 2) := by decide +kernel
theorem d_Sg_throwFrom_43 : decode b_Sg_throwFrom 43 = .ok (.iaload, 1) := by decide +kernel
theorem d_Sg_throwFrom_44 : decode b_Sg_throwFrom 44 = .ok (.aload_n 0, 1) := by decide +kernel
theorem d_Sg_throwFrom_45 : decode b_Sg_throwFrom 45 = .ok (.getfield 36, 3) := by decide +kernel
theorem d_Sg_throwFrom_48 : decode b_Sg_throwFrom 48 = .ok (.if_icmp .ne 82, 3) := by decide +kernel
theorem d_Sg_throwFrom_51 : decode b_Sg_throwFrom 51 = .ok (.aload_n 0, 1) := by decide +kernel
theorem d_Sg_throwFrom_52 : decode b_Sg_throwFrom 52 = .ok (.getfield 22, 3) := by decide +kernel
theorem d_Sg_throwFrom_55 : decode b_Sg_throwFrom 55 = .ok (.iload 5, 2) := by decide +kernel
theorem d_Sg_throwFrom_57 : decode b_Sg_throwFrom 57 = .ok (.iaload, 1) := by decide +kernel
theorem d_Sg_throwFrom_58 : decode b_Sg_throwFrom 58 = .ok (.iload_n 1, 1) := by decide +kernel
theorem d_Sg_throwFrom_59 : decode b_Sg_throwFrom 59 = .ok (.if_icmp .ne 71, 3) := by decide +kernel
theorem d_Sg_throwFrom_62 : decode b_Sg_throwFrom 62 = .ok (.aload_n 0, 1) := by decide +kernel
theorem d_Sg_throwFrom_63 : decode b_Sg_throwFrom 63 = .ok (.iload_n 2, 1) := by decide +kernel
theorem d_Sg_throwFrom_64 : decode b_Sg_throwFrom 64 = .ok (.iload 4, 2) := by decide +kernel
theorem d_Sg_throwFrom_66 : decode b_Sg_throwFrom 66 = .ok (.iconst 1, 1) := by decide +kernel
theorem d_Sg_throwFrom_67 : decode b_Sg_throwFrom 67 = .ok (.iadd, 1) := by decide +kernel
theorem d_Sg_throwFrom_68 : decode b_Sg_throwFrom 68 = .ok (.invokevirtual 72, 3) := by decide +kernel
theorem d_Sg_throwFrom_71 : decode b_Sg_throwFrom 71 = .ok (.istore 4, 2) := by decide +kernel
theorem d_Sg_throwFrom_73 : decode b_Sg_throwFrom 73 = .ok (.iload 4, 2) := by decide +kernel
theorem d_Sg_throwFrom_75 : decode b_Sg_throwFrom 75 = .ok (.iconst (-1), 1) := by decide +kernel
theorem d_Sg_throwFrom_76 : decode b_Sg_throwFrom 76 = .ok (.if_icmp .ne 6, 3) := by decide +kernel
theorem d_Sg_throwFrom_79 : decode b_Sg_throwFrom 79 = .ok (.goto 57, 3) := by decide +kernel
theorem d_Sg_throwFrom_82 : decode b_Sg_throwFrom 82 = .ok (.aload_n 0, 1) := by decide +kernel
theorem d_Sg_throwFrom_83 : decode b_Sg_throwFrom 83 = .ok (.getfield 18, 3) := by decide +kernel
theorem d_Sg_throwFrom_86 : decode b_Sg_throwFrom 86 = .ok (.iload 5, 2) := by decide +kernel
theorem d_Sg_throwFrom_88 : decode b_Sg_throwFrom 88 = .ok (.aload_n 0, 1) := by decide +kernel
theorem d_Sg_throwFrom_89 : decode b_Sg_throwFrom 89 = .ok (.getfield 36, 3) := by decide +kernel
theorem d_Sg_throwFrom_92 : decode b_Sg_throwFrom 92 = .ok (.aload_n 0, 1) := by decide +kernel
theorem d_Sg_throwFrom_93 : decode b_Sg_throwFrom 93 = .ok (.getfield 12, 3) := by decide +kernel
theorem d_Sg_throwFrom_96 : decode b_Sg_throwFrom 96 = .ok (.iload_n 2, 1) := by decide +kernel
theorem d_Sg_throwFrom_97 : decode b_Sg_throwFrom 97 = .ok (.iload 4, 2) := by decide +kernel
theorem d_Sg_throwFrom_99 : decode b_Sg_throwFrom 99 = .ok (.invokevirtual 66, 3) := by decide +kernel
theorem d_Sg_throwFrom_102 : decode b_Sg_throwFrom 102 = .ok (.iadd, 1) := by decide +kernel
theorem d_Sg_throwFrom_103 : decode b_Sg_throwFrom 103 = .ok (.iastore, 1) := by decide +kernel
theorem d_Sg_throwFrom_104 : decode b_Sg_throwFrom 104 = .ok (.aload_n 0, 1) := by decide +kernel
theorem d_Sg_throwFrom_105 : decode b_Sg_throwFrom 105 = .ok (.getfield 22, 3) := by decide +kernel
theorem d_Sg_throwFrom_108 : decode b_Sg_throwFrom 108 = .ok (.iload 5, 2) := by decide +kernel
theorem d_Sg_throwFrom_110 : decode b_Sg_throwFrom 110 = .ok (.aload_n 0, 1) := by decide +kernel
theorem d_Sg_throwFrom_111 : decode b_Sg_throwFrom 111 = .ok (.getfield 12, 3) := by decide +kernel
theorem d_Sg_throwFrom_114 : decode b_Sg_throwFrom 114 = .ok (.iload_n 2, 1) := by decide +kernel
theorem d_Sg_throwFrom_115 : decode b_Sg_throwFrom 115 = .ok (.iload_n 1, 1) := by decide +kernel
theorem d_Sg_throwFrom_116 : decode b_Sg_throwFrom 116 = .ok (.aload_n 0, 1) := by decide +kernel
theorem d_Sg_throwFrom_117 : decode b_Sg_throwFrom 117 = .ok (.getfield 18, 3) := by decide +kernel
theorem d_Sg_throwFrom_120 : decode b_Sg_throwFrom 120 = .ok (.iload 5, 2) := by decide +kernel
theorem d_Sg_throwFrom_122 : decode b_Sg_throwFrom 122 = .ok (.iaload, 1) := by decide +kernel
theorem d_Sg_throwFrom_123 : decode b_Sg_throwFrom 123 = .ok (.invokevirtual 54, 3) := by decide +kernel
theorem d_Sg_throwFrom_126 : decode b_Sg_throwFrom 126 = .ok (.iastore, 1) := by decide +kernel
theorem d_Sg_throwFrom_127 : decode b_Sg_throwFrom 127 = .ok (.iinc 3 1, 3) := by decide +kernel
theorem d_Sg_throwFrom_130 : decode b_Sg_throwFrom 130 = .ok (.iinc 5 1, 3) := by decide +kernel
theorem d_Sg_throwFrom_133 : decode b_Sg_throwFrom 133 = .ok (.goto (-105), 3) := by decide +kernel
theorem d_Sg_throwFrom_136 : decode b_Sg_throwFrom 136 = .ok (.aload_n 0, 1) := by decide +kernel
theorem d_Sg_throwFrom_137 : decode b_Sg_throwFrom 137 = .ok (.getfield 25, 3) := by decide +kernel
theorem d_Sg_throwFrom_140 : decode b_Sg_throwFrom 140 = .ok (.iload_n 1, 1) := by decide +kernel
theorem d_Sg_throwFrom_141 : decode b_Sg_throwFrom 141 = .ok (.dup2, 1) := by decide +kernel
theorem d_Sg_throwFrom_142 : decode b_Sg_throwFrom 142 = .ok (.iaload, 1) := by decide +kernel
theorem d_Sg_throwFrom_143 : decode b_Sg_throwFrom 143 = .ok (.iload_n 3, 1) := by decide +kernel
theorem d_Sg_throwFrom_144 : decode b_Sg_throwFrom 144 = .ok (.iadd, 1) := by decide +kernel
theorem d_Sg_throwFrom_145 : decode b_Sg_throwFrom 145 = .ok (.iastore, 1) := by decide +kernel
theorem d_Sg_throwFrom_146 : decode b_Sg_throwFrom 146 = .ok (.iload_n 3, 1) := by decide +kernel
theorem d_Sg_throwFrom_147 : decode b_Sg_throwFrom 147 = .ok (.ireturn, 1) := by decide +kernel
theorem d_Sg_nextThrow_0 : decode b_Sg_nextThrow 0 = .ok (.iload_n 2, 1) := by decide +kernel
theorem d_Sg_nextThrow_1 : decode b_Sg_nextThrow 1 = .ok (.istore_n 3, 1) := by decide +kernel
theorem d_Sg_nextThrow_2 : decode b_Sg_nextThrow 2 = .ok (.iload_n 3, 1) := by decide +kernel
theorem d_Sg_nextThrow_3 : decode b_Sg_nextThrow 3 = .ok (.aload_n 0, 1) := by decide +kernel
theorem d_Sg_nextThrow_4 : decode b_Sg_nextThrow 4 = .ok (.getfield 12, 3) := by decide +kernel
theorem d_Sg_nextThrow_7 : decode b_Sg_nextThrow 7 = .ok (.iload_n 1, 1) := by decide +kernel
theorem d_Sg_nextThrow_8 : decode b_Sg_nextThrow 8 = .ok (.invokevirtual 62, 3) := by decide +kernel
theorem d_Sg_nextThrow_11 : decode b_Sg_nextThrow 11 = .ok (.if_icmp .ge 23, 3) := by decide +kernel
theorem d_Sg_nextThrow_14 : decode b_Sg_nextThrow 14 = .ok (.aload_n 0, 1) := by decide +kernel
theorem d_Sg_nextThrow_15 : decode b_Sg_nextThrow 15 = .ok (.getfield 12, 3) := by decide +kernel
theorem d_Sg_nextThrow_18 : decode b_Sg_nextThrow 18 = .ok (.iload_n 1, 1) := by decide +kernel
theorem d_Sg_nextThrow_19 : decode b_Sg_nextThrow 19 = .ok (.iload_n 3, 1) := by decide +kernel
theorem d_Sg_nextThrow_20 : decode b_Sg_nextThrow 20 = .ok (.invokevirtual 66, 3) := by decide +kernel
theorem d_Sg_nextThrow_23 : decode b_Sg_nextThrow 23 = .ok (.ifCond .le 5, 3) := by decide +kernel
theorem d_Sg_nextThrow_26 : decode b_Sg_nextThrow 26 = .ok (.iload_n 3, 1) := by decide +kernel
theorem d_Sg_nextThrow_27 : decode b_Sg_nextThrow 27 = .ok (.ireturn, 1) := by decide +kernel
theorem d_Sg_nextThrow_28 : decode b_Sg_nextThrow 28 = .ok (.iinc 3 1, 3) := by decide +kernel
theorem d_Sg_nextThrow_31 : decode b_Sg_nextThrow 31 = .ok (.goto (-29), 3) := by decide +kernel
theorem d_Sg_nextThrow_34 : decode b_Sg_nextThrow 34 = .ok (.iconst (-1), 1) := by decide +kernel
theorem d_Sg_nextThrow_35 : decode b_Sg_nextThrow 35 = .ok (.ireturn, 1) := by decide +kernel
theorem d_Sg_beatsUntilLanding_0 : decode b_Sg_beatsUntilLanding 0 = .ok (.aload_n 0, 1) := by decide +kernel
theorem d_Sg_beatsUntilLanding_1 : decode b_Sg_beatsUntilLanding 1 = .ok (.getfield 18, 3) := by decide +kernel
theorem d_Sg_beatsUntilLanding_4 : decode b_Sg_beatsUntilLanding 4 = .ok (.iload_n 1, 1) := by decide +kernel
theorem d_Sg_beatsUntilLanding_5 : decode b_Sg_beatsUntilLanding 5 = .ok (.iaload, 1) := by decide +kernel
theorem d_Sg_beatsUntilLanding_6 : decode b_Sg_beatsUntilLanding 6 = .ok (.aload_n 0, 1) := by decide +kernel
theorem d_Sg_beatsUntilLanding_7 : decode b_Sg_beatsUntilLanding 7 = .ok (.getfield 36, 3) := by decide +kernel
theorem d_Sg_beatsUntilLanding_10 : decode b_Sg_beatsUntilLanding 10 = .ok (.isub, 1) := by decide +kernel
theorem d_Sg_beatsUntilLanding_11 : decode b_Sg_beatsUntilLanding 11 = .ok (.ireturn, 1) := by decide +kernel
theorem d_Sg_landingHand_0 : decode b_Sg_landingHand 0 = .ok (.aload_n 0, 1) := by decide +kernel
theorem d_Sg_landingHand_1 : decode b_Sg_landingHand 1 = .ok (.getfield 22, 3) := by decide +kernel
theorem d_Sg_landingHand_4 : decode b_Sg_landingHand 4 = .ok (.iload_n 1, 1) := by decide +kernel
theorem d_Sg_landingHand_5 : decode b_Sg_landingHand 5 = .ok (.iaload, 1) := by decide +kernel
theorem d_Sg_landingHand_6 : decode b_Sg_landingHand 6 = .ok (.ireturn, 1) := by decide +kernel
theorem d_Sg_throwsMade_0 : decode b_Sg_throwsMade 0 = .ok (.aload_n 0, 1) := by decide +kernel
theorem d_Sg_throwsMade_1 : decode b_Sg_throwsMade 1 = .ok (.getfield 25, 3) := by decide +kernel
theorem d_Sg_throwsMade_4 : decode b_Sg_throwsMade 4 = .ok (.iload_n 1, 1) := by decide +kernel
theorem d_Sg_throwsMade_5 : decode b_Sg_throwsMade 5 = .ok (.iaload, 1) := by decide +kernel
theorem d_Sg_throwsMade_6 : decode b_Sg_throwsMade 6 = .ok (.ireturn, 1) := by decide +kernel
