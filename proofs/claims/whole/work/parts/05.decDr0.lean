theorem d_Dr_init_0 : decode b_Dr_init 0 = .ok (.aload_n 0, 1) := by decide +kernel
theorem d_Dr_init_1 : decode b_Dr_init 1 = .ok (.invokespecial 3, 3) := by decide +kernel
theorem d_Dr_init_4 : decode b_Dr_init 4 = .ok (.aload_n 0, 1) := by decide +kernel
theorem d_Dr_init_5 : decode b_Dr_init 5 = .ok (.bipush 48, 2) := by decide +kernel
theorem d_Dr_init_7 : decode b_Dr_init 7 = .ok (.newarray .int, 2) := by decide +kernel
theorem d_Dr_init_9 : decode b_Dr_init 9 = .ok (.putfield 9, 3) := by decide +kernel
theorem d_Dr_init_12 : decode b_Dr_init 12 = .ok (.aload_n 0, 1) := by decide +kernel
theorem d_Dr_init_13 : decode b_Dr_init 13 = .ok (.bipush 16, 2) := by decide +kernel
theorem d_Dr_init_15 : decode b_Dr_init 15 = .ok (.newarray .int, 2) := by decide +kernel
theorem d_Dr_init_17 : decode b_Dr_init 17 = .ok (.putfield 15, 3) := by decide +kernel
theorem d_Dr_init_20 : decode b_Dr_init 20 = .ok (.aload_n 0, 1) := by decide +kernel
theorem d_Dr_init_21 : decode b_Dr_init 21 = .ok (.bipush 16, 2) := by decide +kernel
theorem d_Dr_init_23 : decode b_Dr_init 23 = .ok (.newarray .int, 2) := by decide +kernel
theorem d_Dr_init_25 : decode b_Dr_init 25 = .ok (.putfield 18, 3) := by decide +kernel
theorem d_Dr_init_28 : decode b_Dr_init 28 = .ok (.aload_n 0, 1) := by decide +kernel
theorem d_Dr_init_29 : decode b_Dr_init 29 = .ok (.bipush 16, 2) := by decide +kernel
theorem d_Dr_init_31 : decode b_Dr_init 31 = .ok (.newarray .int, 2) := by decide +kernel
theorem d_Dr_init_33 : decode b_Dr_init 33 = .ok (.putfield 21, 3) := by decide +kernel
theorem d_Dr_init_36 : decode b_Dr_init 36 = .ok (.aload_n 0, 1) := by decide +kernel
theorem d_Dr_init_37 : decode b_Dr_init 37 = .ok (.iconst 0, 1) := by decide +kernel
theorem d_Dr_init_38 : decode b_Dr_init 38 = .ok (.putfield 24, 3) := by decide +kernel
theorem d_Dr_init_41 : decode b_Dr_init 41 = .ok (.aload_n 0, 1) := by decide +kernel
theorem d_Dr_init_42 : decode b_Dr_init 42 = .ok (.iconst 1, 1) := by decide +kernel
theorem d_Dr_init_43 : decode b_Dr_init 43 = .ok (.putfield 28, 3) := by decide +kernel
theorem d_Dr_init_46 : decode b_Dr_init 46 = .ok (.aload_n 0, 1) := by decide +kernel
theorem d_Dr_init_47 : decode b_Dr_init 47 = .ok (.getfield 15, 3) := by decide +kernel
theorem d_Dr_init_50 : decode b_Dr_init 50 = .ok (.iconst 0, 1) := by decide +kernel
theorem d_Dr_init_51 : decode b_Dr_init 51 = .ok (.iconst 1, 1) := by decide +kernel
theorem d_Dr_init_52 : decode b_Dr_init 52 = .ok (.iastore, 1) := by decide +kernel
theorem d_Dr_init_53 : decode b_Dr_init 53 = .ok (.return_, 1) := by decide +kernel
theorem d_Dr_isValid_0 : decode b_Dr_isValid 0 = .ok (.aload_n 0, 1) := by decide +kernel
theorem d_Dr_isValid_1 : decode b_Dr_isValid 1 = .ok (.invokevirtual 55, 3) := by decide +kernel
theorem d_Dr_isValid_4 : decode b_Dr_isValid 4 = .ok (.iconst (-1), 1) := by decide +kernel
theorem d_Dr_isValid_5 : decode b_Dr_isValid 5 = .ok (.if_icmp .ne 7, 3) := by decide +kernel
theorem d_Dr_isValid_8 : decode b_Dr_isValid 8 = .ok (.iconst 1, 1) := by decide +kernel
theorem d_Dr_isValid_9 : decode b_Dr_isValid 9 = .ok (.goto 4, 3) := by decide +kernel
theorem d_Dr_isValid_12 : decode b_Dr_isValid 12 = .ok (.iconst 0, 1) := by decide +kernel
theorem d_Dr_isValid_13 : decode b_Dr_isValid 13 = .ok (.ireturn, 1) := by decide +kernel
theorem d_Dr_firstClash_0 : decode b_Dr_firstClash 0 = .ok (.aload_n 0, 1) := by decide +kernel
theorem d_Dr_firstClash_1 : decode b_Dr_firstClash 1 = .ok (.getfield 21, 3) := by decide +kernel
theorem d_Dr_firstClash_4 : decode b_Dr_firstClash 4 = .ok (.iconst 0, 1) := by decide +kernel
theorem d_Dr_firstClash_5 : decode b_Dr_firstClash 5 = .ok (.invokestatic 31, 3) := by decide +kernel
theorem d_Dr_firstClash_8 : decode b_Dr_firstClash 8 = .ok (.aload_n 0, 1) := by decide +kernel
theorem d_Dr_firstClash_9 : decode b_Dr_firstClash 9 = .ok (.getfield 24, 3) := by decide +kernel
theorem d_Dr_firstClash_12 : decode b_Dr_firstClash 12 = .ok (.iconst 1, 1) := by decide +kernel
theorem d_Dr_firstClash_13 : decode b_Dr_firstClash 13 = .ok (.if_icmp .ne 10, 3) := by decide +kernel
theorem d_Dr_firstClash_16 : decode b_Dr_firstClash 16 = .ok (.aload_n 0, 1) := by decide +kernel
theorem d_Dr_firstClash_17 : decode b_Dr_firstClash 17 = .ok (.invokevirtual 63, 3) := by decide +kernel
theorem d_Dr_firstClash_20 : decode b_Dr_firstClash 20 = .ok (.goto 7, 3) := by decide +kernel
theorem d_Dr_firstClash_23 : decode b_Dr_firstClash 23 = .ok (.aload_n 0, 1) := by decide +kernel
theorem d_Dr_firstClash_24 : decode b_Dr_firstClash 24 = .ok (.invokevirtual 66, 3) := by decide +kernel
theorem d_Dr_firstClash_27 : decode b_Dr_firstClash 27 = .ok (.ireturn, 1) := by decide +kernel
theorem d_Dr_firstUneven_0 : decode b_Dr_firstUneven 0 = .ok (.iconst 0, 1) := by decide +kernel
theorem d_Dr_firstUneven_1 : decode b_Dr_firstUneven 1 = .ok (.istore_n 1, 1) := by decide +kernel
theorem d_Dr_firstUneven_2 : decode b_Dr_firstUneven 2 = .ok (.iload_n 1, 1) := by decide +kernel
theorem d_Dr_firstUneven_3 : decode b_Dr_firstUneven 3 = .ok (.aload_n 0, 1) := by decide +kernel
theorem d_Dr_firstUneven_4 : decode b_Dr_firstUneven 4 = .ok (.getfield 28, 3) := by decide +kernel
theorem d_Dr_firstUneven_7 : decode b_Dr_firstUneven 7 = .ok (.if_icmp .ge 63, 3) := by decide +kernel
theorem d_Dr_firstUneven_10 : decode b_Dr_firstUneven 10 = .ok (.iconst 0, 1) := by decide +kernel
theorem d_Dr_firstUneven_11 : decode b_Dr_firstUneven 11 = .ok (.istore_n 2, 1) := by decide +kernel
theorem d_Dr_firstUneven_12 : decode b_Dr_firstUneven 12 = .ok (.iload_n 2, 1) := by decide +kernel
theorem d_Dr_firstUneven_13 : decode b_Dr_firstUneven 13 = .ok (.aload_n 0, 1) := by decide +kernel
theorem d_Dr_firstUneven_14 : decode b_Dr_firstUneven 14 = .ok (.getfield 15, 3) := by decide +kernel
theorem d_Dr_firstUneven_17 : decode b_Dr_firstUneven 17 = .ok (.iload_n 1, 1) := by decide +kernel
theorem d_Dr_firstUneven_18 : decode b_Dr_firstUneven 18 = .ok (.iaload, 1) := by decide +kernel
theorem d_Dr_firstUneven_19 : decode b_Dr_firstUneven 19 = .ok (.if_icmp .ge 45, 3) := by decide +kernel
theorem d_Dr_firstUneven_22 : decode b_Dr_firstUneven 22 = .ok (.aload_n 0, 1) := by decide +kernel
theorem d_Dr_firstUneven_23 : decode b_Dr_firstUneven 23 = .ok (.iload_n 1, 1) := by decide +kernel
theorem d_Dr_firstUneven_24 : decode b_Dr_firstUneven 24 = .ok (.iload_n 2, 1) := by decide +kernel
theorem d_Dr_firstUneven_25 : decode b_Dr_firstUneven 25 = .ok (.invokevirtual 69, 3) := by decide +kernel
theorem d_Dr_firstUneven_28 : decode b_Dr_firstUneven 28 = .ok (.istore_n 3, 1) := by decide +kernel
theorem d_Dr_firstUneven_29 : decode b_Dr_firstUneven 29 = .ok (.iload_n 3, 1) := by decide +kernel
theorem d_Dr_firstUneven_30 : decode b_Dr_firstUneven 30 = .ok (.ifCond .le 28, 3) := by decide +kernel
theorem d_Dr_firstUneven_33 : decode b_Dr_firstUneven 33 = .ok (.aload_n 0, 1) := by decide +kernel
theorem d_Dr_firstUneven_34 : decode b_Dr_firstUneven 34 = .ok (.getfield 21, 3) := by decide +kernel
theorem d_Dr_firstUneven_37 : decode b_Dr_firstUneven 37 = .ok (.iload_n 1, 1) := by decide +kernel
theorem d_Dr_firstUneven_38 : decode b_Dr_firstUneven 38 = .ok (.dup2, 1) := by decide +kernel
theorem d_Dr_firstUneven_39 : decode b_Dr_firstUneven 39 = .ok (.iaload, 1) := by decide +kernel
theorem d_Dr_firstUneven_40 : decode b_Dr_firstUneven 40 = .ok (.iconst 1, 1) := by decide +kernel
theorem d_Dr_firstUneven_41 : decode b_Dr_firstUneven 41 = .ok (.isub, 1) := by decide +kernel
theorem d_Dr_firstUneven_42 : decode b_Dr_firstUneven 42 = .ok (.iastore, 1) := by decide +kernel
theorem d_Dr_firstUneven_43 : decode b_Dr_firstUneven 43 = .ok (.aload_n 0, 1) := by decide +kernel
theorem d_Dr_firstUneven_44 : decode b_Dr_firstUneven 44 = .ok (.getfield 21, 3) := by decide +kernel
theorem d_Dr_firstUneven_47 : decode b_Dr_firstUneven 47 = .ok (.aload_n 0, 1) := by decide +kernel
theorem d_Dr_firstUneven_48 : decode b_Dr_firstUneven 48 = .ok (.iload_n 1, 1) := by decide +kernel
theorem d_Dr_firstUneven_49 : decode b_Dr_firstUneven 49 = .ok (.iload_n 3, 1) := by decide +kernel
theorem d_Dr_firstUneven_50 : decode b_Dr_firstUneven 50 = .ok (.invokevirtual 72, 3) := by decide +kernel
theorem d_Dr_firstUneven_53 : decode b_Dr_firstUneven 53 = .ok (.dup2, 1) := by decide +kernel
theorem d_Dr_firstUneven_54 : decode b_Dr_firstUneven 54 = .ok (.iaload, 1) := by decide +kernel
theorem d_Dr_firstUneven_55 : decode b_Dr_firstUneven 55 = .ok (.iconst 1, 1) := by decide +kernel
theorem d_Dr_firstUneven_56 : decode b_Dr_firstUneven 56 = .ok (.iadd, 1) := by decide +kernel
theorem d_Dr_firstUneven_57 : decode b_Dr_firstUneven 57 = .ok (.iastore, 1) := by decide +kernel
theorem d_Dr_firstUneven_58 : decode b_Dr_firstUneven 58 = .ok (.iinc 2 1, 3) := by decide +kernel
theorem d_Dr_firstUneven_61 : decode b_Dr_firstUneven 61 = .ok (.goto (-49), 3) := by decide +kernel
theorem d_Dr_firstUneven_64 : decode b_Dr_firstUneven 64 = .ok (.iinc 1 1, 3) := by decide +kernel
theorem d_Dr_firstUneven_67 : decode b_Dr_firstUneven 67 = .ok (.goto (-65), 3) := by decide +kernel
theorem d_Dr_firstUneven_70 : decode b_Dr_firstUneven 70 = .ok (.iconst 0, 1) := by decide +kernel
theorem d_Dr_firstUneven_71 : decode b_Dr_firstUneven 71 = .ok (.istore_n 1, 1) := by decide +kernel
theorem d_Dr_firstUneven_72 : decode b_Dr_firstUneven 72 = .ok (.iload_n 1, 1) := by decide +kernel
theorem d_Dr_firstUneven_73 : decode b_Dr_firstUneven 73 = .ok (.aload_n 0, 1) := by decide +kernel
theorem d_Dr_firstUneven_74 : decode b_Dr_firstUneven 74 = .ok (.getfield 28, 3) := by decide +kernel
theorem d_Dr_firstUneven_77 : decode b_Dr_firstUneven 77 = .ok (.if_icmp .ge 20, 3) := by decide +kernel
theorem d_Dr_firstUneven_80 : decode b_Dr_firstUneven 80 = .ok (.aload_n 0, 1) := by decide +kernel
theorem d_Dr_firstUneven_81 : decode b_Dr_firstUneven 81 = .ok (.getfield 21, 3) := by decide +kernel
theorem d_Dr_firstUneven_84 : decode b_Dr_firstUneven 84 = .ok (.iload_n 1, 1) := by decide +kernel
theorem d_Dr_firstUneven_85 : decode b_Dr_firstUneven 85 = .ok (.iaload, 1) := by decide +kernel
theorem d_Dr_firstUneven_86 : decode b_Dr_firstUneven 86 = .ok (.ifCond .eq 5, 3) := by decide +kernel
theorem d_Dr_firstUneven_89 : decode b_Dr_firstUneven 89 = .ok (.iload_n 1, 1) := by decide +kernel
theorem d_Dr_firstUneven_90 : decode b_Dr_firstUneven 90 = .ok (.ireturn, 1) := by decide +kernel
theorem d_Dr_firstUneven_91 : decode b_Dr_firstUneven 91 = .ok (.iinc 1 1, 3) := by decide +kernel
theorem d_Dr_firstUneven_94 : decode b_Dr_firstUneven 94 = .ok (.goto (-22), 3) := by decide +kernel
theorem d_Dr_firstUneven_97 : decode b_Dr_firstUneven 97 = .ok (.iconst (-1), 1) := by decide +kernel
theorem d_Dr_firstUneven_98 : decode b_Dr_firstUneven 98 = .ok (.ireturn, 1) := by decide +kernel
theorem d_Dr_heightOf_0 : decode b_Dr_heightOf 0 = .ok (.aload_n 0, 1) := by decide +kernel
theorem d_Dr_heightOf_1 : decode b_Dr_heightOf 1 = .ok (.getfield 9, 3) := by decide +kernel
theorem d_Dr_heightOf_4 : decode b_Dr_heightOf 4 = .ok (.iload_n 1, 1) := by decide +kernel
theorem d_Dr_heightOf_5 : decode b_Dr_heightOf 5 = .ok (.iconst 3, 1) := by decide +kernel
theorem d_Dr_heightOf_6 : decode b_Dr_heightOf 6 = .ok (.imul, 1) := by decide +kernel
theorem d_Dr_heightOf_7 : decode b_Dr_heightOf 7 = .ok (.iload_n 2, 1) := by decide +kernel
theorem d_Dr_heightOf_8 : decode b_Dr_heightOf 8 = .ok (.iadd, 1) := by decide +kernel
theorem d_Dr_heightOf_9 : decode b_Dr_heightOf 9 = .ok (.iaload, 1) := by decide +kernel
theorem d_Dr_heightOf_10 : decode b_Dr_heightOf 10 = .ok (.ireturn, 1) := by decide +kernel
theorem d_Dr_landingSite_0 : decode b_Dr_landingSite 0 = .ok (.aload_n 0, 1) := by decide +kernel
theorem d_Dr_landingSite_1 : decode b_Dr_landingSite 1 = .ok (.getfield 24, 3) := by decide +kernel
theorem d_Dr_landingSite_4 : decode b_Dr_landingSite 4 = .ok (.iconst 2, 1) := by decide +kernel
theorem d_Dr_landingSite_5 : decode b_Dr_landingSite 5 = .ok (.if_icmp .eq 14, 3) := by decide +kernel
theorem d_Dr_landingSite_8 : decode b_Dr_landingSite 8 = .ok (.iload_n 1, 1) := by decide +kernel
theorem d_Dr_landingSite_9 : decode b_Dr_landingSite 9 = .ok (.iload_n 2, 1) := by decide +kernel
theorem d_Dr_landingSite_10 : decode b_Dr_landingSite 10 = .ok (.iadd, 1) := by decide +kernel
theorem d_Dr_landingSite_11 : decode b_Dr_landingSite 11 = .ok (.aload_n 0, 1) := by decide +kernel
theorem d_Dr_landingSite_12 : decode b_Dr_landingSite 12 = .ok (.getfield 28, 3) := by decide +kernel
theorem d_Dr_landingSite_15 : decode b_Dr_landingSite 15 = .ok (.invokestatic 43, 3) := by decide +kernel
theorem d_Dr_landingSite_18 : decode b_Dr_landingSite 18 = .ok (.ireturn, 1) := by decide +kernel
theorem d_Dr_landingSite_19 : decode b_Dr_landingSite 19 = .ok (.iload_n 1, 1) := by decide +kernel
theorem d_Dr_landingSite_20 : decode b_Dr_landingSite 20 = .ok (.iconst 2, 1) := by decide +kernel
theorem d_Dr_landingSite_21 : decode b_Dr_landingSite 21 = .ok (.invokestatic 43, 3) := by decide +kernel
theorem d_Dr_landingSite_24 : decode b_Dr_landingSite 24 = .ok (.istore_n 3, 1) := by decide +kernel
theorem d_Dr_landingSite_25 : decode b_Dr_landingSite 25 = .ok (.iload_n 1, 1) := by decide +kernel
theorem d_Dr_landingSite_26 : decode b_Dr_landingSite 26 = .ok (.iload_n 3, 1) := by decide +kernel
theorem d_Dr_landingSite_27 : decode b_Dr_landingSite 27 = .ok (.isub, 1) := by decide +kernel
theorem d_Dr_landingSite_28 : decode b_Dr_landingSite 28 = .ok (.iload_n 2, 1) := by decide +kernel
theorem d_Dr_landingSite_29 : decode b_Dr_landingSite 29 = .ok (.iadd, 1) := by decide +kernel
theorem d_Dr_landingSite_30 : decode b_Dr_landingSite 30 = .ok (.istore 4, 2) := by decide +kernel
theorem d_Dr_landingSite_32 : decode b_Dr_landingSite 32 = .ok (.iload 4, 2) := by decide +kernel
theorem d_Dr_landingSite_34 : decode b_Dr_landingSite 34 = .ok (.aload_n 0, 1) := by decide +kernel
theorem d_Dr_landingSite_35 : decode b_Dr_landingSite 35 = .ok (.getfield 28, 3) := by decide +kernel
theorem d_Dr_landingSite_38 : decode b_Dr_landingSite 38 = .ok (.invokestatic 43, 3) := by decide +kernel
theorem d_Dr_landingSite_41 : decode b_Dr_landingSite 41 = .ok (.aload_n 0, 1) := by decide +kernel
theorem d_Dr_landingSite_42 : decode b_Dr_landingSite 42 = .ok (.iload_n 1, 1) := by decide +kernel
theorem d_Dr_landingSite_43 : decode b_Dr_landingSite 43 = .ok (.iload_n 3, 1) := by decide +kernel
theorem d_Dr_landingSite_44 : decode b_Dr_landingSite 44 = .ok (.iload 4, 2) := by decide +kernel
theorem d_Dr_landingSite_46 : decode b_Dr_landingSite 46 = .ok (.invokevirtual 51, 3) := by decide +kernel
theorem d_Dr_landingSite_49 : decode b_Dr_landingSite 49 = .ok (.iadd, 1) := by decide +kernel
theorem d_Dr_landingSite_50 : decode b_Dr_landingSite 50 = .ok (.ireturn, 1) := by decide +kernel
theorem d_Dr_landingHand_0 : decode b_Dr_landingHand 0 = .ok (.aload_n 0, 1) := by decide +kernel
theorem d_Dr_landingHand_1 : decode b_Dr_landingHand 1 = .ok (.getfield 24, 3) := by decide +kernel
theorem d_Dr_landingHand_4 : decode b_Dr_landingHand 4 = .ok (.iconst 2, 1) := by decide +kernel
theorem d_Dr_landingHand_5 : decode b_Dr_landingHand 5 = .ok (.if_icmp .eq 9, 3) := by decide +kernel
theorem d_Dr_landingHand_8 : decode b_Dr_landingHand 8 = .ok (.iload_n 3, 1) := by decide +kernel
theorem d_Dr_landingHand_9 : decode b_Dr_landingHand 9 = .ok (.iconst 2, 1) := by decide +kernel
theorem d_Dr_landingHand_10 : decode b_Dr_landingHand 10 = .ok (.invokestatic 43, 3) := by decide +kernel
theorem d_Dr_landingHand_13 : decode b_Dr_landingHand 13 = .ok (.ireturn, 1) := by decide +kernel
theorem d_Dr_landingHand_14 : decode b_Dr_landingHand 14 = .ok (.aload_n 0, 1) := by decide +kernel
theorem d_Dr_landingHand_15 : decode b_Dr_landingHand 15 = .ok (.getfield 18, 3) := by decide +kernel
theorem d_Dr_landingHand_18 : decode b_Dr_landingHand 18 = .ok (.iload_n 1, 1) := by decide +kernel
theorem d_Dr_landingHand_19 : decode b_Dr_landingHand 19 = .ok (.iaload, 1) := by decide +kernel
theorem d_Dr_landingHand_20 : decode b_Dr_landingHand 20 = .ok (.ifCond .eq 9, 3) := by decide +kernel
theorem d_Dr_landingHand_23 : decode b_Dr_landingHand 23 = .ok (.iconst 1, 1) := by decide +kernel
theorem d_Dr_landingHand_24 : decode b_Dr_landingHand 24 = .ok (.iload_n 2, 1) := by decide +kernel
theorem d_Dr_landingHand_25 : decode b_Dr_landingHand 25 = .ok (.isub, 1) := by decide +kernel
theorem d_Dr_landingHand_26 : decode b_Dr_landingHand 26 = .ok (.goto 4, 3) := by decide +kernel
theorem d_Dr_landingHand_29 : decode b_Dr_landingHand 29 = .ok (.iload_n 2, 1) := by decide +kernel
theorem d_Dr_landingHand_30 : decode b_Dr_landingHand 30 = .ok (.ireturn, 1) := by decide +kernel
theorem d_Dr_firstMeeting_0 : decode b_Dr_firstMeeting 0 = .ok (.iconst 0, 1) := by decide +kernel
theorem d_Dr_firstMeeting_1 : decode b_Dr_firstMeeting 1 = .ok (.istore_n 1, 1) := by decide +kernel
theorem d_Dr_firstMeeting_2 : decode b_Dr_firstMeeting 2 = .ok (.iload_n 1, 1) := by decide +kernel
theorem d_Dr_firstMeeting_3 : decode b_Dr_firstMeeting 3 = .ok (.aload_n 0, 1) := by decide +kernel
theorem d_Dr_firstMeeting_4 : decode b_Dr_firstMeeting 4 = .ok (.getfield 28, 3) := by decide +kernel
theorem d_Dr_firstMeeting_7 : decode b_Dr_firstMeeting 7 = .ok (.if_icmp .ge 44, 3) := by decide +kernel
theorem d_Dr_firstMeeting_10 : decode b_Dr_firstMeeting 10 = .ok (.aload_n 0, 1) := by decide +kernel
theorem d_Dr_firstMeeting_11 : decode b_Dr_firstMeeting 11 = .ok (.iload_n 1, 1) := by decide +kernel
theorem d_Dr_firstMeeting_12 : decode b_Dr_firstMeeting 12 = .ok (.invokevirtual 75, 3) := by decide +kernel
theorem d_Dr_firstMeeting_15 : decode b_Dr_firstMeeting 15 = .ok (.istore_n 2, 1) := by decide +kernel
theorem d_Dr_firstMeeting_16 : decode b_Dr_firstMeeting 16 = .ok (.iload_n 2, 1) := by decide +kernel
theorem d_Dr_firstMeeting_17 : decode b_Dr_firstMeeting 17 = .ok (.ifCond .le 28, 3) := by decide +kernel
theorem d_Dr_firstMeeting_20 : decode b_Dr_firstMeeting 20 = .ok (.aload_n 0, 1) := by decide +kernel
theorem d_Dr_firstMeeting_21 : decode b_Dr_firstMeeting 21 = .ok (.iload_n 1, 1) := by decide +kernel
theorem d_Dr_firstMeeting_22 : decode b_Dr_firstMeeting 22 = .ok (.iload_n 2, 1) := by decide +kernel
theorem d_Dr_firstMeeting_23 : decode b_Dr_firstMeeting 23 = .ok (.invokevirtual 72, 3) := by decide +kernel
theorem d_Dr_firstMeeting_26 : decode b_Dr_firstMeeting 26 = .ok (.istore_n 3, 1) := by decide +kernel
theorem d_Dr_firstMeeting_27 : decode b_Dr_firstMeeting 27 = .ok (.aload_n 0, 1) := by decide +kernel
theorem d_Dr_firstMeeting_28 : decode b_Dr_firstMeeting 28 = .ok (.getfield 21, 3) := by decide +kernel
theorem d_Dr_firstMeeting_31 : decode b_Dr_firstMeeting 31 = .ok (.iload_n 3, 1) := by decide +kernel
theorem d_Dr_firstMeeting_32 : decode b_Dr_firstMeeting 32 = .ok (.iaload, 1) := by decide +kernel
theorem d_Dr_firstMeeting_33 : decode b_Dr_firstMeeting 33 = .ok (.ifCond .eq 5, 3) := by decide +kernel
theorem d_Dr_firstMeeting_36 : decode b_Dr_firstMeeting 36 = .ok (.iload_n 1, 1) := by decide +kernel
theorem d_Dr_firstMeeting_37 : decode b_Dr_firstMeeting 37 = .ok (.ireturn, 1) := by decide +kernel
theorem d_Dr_firstMeeting_38 : decode b_Dr_firstMeeting 38 = .ok (.aload_n 0, 1) := by decide +kernel
theorem d_Dr_firstMeeting_39 : decode b_Dr_firstMeeting 39 = .ok (.getfield 21, 3) := by decide +kernel
theorem d_Dr_firstMeeting_42 : decode b_Dr_firstMeeting 42 = .ok (.iload_n 3, 1) := by decide +kernel
theorem d_Dr_firstMeeting_43 : decode b_Dr_firstMeeting 43 = .ok (.iconst 1, 1) := by decide +kernel
theorem d_Dr_firstMeeting_44 : decode b_Dr_firstMeeting 44 = .ok (.iastore, 1) := by decide +kernel
theorem d_Dr_firstMeeting_45 : decode b_Dr_firstMeeting 45 = .ok (.iinc 1 1, 3) := by decide +kernel
theorem d_Dr_firstMeeting_48 : decode b_Dr_firstMeeting 48 = .ok (.goto (-46), 3) := by decide +kernel
theorem d_Dr_firstMeeting_51 : decode b_Dr_firstMeeting 51 = .ok (.iconst 0, 1) := by decide +kernel
theorem d_Dr_firstMeeting_52 : decode b_Dr_firstMeeting 52 = .ok (.istore_n 1, 1) := by decide +kernel
theorem d_Dr_firstMeeting_53 : decode b_Dr_firstMeeting 53 = .ok (.iload_n 1, 1) := by decide +kernel
theorem d_Dr_firstMeeting_54 : decode b_Dr_firstMeeting 54 = .ok (.aload_n 0, 1) := by decide +kernel
theorem d_Dr_firstMeeting_55 : decode b_Dr_firstMeeting 55 = .ok (.getfield 28, 3) := by decide +kernel
theorem d_Dr_firstMeeting_58 : decode b_Dr_firstMeeting 58 = .ok (.if_icmp .ge 28, 3) := by decide +kernel
theorem d_Dr_firstMeeting_61 : decode b_Dr_firstMeeting 61 = .ok (.aload_n 0, 1) := by decide +kernel
theorem d_Dr_firstMeeting_62 : decode b_Dr_firstMeeting 62 = .ok (.iload_n 1, 1) := by decide +kernel
theorem d_Dr_firstMeeting_63 : decode b_Dr_firstMeeting 63 = .ok (.invokevirtual 75, 3) := by decide +kernel
theorem d_Dr_firstMeeting_66 : decode b_Dr_firstMeeting 66 = .ok (.ifCond .ne 14, 3) := by decide +kernel
theorem d_Dr_firstMeeting_69 : decode b_Dr_firstMeeting 69 = .ok (.aload_n 0, 1) := by decide +kernel
theorem d_Dr_firstMeeting_70 : decode b_Dr_firstMeeting 70 = .ok (.getfield 21, 3) := by decide +kernel
theorem d_Dr_firstMeeting_73 : decode b_Dr_firstMeeting 73 = .ok (.iload_n 1, 1) := by decide +kernel
theorem d_Dr_firstMeeting_74 : decode b_Dr_firstMeeting 74 = .ok (.iaload, 1) := by decide +kernel
theorem d_Dr_firstMeeting_75 : decode b_Dr_firstMeeting 75 = .ok (.ifCond .eq 5, 3) := by decide +kernel
theorem d_Dr_firstMeeting_78 : decode b_Dr_firstMeeting 78 = .ok (.iload_n 1, 1) := by decide +kernel
theorem d_Dr_firstMeeting_79 : decode b_Dr_firstMeeting 79 = .ok (.ireturn, 1) := by decide +kernel
theorem d_Dr_firstMeeting_80 : decode b_Dr_firstMeeting 80 = .ok (.iinc 1 1, 3) := by decide +kernel
theorem d_Dr_firstMeeting_83 : decode b_Dr_firstMeeting 83 = .ok (.goto (-30), 3) := by decide +kernel
theorem d_Dr_firstMeeting_86 : decode b_Dr_firstMeeting 86 = .ok (.iconst (-1), 1) := by decide +kernel
theorem d_Dr_firstMeeting_87 : decode b_Dr_firstMeeting 87 = .ok (.ireturn, 1) := by decide +kernel
theorem d_Dr_firstHeight_0 : decode b_Dr_firstHeight 0 = .ok (.aload_n 0, 1) := by decide +kernel
theorem d_Dr_firstHeight_1 : decode b_Dr_firstHeight 1 = .ok (.getfield 9, 3) := by decide +kernel
theorem d_Dr_firstHeight_4 : decode b_Dr_firstHeight 4 = .ok (.iload_n 1, 1) := by decide +kernel
theorem d_Dr_firstHeight_5 : decode b_Dr_firstHeight 5 = .ok (.aload_n 0, 1) := by decide +kernel
theorem d_Dr_firstHeight_6 : decode b_Dr_firstHeight 6 = .ok (.getfield 28, 3) := by decide +kernel
theorem d_Dr_firstHeight_9 : decode b_Dr_firstHeight 9 = .ok (.invokestatic 43, 3) := by decide +kernel
theorem d_Dr_firstHeight_12 : decode b_Dr_firstHeight 12 = .ok (.iconst 3, 1) := by decide +kernel
theorem d_Dr_firstHeight_13 : decode b_Dr_firstHeight 13 = .ok (.imul, 1) := by decide +kernel
theorem d_Dr_firstHeight_14 : decode b_Dr_firstHeight 14 = .ok (.iaload, 1) := by decide +kernel
theorem d_Dr_firstHeight_15 : decode b_Dr_firstHeight 15 = .ok (.ireturn, 1) := by decide +kernel
theorem d_Dr_clear_0 : decode b_Dr_clear 0 = .ok (.aload_n 0, 1) := by decide +kernel
theorem d_Dr_clear_1 : decode b_Dr_clear 1 = .ok (.iload_n 1, 1) := by decide +kernel
theorem d_Dr_clear_2 : decode b_Dr_clear 2 = .ok (.putfield 24, 3) := by decide +kernel
theorem d_Dr_clear_5 : decode b_Dr_clear 5 = .ok (.aload_n 0, 1) := by decide +kernel
theorem d_Dr_clear_6 : decode b_Dr_clear 6 = .ok (.iload_n 2, 1) := by decide +kernel
theorem d_Dr_clear_7 : decode b_Dr_clear 7 = .ok (.putfield 28, 3) := by decide +kernel
theorem d_Dr_clear_10 : decode b_Dr_clear 10 = .ok (.aload_n 0, 1) := by decide +kernel
theorem d_Dr_clear_11 : decode b_Dr_clear 11 = .ok (.getfield 9, 3) := by decide +kernel
theorem d_Dr_clear_14 : decode b_Dr_clear 14 = .ok (.iconst 0, 1) := by decide +kernel
theorem d_Dr_clear_15 : decode b_Dr_clear 15 = .ok (.invokestatic 31, 3) := by decide +kernel
theorem d_Dr_clear_18 : decode b_Dr_clear 18 = .ok (.aload_n 0, 1) := by decide +kernel
theorem d_Dr_clear_19 : decode b_Dr_clear 19 = .ok (.getfield 15, 3) := by decide +kernel
theorem d_Dr_clear_22 : decode b_Dr_clear 22 = .ok (.iconst 1, 1) := by decide +kernel
theorem d_Dr_clear_23 : decode b_Dr_clear 23 = .ok (.invokestatic 31, 3) := by decide +kernel
theorem d_Dr_clear_26 : decode b_Dr_clear 26 = .ok (.aload_n 0, 1) := by decide +kernel
theorem d_Dr_clear_27 : decode b_Dr_clear 27 = .ok (.getfield 18, 3) := by decide +kernel
theorem d_Dr_clear_30 : decode b_Dr_clear 30 = .ok (.iconst 0, 1) := by decide +kernel
theorem d_Dr_clear_31 : decode b_Dr_clear 31 = .ok (.invokestatic 31, 3) := by decide +kernel
theorem d_Dr_clear_34 : decode b_Dr_clear 34 = .ok (.return_, 1) := by decide +kernel
theorem d_Dr_hasSite_0 : decode b_Dr_hasSite 0 = .ok (.iload_n 1, 1) := by decide +kernel
theorem d_Dr_hasSite_1 : decode b_Dr_hasSite 1 = .ok (.ifCond .lt 15, 3) := by decide +kernel
theorem d_Dr_hasSite_4 : decode b_Dr_hasSite 4 = .ok (.iload_n 1, 1) := by decide +kernel
theorem d_Dr_hasSite_5 : decode b_Dr_hasSite 5 = .ok (.aload_n 0, 1) := by decide +kernel
theorem d_Dr_hasSite_6 : decode b_Dr_hasSite 6 = .ok (.getfield 28, 3) := by decide +kernel
theorem d_Dr_hasSite_9 : decode b_Dr_hasSite 9 = .ok (.if_icmp .ge 7, 3) := by decide +kernel
theorem d_Dr_hasSite_12 : decode b_Dr_hasSite 12 = .ok (.iconst 1, 1) := by decide +kernel
theorem d_Dr_hasSite_13 : decode b_Dr_hasSite 13 = .ok (.goto 4, 3) := by decide +kernel
theorem d_Dr_hasSite_16 : decode b_Dr_hasSite 16 = .ok (.iconst 0, 1) := by decide +kernel
theorem d_Dr_hasSite_17 : decode b_Dr_hasSite 17 = .ok (.ireturn, 1) := by decide +kernel
theorem d_Dr_setFirst_0 : decode b_Dr_setFirst 0 = .ok (.aload_n 0, 1) := by decide +kernel
theorem d_Dr_setFirst_1 : decode b_Dr_setFirst 1 = .ok (.getfield 9, 3) := by decide +kernel
theorem d_Dr_setFirst_4 : decode b_Dr_setFirst 4 = .ok (.iload_n 1, 1) := by decide +kernel
theorem d_Dr_setFirst_5 : decode b_Dr_setFirst 5 = .ok (.iconst 3, 1) := by decide +kernel
theorem d_Dr_setFirst_6 : decode b_Dr_setFirst 6 = .ok (.imul, 1) := by decide +kernel
theorem d_Dr_setFirst_7 : decode b_Dr_setFirst 7 = .ok (.iload_n 2, 1) := by decide +kernel
theorem d_Dr_setFirst_8 : decode b_Dr_setFirst 8 = .ok (.iastore, 1) := by decide +kernel
theorem d_Dr_setFirst_9 : decode b_Dr_setFirst 9 = .ok (.aload_n 0, 1) := by decide +kernel
theorem d_Dr_setFirst_10 : decode b_Dr_setFirst 10 = .ok (.getfield 18, 3) := by decide +kernel
theorem d_Dr_setFirst_13 : decode b_Dr_setFirst 13 = .ok (.iload_n 1, 1) := by decide +kernel
theorem d_Dr_setFirst_14 : decode b_Dr_setFirst 14 = .ok (.iload_n 3, 1) := by decide +kernel
theorem d_Dr_setFirst_15 : decode b_Dr_setFirst 15 = .ok (.ifCond .eq 8, 3) := by decide +kernel
theorem d_Dr_setFirst_18 : decode b_Dr_setFirst 18 = .ok (.bipush 16, 2) := by decide +kernel
theorem d_Dr_setFirst_20 : decode b_Dr_setFirst 20 = .ok (.goto 4, 3) := by decide +kernel
theorem d_Dr_setFirst_23 : decode b_Dr_setFirst 23 = .ok (.iconst 0, 1) := by decide +kernel
theorem d_Dr_setFirst_24 : decode b_Dr_setFirst 24 = .ok (.iastore, 1) := by decide +kernel
theorem d_Dr_setFirst_25 : decode b_Dr_setFirst 25 = .ok (.return_, 1) := by decide +kernel
theorem d_Dr_throwsOf_0 : decode b_Dr_throwsOf 0 = .ok (.aload_n 0, 1) := by decide +kernel
theorem d_Dr_throwsOf_1 : decode b_Dr_throwsOf 1 = .ok (.getfield 15, 3) := by decide +kernel
theorem d_Dr_throwsOf_4 : decode b_Dr_throwsOf 4 = .ok (.iload_n 1, 1) := by decide +kernel
theorem d_Dr_throwsOf_5 : decode b_Dr_throwsOf 5 = .ok (.iaload, 1) := by decide +kernel
theorem d_Dr_throwsOf_6 : decode b_Dr_throwsOf 6 = .ok (.ireturn, 1) := by decide +kernel
theorem d_Dr_append_0 : decode b_Dr_append 0 = .ok (.aload_n 0, 1) := by decide +kernel
theorem d_Dr_append_1 : decode b_Dr_append 1 = .ok (.getfield 9, 3) := by decide +kernel
theorem d_Dr_append_4 : decode b_Dr_append 4 = .ok (.iload_n 1, 1) := by decide +kernel
theorem d_Dr_append_5 : decode b_Dr_append 5 = .ok (.iconst 3, 1) := by decide +kernel
theorem d_Dr_append_6 : decode b_Dr_append 6 = .ok (.imul, 1) := by decide +kernel
theorem d_Dr_append_7 : decode b_Dr_append 7 = .ok (.aload_n 0, 1) := by decide +kernel
theorem d_Dr_append_8 : decode b_Dr_append 8 = .ok (.getfield 15, 3) := by decide +kernel
theorem d_Dr_append_11 : decode b_Dr_append 11 = .ok (.iload_n 1, 1) := by decide +kernel
theorem d_Dr_append_12 : decode b_Dr_append 12 = .ok (.iaload, 1) := by decide +kernel
theorem d_Dr_append_13 : decode b_Dr_append 13 = .ok (.iadd, 1) := by decide +kernel
theorem d_Dr_append_14 : decode b_Dr_append 14 = .ok (.iload_n 2, 1) := by decide +kernel
theorem d_Dr_append_15 : decode b_Dr_append 15 = .ok (.iastore, 1) := by decide +kernel
theorem d_Dr_append_16 : decode b_Dr_append 16 = .ok (.aload_n 0, 1) := by decide +kernel
theorem d_Dr_append_17 : decode b_Dr_append 17 = .ok (.getfield 15, 3) := by decide +kernel
theorem d_Dr_append_20 : decode b_Dr_append 20 = .ok (.iload_n 1, 1) := by decide +kernel
theorem d_Dr_append_21 : decode b_Dr_append 21 = .ok (.dup2, 1) := by decide +kernel
theorem d_Dr_append_22 : decode b_Dr_append 22 = .ok (.iaload, 1) := by decide +kernel
theorem d_Dr_append_23 : decode b_Dr_append 23 = .ok (.iconst 1, 1) := by decide +kernel
theorem d_Dr_append_24 : decode b_Dr_append 24 = .ok (.iadd, 1) := by decide +kernel
theorem d_Dr_append_25 : decode b_Dr_append 25 = .ok (.iastore, 1) := by decide +kernel
theorem d_Dr_append_26 : decode b_Dr_append 26 = .ok (.aload_n 0, 1) := by decide +kernel
theorem d_Dr_append_27 : decode b_Dr_append 27 = .ok (.getfield 15, 3) := by decide +kernel
theorem d_Dr_append_30 : decode b_Dr_append 30 = .ok (.iload_n 1, 1) := by decide +kernel
theorem d_Dr_append_31 : decode b_Dr_append 31 = .ok (.iaload, 1) := by decide +kernel
theorem d_Dr_append_32 : decode b_Dr_append 32 = .ok (.ireturn, 1) := by decide +kernel
theorem d_Dr_ballCount_0 : decode b_Dr_ballCount 0 = .ok (.iconst 0, 1) := by decide +kernel
theorem d_Dr_ballCount_1 : decode b_Dr_ballCount 1 = .ok (.istore_n 1, 1) := by decide +kernel
theorem d_Dr_ballCount_2 : decode b_Dr_ballCount 2 = .ok (.iconst 0, 1) := by decide +kernel
theorem d_Dr_ballCount_3 : decode b_Dr_ballCount 3 = .ok (.istore_n 2, 1) := by decide +kernel
theorem d_Dr_ballCount_4 : decode b_Dr_ballCount 4 = .ok (.iload_n 2, 1) := by decide +kernel
theorem d_Dr_ballCount_5 : decode b_Dr_ballCount 5 = .ok (.aload_n 0, 1) := by decide +kernel
theorem d_Dr_ballCount_6 : decode b_Dr_ballCount 6 = .ok (.getfield 28, 3) := by decide +kernel
theorem d_Dr_ballCount_9 : decode b_Dr_ballCount 9 = .ok (.if_icmp .ge 36, 3) := by decide +kernel
theorem d_Dr_ballCount_12 : decode b_Dr_ballCount 12 = .ok (.iconst 0, 1) := by decide +kernel
theorem d_Dr_ballCount_13 : decode b_Dr_ballCount 13 = .ok (.istore_n 3, 1) := by decide +kernel
theorem d_Dr_ballCount_14 : decode b_Dr_ballCount 14 = .ok (.iload_n 3, 1) := by decide +kernel
theorem d_Dr_ballCount_15 : decode b_Dr_ballCount 15 = .ok (.aload_n 0, 1) := by decide +kernel
theorem d_Dr_ballCount_16 : decode b_Dr_ballCount 16 = .ok (.getfield 15, 3) := by decide +kernel
theorem d_Dr_ballCount_19 : decode b_Dr_ballCount 19 = .ok (.iload_n 2, 1) := by decide +kernel
theorem d_Dr_ballCount_20 : decode b_Dr_ballCount 20 = .ok (.iaload, 1) := by decide +kernel
theorem d_Dr_ballCount_21 : decode b_Dr_ballCount 21 = .ok (.if_icmp .ge 18, 3) := by decide +kernel
theorem d_Dr_ballCount_24 : decode b_Dr_ballCount 24 = .ok (.iload_n 1, 1) := by decide +kernel
theorem d_Dr_ballCount_25 : decode b_Dr_ballCount 25 = .ok (.aload_n 0, 1) := by decide +kernel
theorem d_Dr_ballCount_26 : decode b_Dr_ballCount 26 = .ok (.iload_n 2, 1) := by decide +kernel
theorem d_Dr_ballCount_27 : decode b_Dr_ballCount 27 = .ok (.iload_n 3, 1) := by decide +kernel
theorem d_Dr_ballCount_28 : decode b_Dr_ballCount 28 = .ok (.invokevirtual 69, 3) := by decide +kernel
theorem d_Dr_ballCount_31 : decode b_Dr_ballCount 31 = .ok (.iadd, 1) := by decide +kernel
theorem d_Dr_ballCount_32 : decode b_Dr_ballCount 32 = .ok (.istore_n 1, 1) := by decide +kernel
theorem d_Dr_ballCount_33 : decode b_Dr_ballCount 33 = .ok (.iinc 3 1, 3) := by decide +kernel
theorem d_Dr_ballCount_36 : decode b_Dr_ballCount 36 = .ok (.goto (-22), 3) := by decide +kernel
theorem d_Dr_ballCount_39 : decode b_Dr_ballCount 39 = .ok (.iinc 2 1, 3) := by decide +kernel
theorem d_Dr_ballCount_42 : decode b_Dr_ballCount 42 = .ok (.goto (-38), 3) := by decide +kernel
theorem d_Dr_ballCount_45 : decode b_Dr_ballCount 45 = .ok (.aload_n 0, 1) := by decide +kernel
theorem d_Dr_ballCount_46 : decode b_Dr_ballCount 46 = .ok (.getfield 28, 3) := by decide +kernel
theorem d_Dr_ballCount_49 : decode b_Dr_ballCount 49 = .ok (.iconst 1, 1) := by decide +kernel
theorem d_Dr_ballCount_50 : decode b_Dr_ballCount 50 = .ok (.if_icmp .ge 7, 3) := by decide +kernel
theorem d_Dr_ballCount_53 : decode b_Dr_ballCount 53 = .ok (.iconst 0, 1) := by decide +kernel
theorem d_Dr_ballCount_54 : decode b_Dr_ballCount 54 = .ok (.goto 9, 3) := by decide +kernel
theorem d_Dr_ballCount_57 : decode b_Dr_ballCount 57 = .ok (.iload_n 1, 1) := by decide +kernel
theorem d_Dr_ballCount_58 : decode b_Dr_ballCount 58 = .ok (.aload_n 0, 1) := by decide +kernel
theorem d_Dr_ballCount_59 : decode b_Dr_ballCount 59 = .ok (.getfield 28, 3) := by decide +kernel
theorem d_Dr_ballCount_62 : decode b_Dr_ballCount 62 = .ok (.idiv, 1) := by decide +kernel
theorem d_Dr_ballCount_63 : decode b_Dr_ballCount 63 = .ok (.ireturn, 1) := by decide +kernel
theorem d_Dr_stateBefore_0 : decode b_Dr_stateBefore 0 = .ok (.iconst 0, 1) := by decide +kernel
theorem d_Dr_stateBefore_1 : decode b_Dr_stateBefore 1 = .ok (.istore_n 2, 1) := by decide +kernel
theorem d_Dr_stateBefore_2 : decode b_Dr_stateBefore 2 = .ok (.iconst 1, 1) := by decide +kernel
theorem d_Dr_stateBefore_3 : decode b_Dr_stateBefore 3 = .ok (.istore_n 3, 1) := by decide +kernel
theorem d_Dr_stateBefore_4 : decode b_Dr_stateBefore 4 = .ok (.iload_n 3, 1) := by decide +kernel
theorem d_Dr_stateBefore_5 : decode b_Dr_stateBefore 5 = .ok (.bipush 9, 2) := by decide +kernel
theorem d_Dr_stateBefore_7 : decode b_Dr_stateBefore 7 = .ok (.if_icmp .gt 32, 3) := by decide +kernel
theorem d_Dr_stateBefore_10 : decode b_Dr_stateBefore 10 = .ok (.aload_n 0, 1) := by decide +kernel
theorem d_Dr_stateBefore_11 : decode b_Dr_stateBefore 11 = .ok (.iload_n 1, 1) := by decide +kernel
theorem d_Dr_stateBefore_12 : decode b_Dr_stateBefore 12 = .ok (.iload_n 3, 1) := by decide +kernel
theorem d_Dr_stateBefore_13 : decode b_Dr_stateBefore 13 = .ok (.isub, 1) := by decide +kernel
theorem d_Dr_stateBefore_14 : decode b_Dr_stateBefore 14 = .ok (.invokevirtual 75, 3) := by decide +kernel
theorem d_Dr_stateBefore_17 : decode b_Dr_stateBefore 17 = .ok (.iload_n 3, 1) := by decide +kernel
theorem d_Dr_stateBefore_18 : decode b_Dr_stateBefore 18 = .ok (.isub, 1) := by decide +kernel
theorem d_Dr_stateBefore_19 : decode b_Dr_stateBefore 19 = .ok (.istore 4, 2) := by decide +kernel
theorem d_Dr_stateBefore_21 : decode b_Dr_stateBefore 21 = .ok (.iload 4, 2) := by decide +kernel
theorem d_Dr_stateBefore_23 : decode b_Dr_stateBefore 23 = .ok (.ifCond .lt 10, 3) := by decide +kernel
theorem d_Dr_stateBefore_26 : decode b_Dr_stateBefore 26 = .ok (.iload_n 2, 1) := by decide +kernel
theorem d_Dr_stateBefore_27 : decode b_Dr_stateBefore 27 = .ok (.iconst 1, 1) := by decide +kernel
theorem d_Dr_stateBefore_28 : decode b_Dr_stateBefore 28 = .ok (.iload 4, 2) := by decide +kernel
theorem d_Dr_stateBefore_30 : decode b_Dr_stateBefore 30 = .ok (.ishl, 1) := by decide +kernel
theorem d_Dr_stateBefore_31 : decode b_Dr_stateBefore 31 = .ok (.ior, 1) := by decide +kernel
theorem d_Dr_stateBefore_32 : decode b_Dr_stateBefore 32 = .ok (.istore_n 2, 1) := by decide +kernel
theorem d_Dr_stateBefore_33 : decode b_Dr_stateBefore 33 = .ok (.iinc 3 1, 3) := by decide +kernel
theorem d_Dr_stateBefore_36 : decode b_Dr_stateBefore 36 = .ok (.goto (-32), 3) := by decide +kernel
theorem d_Dr_stateBefore_39 : decode b_Dr_stateBefore 39 = .ok (.iload_n 2, 1) := by decide +kernel
theorem d_Dr_stateBefore_40 : decode b_Dr_stateBefore 40 = .ok (.ireturn, 1) := by decide +kernel
theorem d_Dr_swapLandings_0 : decode b_Dr_swapLandings 0 = .ok (.aload_n 0, 1) := by decide +kernel
theorem d_Dr_swapLandings_1 : decode b_Dr_swapLandings 1 = .ok (.iload_n 2, 1) := by decide +kernel
theorem d_Dr_swapLandings_2 : decode b_Dr_swapLandings 2 = .ok (.invokevirtual 75, 3) := by decide +kernel
theorem d_Dr_swapLandings_5 : decode b_Dr_swapLandings 5 = .ok (.iload_n 2, 1) := by decide +kernel
theorem d_Dr_swapLandings_6 : decode b_Dr_swapLandings 6 = .ok (.iadd, 1) := by decide +kernel
theorem d_Dr_swapLandings_7 : decode b_Dr_swapLandings 7 = .ok (.iload_n 1, 1) := by decide +kernel
theorem d_Dr_swapLandings_8 : decode b_Dr_swapLandings 8 = .ok (.isub, 1) := by decide +kernel
theorem d_Dr_swapLandings_9 : decode b_Dr_swapLandings 9 = .ok (.istore_n 3, 1) := by decide +kernel
theorem d_Dr_swapLandings_10 : decode b_Dr_swapLandings 10 = .ok (.aload_n 0, 1) := by decide +kernel
theorem d_Dr_swapLandings_11 : decode b_Dr_swapLandings 11 = .ok (.iload_n 1, 1) := by decide +kernel
theorem d_Dr_swapLandings_12 : decode b_Dr_swapLandings 12 = .ok (.invokevirtual 75, 3) := by decide +kernel
theorem d_Dr_swapLandings_15 : decode b_Dr_swapLandings 15 = .ok (.iload_n 1, 1) := by decide +kernel
theorem d_Dr_swapLandings_16 : decode b_Dr_swapLandings 16 = .ok (.iadd, 1) := by decide +kernel
theorem d_Dr_swapLandings_17 : decode b_Dr_swapLandings 17 = .ok (.iload_n 2, 1) := by decide +kernel
theorem d_Dr_swapLandings_18 : decode b_Dr_swapLandings 18 = .ok (.isub, 1) := by decide +kernel
theorem d_Dr_swapLandings_19 : decode b_Dr_swapLandings 19 = .ok (.istore 4, 2) := by decide +kernel
theorem d_Dr_swapLandings_21 : decode b_Dr_swapLandings 21 = .ok (.iload_n 3, 1) := by decide +kernel
theorem d_Dr_swapLandings_22 : decode b_Dr_swapLandings 22 = .ok (.ifCond .lt 21, 3) := by decide +kernel
theorem d_Dr_swapLandings_25 : decode b_Dr_swapLandings 25 = .ok (.iload_n 3, 1) := by decide +kernel
theorem d_Dr_swapLandings_26 : decode b_Dr_swapLandings 26 = .ok (.bipush 9, 2) := by decide +kernel
theorem d_Dr_swapLandings_28 : decode b_Dr_swapLandings 28 = .ok (.if_icmp .gt 15, 3) := by decide +kernel
theorem d_Dr_swapLandings_31 : decode b_Dr_swapLandings 31 = .ok (.iload 4, 2) := by decide +kernel
theorem d_Dr_swapLandings_33 : decode b_Dr_swapLandings 33 = .ok (.ifCond .lt 10, 3) := by decide +kernel
theorem d_Dr_swapLandings_36 : decode b_Dr_swapLandings 36 = .ok (.iload 4, 2) := by decide +kernel
theorem d_Dr_swapLandings_38 : decode b_Dr_swapLandings 38 = .ok (.bipush 9, 2) := by decide +kernel
theorem d_Dr_swapLandings_40 : decode b_Dr_swapLandings 40 = .ok (.if_icmp .le 5, 3) := by decide +kernel
theorem d_Dr_swapLandings_43 : decode b_Dr_swapLandings 43 = .ok (.iconst 0, 1) := by decide +kernel
theorem d_Dr_swapLandings_44 : decode b_Dr_swapLandings 44 = .ok (.ireturn, 1) := by decide +kernel
theorem d_Dr_swapLandings_45 : decode b_Dr_swapLandings 45 = .ok (.aload_n 0, 1) := by decide +kernel
theorem d_Dr_swapLandings_46 : decode b_Dr_swapLandings 46 = .ok (.iload_n 1, 1) := by decide +kernel
theorem d_Dr_swapLandings_47 : decode b_Dr_swapLandings 47 = .ok (.iload_n 3, 1) := by decide +kernel
theorem d_Dr_swapLandings_48 : decode b_Dr_swapLandings 48 = .ok (.iconst 0, 1) := by decide +kernel
theorem d_Dr_swapLandings_49 : decode b_Dr_swapLandings 49 = .ok (.invokevirtual 88, 3) := by decide +kernel
theorem d_Dr_swapLandings_52 : decode b_Dr_swapLandings 52 = .ok (.aload_n 0, 1) := by decide +kernel
theorem d_Dr_swapLandings_53 : decode b_Dr_swapLandings 53 = .ok (.iload_n 2, 1) := by decide +kernel
theorem d_Dr_swapLandings_54 : decode b_Dr_swapLandings 54 = .ok (.iload 4, 2) := by decide +kernel
theorem d_Dr_swapLandings_56 : decode b_Dr_swapLandings 56 = .ok (.iconst 0, 1) := by decide +kernel
theorem d_Dr_swapLandings_57 : decode b_Dr_swapLandings 57 = .ok (.invokevirtual 88, 3) := by decide +kernel
theorem d_Dr_swapLandings_60 : decode b_Dr_swapLandings 60 = .ok (.iconst 1, 1) := by decide +kernel
theorem d_Dr_swapLandings_61 : decode b_Dr_swapLandings 61 = .ok (.ireturn, 1) := by decide +kernel
theorem d_Dr_leastRotation_0 : decode b_Dr_leastRotation 0 = .ok (.iconst 0, 1) := by decide +kernel
theorem d_Dr_leastRotation_1 : decode b_Dr_leastRotation 1 = .ok (.istore_n 1, 1) := by decide +kernel
theorem d_Dr_leastRotation_2 : decode b_Dr_leastRotation 2 = .ok (.iconst 1, 1) := by decide +kernel
theorem d_Dr_leastRotation_3 : decode b_Dr_leastRotation 3 = .ok (.istore_n 2, 1) := by decide +kernel
theorem d_Dr_leastRotation_4 : decode b_Dr_leastRotation 4 = .ok (.iload_n 2, 1) := by decide +kernel
theorem d_Dr_leastRotation_5 : decode b_Dr_leastRotation 5 = .ok (.aload_n 0, 1) := by decide +kernel
theorem d_Dr_leastRotation_6 : decode b_Dr_leastRotation 6 = .ok (.getfield 28, 3) := by decide +kernel
theorem d_Dr_leastRotation_9 : decode b_Dr_leastRotation 9 = .ok (.if_icmp .ge 20, 3) := by decide +kernel
theorem d_Dr_leastRotation_12 : decode b_Dr_leastRotation 12 = .ok (.aload_n 0, 1) := by decide +kernel
theorem d_Dr_leastRotation_13 : decode b_Dr_leastRotation 13 = .ok (.iload_n 2, 1) := by decide +kernel
theorem d_Dr_leastRotation_14 : decode b_Dr_leastRotation 14 = .ok (.iload_n 1, 1) := by decide +kernel
theorem d_Dr_leastRotation_15 : decode b_Dr_leastRotation 15 = .ok (.invokevirtual 92, 3) := by decide +kernel
theorem d_Dr_leastRotation_18 : decode b_Dr_leastRotation 18 = .ok (.ifCond .eq 5, 3) := by decide +kernel
theorem d_Dr_leastRotation_21 : decode b_Dr_leastRotation 21 = .ok (.iload_n 2, 1) := by decide +kernel
theorem d_Dr_leastRotation_22 : decode b_Dr_leastRotation 22 = .ok (.istore_n 1, 1) := by decide +kernel
theorem d_Dr_leastRotation_23 : decode b_Dr_leastRotation 23 = .ok (.iinc 2 1, 3) := by decide +kernel
theorem d_Dr_leastRotation_26 : decode b_Dr_leastRotation 26 = .ok (.goto (-22), 3) := by decide +kernel
theorem d_Dr_leastRotation_29 : decode b_Dr_leastRotation 29 = .ok (.iload_n 1, 1) := by decide +kernel
theorem d_Dr_leastRotation_30 : decode b_Dr_leastRotation 30 = .ok (.ireturn, 1) := by decide +kernel
theorem d_Dr_isRotationLess_0 : decode b_Dr_isRotationLess 0 = .ok (.iconst 0, 1) := by decide +kernel
theorem d_Dr_isRotationLess_1 : decode b_Dr_isRotationLess 1 = .ok (.istore_n 3, 1) := by decide +kernel
theorem d_Dr_isRotationLess_2 : decode b_Dr_isRotationLess 2 = .ok (.iload_n 3, 1) := by decide +kernel
theorem d_Dr_isRotationLess_3 : decode b_Dr_isRotationLess 3 = .ok (.aload_n 0, 1) := by decide +kernel
theorem d_Dr_isRotationLess_4 : decode b_Dr_isRotationLess 4 = .ok (.getfield 28, 3) := by decide +kernel
theorem d_Dr_isRotationLess_7 : decode b_Dr_isRotationLess 7 = .ok (.if_icmp .ge 42, 3) := by decide +kernel
theorem d_Dr_isRotationLess_10 : decode b_Dr_isRotationLess 10 = .ok (.aload_n 0, 1) := by decide +kernel
theorem d_Dr_isRotationLess_11 : decode b_Dr_isRotationLess 11 = .ok (.iload_n 1, 1) := by decide +kernel
theorem d_Dr_isRotationLess_12 : decode b_Dr_isRotationLess 12 = .ok (.iload_n 3, 1) := by decide +kernel
theorem d_Dr_isRotationLess_13 : decode b_Dr_isRotationLess 13 = .ok (.iadd, 1) := by decide +kernel
theorem d_Dr_isRotationLess_14 : decode b_Dr_isRotationLess 14 = .ok (.invokevirtual 75, 3) := by decide +kernel
theorem d_Dr_isRotationLess_17 : decode b_Dr_isRotationLess 17 = .ok (.aload_n 0, 1) := by decide +kernel
theorem d_Dr_isRotationLess_18 : decode b_Dr_isRotationLess 18 = .ok (.iload_n 2, 1) := by decide +kernel
theorem d_Dr_isRotationLess_19 : decode b_Dr_isRotationLess 19 = .ok (.iload_n 3, 1) := by decide +kernel
theorem d_Dr_isRotationLess_20 : decode b_Dr_isRotationLess 20 = .ok (.iadd, 1) := by decide +kernel
theorem d_Dr_isRotationLess_21 : decode b_Dr_isRotationLess 21 = .ok (.invokevirtual 75, 3) := by decide +kernel
theorem d_Dr_isRotationLess_24 : decode b_Dr_isRotationLess 24 = .ok (.isub, 1) := by decide +kernel
theorem d_Dr_isRotationLess_25 : decode b_Dr_isRotationLess 25 = .ok (.istore 4, 2) := by decide +kernel
theorem d_Dr_isRotationLess_27 : decode b_Dr_isRotationLess 27 = .ok (.iload 4, 2) := by decide +kernel
theorem d_Dr_isRotationLess_29 : decode b_Dr_isRotationLess 29 = .ok (.ifCond .eq 14, 3) := by decide +kernel
theorem d_Dr_isRotationLess_32 : decode b_Dr_isRotationLess 32 = .ok (.iload 4, 2) := by decide +kernel
theorem d_Dr_isRotationLess_34 : decode b_Dr_isRotationLess 34 = .ok (.ifCond .ge 7, 3) := by decide +kernel
theorem d_Dr_isRotationLess_37 : decode b_Dr_isRotationLess 37 = .ok (.iconst 1, 1) := by decide +kernel
theorem d_Dr_isRotationLess_38 : decode b_Dr_isRotationLess 38 = .ok (.goto 4, 3) := by decide +kernel
theorem d_Dr_isRotationLess_41 : decode b_Dr_isRotationLess 41 = .ok (.iconst 0, 1) := by decide +kernel
theorem d_Dr_isRotationLess_42 : decode b_Dr_isRotationLess 42 = .ok (.ireturn, 1) := by decide +kernel
theorem d_Dr_isRotationLess_43 : decode b_Dr_isRotationLess 43 = .ok (.iinc 3 1, 3) := by decide +kernel
theorem d_Dr_isRotationLess_46 : decode b_Dr_isRotationLess 46 = .ok (.goto (-44), 3) := by decide +kernel
theorem d_Dr_isRotationLess_49 : decode b_Dr_isRotationLess 49 = .ok (.iconst 0, 1) := by decide +kernel
theorem d_Dr_isRotationLess_50 : decode b_Dr_isRotationLess 50 = .ok (.ireturn, 1) := by decide +kernel
theorem d_Dr_rotateTo_0 : decode b_Dr_rotateTo 0 = .ok (.iconst 0, 1) := by decide +kernel
theorem d_Dr_rotateTo_1 : decode b_Dr_rotateTo 1 = .ok (.istore_n 2, 1) := by decide +kernel
theorem d_Dr_rotateTo_2 : decode b_Dr_rotateTo 2 = .ok (.iload_n 2, 1) := by decide +kernel
theorem d_Dr_rotateTo_3 : decode b_Dr_rotateTo 3 = .ok (.aload_n 0, 1) := by decide +kernel
theorem d_Dr_rotateTo_4 : decode b_Dr_rotateTo 4 = .ok (.getfield 28, 3) := by decide +kernel
theorem d_Dr_rotateTo_7 : decode b_Dr_rotateTo 7 = .ok (.if_icmp .ge 22, 3) := by decide +kernel
theorem d_Dr_rotateTo_10 : decode b_Dr_rotateTo 10 = .ok (.aload_n 0, 1) := by decide +kernel
theorem d_Dr_rotateTo_11 : decode b_Dr_rotateTo 11 = .ok (.getfield 21, 3) := by decide +kernel
theorem d_Dr_rotateTo_14 : decode b_Dr_rotateTo 14 = .ok (.iload_n 2, 1) := by decide +kernel
theorem d_Dr_rotateTo_15 : decode b_Dr_rotateTo 15 = .ok (.aload_n 0, 1) := by decide +kernel
theorem d_Dr_rotateTo_16 : decode b_Dr_rotateTo 16 = .ok (.iload_n 1, 1) := by decide +kernel
theorem d_Dr_rotateTo_17 : decode b_Dr_rotateTo 17 = .ok (.iload_n 2, 1) := by decide +kernel
theorem d_Dr_rotateTo_18 : decode b_Dr_rotateTo 18 = .ok (.iadd, 1) := by decide +kernel
theorem d_Dr_rotateTo_19 : decode b_Dr_rotateTo 19 = .ok (.invokevirtual 75, 3) := by decide +kernel
theorem d_Dr_rotateTo_22 : decode b_Dr_rotateTo 22 = .ok (.iastore, 1) := by decide +kernel
theorem d_Dr_rotateTo_23 : decode b_Dr_rotateTo 23 = .ok (.iinc 2 1, 3) := by decide +kernel
theorem d_Dr_rotateTo_26 : decode b_Dr_rotateTo 26 = .ok (.goto (-24), 3) := by decide +kernel
theorem d_Dr_rotateTo_29 : decode b_Dr_rotateTo 29 = .ok (.iconst 0, 1) := by decide +kernel
theorem d_Dr_rotateTo_30 : decode b_Dr_rotateTo 30 = .ok (.istore_n 2, 1) := by decide +kernel
theorem d_Dr_rotateTo_31 : decode b_Dr_rotateTo 31 = .ok (.iload_n 2, 1) := by decide +kernel
theorem d_Dr_rotateTo_32 : decode b_Dr_rotateTo 32 = .ok (.aload_n 0, 1) := by decide +kernel
theorem d_Dr_rotateTo_33 : decode b_Dr_rotateTo 33 = .ok (.getfield 28, 3) := by decide +kernel
theorem d_Dr_rotateTo_36 : decode b_Dr_rotateTo 36 = .ok (.if_icmp .ge 21, 3) := by decide +kernel
theorem d_Dr_rotateTo_39 : decode b_Dr_rotateTo 39 = .ok (.aload_n 0, 1) := by decide +kernel
theorem d_Dr_rotateTo_40 : decode b_Dr_rotateTo 40 = .ok (.iload_n 2, 1) := by decide +kernel
theorem d_Dr_rotateTo_41 : decode b_Dr_rotateTo 41 = .ok (.aload_n 0, 1) := by decide +kernel
theorem d_Dr_rotateTo_42 : decode b_Dr_rotateTo 42 = .ok (.getfield 21, 3) := by decide +kernel
theorem d_Dr_rotateTo_45 : decode b_Dr_rotateTo 45 = .ok (.iload_n 2, 1) := by decide +kernel
theorem d_Dr_rotateTo_46 : decode b_Dr_rotateTo 46 = .ok (.iaload, 1) := by decide +kernel
theorem d_Dr_rotateTo_47 : decode b_Dr_rotateTo 47 = .ok (.iconst 0, 1) := by decide +kernel
theorem d_Dr_rotateTo_48 : decode b_Dr_rotateTo 48 = .ok (.invokevirtual 88, 3) := by decide +kernel
theorem d_Dr_rotateTo_51 : decode b_Dr_rotateTo 51 = .ok (.iinc 2 1, 3) := by decide +kernel
theorem d_Dr_rotateTo_54 : decode b_Dr_rotateTo 54 = .ok (.goto (-23), 3) := by decide +kernel
theorem d_Dr_rotateTo_57 : decode b_Dr_rotateTo 57 = .ok (.return_, 1) := by decide +kernel
theorem d_Dr_crossingOf_0 : decode b_Dr_crossingOf 0 = .ok (.aload_n 0, 1) := by decide +kernel
theorem d_Dr_crossingOf_1 : decode b_Dr_crossingOf 1 = .ok (.getfield 18, 3) := by decide +kernel
theorem d_Dr_crossingOf_4 : decode b_Dr_crossingOf 4 = .ok (.iload_n 1, 1) := by decide +kernel
theorem d_Dr_crossingOf_5 : decode b_Dr_crossingOf 5 = .ok (.iaload, 1) := by decide +kernel
theorem d_Dr_crossingOf_6 : decode b_Dr_crossingOf 6 = .ok (.ireturn, 1) := by decide +kernel
theorem d_Dr_copyFrom_0 : decode b_Dr_copyFrom 0 = .ok (.aload_n 0, 1) := by decide +kernel
theorem d_Dr_copyFrom_1 : decode b_Dr_copyFrom 1 = .ok (.aload_n 1, 1) := by decide +kernel
theorem d_Dr_copyFrom_2 : decode b_Dr_copyFrom 2 = .ok (.getfield 24, 3) := by decide +kernel
theorem d_Dr_copyFrom_5 : decode b_Dr_copyFrom 5 = .ok (.putfield 24, 3) := by decide +kernel
theorem d_Dr_copyFrom_8 : decode b_Dr_copyFrom 8 = .ok (.aload_n 0, 1) := by decide +kernel
theorem d_Dr_copyFrom_9 : decode b_Dr_copyFrom 9 = .ok (.aload_n 1, 1) := by decide +kernel
theorem d_Dr_copyFrom_10 : decode b_Dr_copyFrom 10 = .ok (.getfield 28, 3) := by decide +kernel
theorem d_Dr_copyFrom_13 : decode b_Dr_copyFrom 13 = .ok (.putfield 28, 3) := by decide +kernel
theorem d_Dr_copyFrom_16 : decode b_Dr_copyFrom 16 = .ok (.aload_n 1, 1) := by decide +kernel
theorem d_Dr_copyFrom_17 : decode b_Dr_copyFrom 17 = .ok (.getfield 9, 3) := by decide +kernel
theorem d_Dr_copyFrom_20 : decode b_Dr_copyFrom 20 = .ok (.iconst 0, 1) := by decide +kernel
theorem d_Dr_copyFrom_21 : decode b_Dr_copyFrom 21 = .ok (.aload_n 0, 1) := by decide +kernel
theorem d_Dr_copyFrom_22 : decode b_Dr_copyFrom 22 = .ok (.getfield 9, 3) := by decide +kernel
theorem d_Dr_copyFrom_25 : decode b_Dr_copyFrom 25 = .ok (.iconst 0, 1) := by decide +kernel
theorem d_Dr_copyFrom_26 : decode b_Dr_copyFrom 26 = .ok (.aload_n 0, 1) := by decide +kernel
theorem d_Dr_copyFrom_27 : decode b_Dr_copyFrom 27 = .ok (.getfield 9, 3) := by decide +kernel
theorem d_Dr_copyFrom_30 : decode b_Dr_copyFrom 30 = .ok (.arraylength, 1) := by decide +kernel
theorem d_Dr_copyFrom_31 : decode b_Dr_copyFrom 31 = .ok (.invokestatic 37, 3) := by decide +kernel
theorem d_Dr_copyFrom_34 : decode b_Dr_copyFrom 34 = .ok (.aload_n 1, 1) := by decide +kernel
theorem d_Dr_copyFrom_35 : decode b_Dr_copyFrom 35 = .ok (.getfield 15, 3) := by decide +kernel
theorem d_Dr_copyFrom_38 : decode b_Dr_copyFrom 38 = .ok (.iconst 0, 1) := by decide +kernel
theorem d_Dr_copyFrom_39 : decode b_Dr_copyFrom 39 = .ok (.aload_n 0, 1) := by decide +kernel
theorem d_Dr_copyFrom_40 : decode b_Dr_copyFrom 40 = .ok (.getfield 15, 3) := by decide +kernel
theorem d_Dr_copyFrom_43 : decode b_Dr_copyFrom 43 = .ok (.iconst 0, 1) := by decide +kernel
theorem d_Dr_copyFrom_44 : decode b_Dr_copyFrom 44 = .ok (.aload_n 0, 1) := by decide +kernel
theorem d_Dr_copyFrom_45 : decode b_Dr_copyFrom 45 = .ok (.getfield 15, 3) := by decide +kernel
theorem d_Dr_copyFrom_48 : decode b_Dr_copyFrom 48 = .ok (.arraylength, 1) := by decide +kernel
theorem d_Dr_copyFrom_49 : decode b_Dr_copyFrom 49 = .ok (.invokestatic 37, 3) := by decide +kernel
theorem d_Dr_copyFrom_52 : decode b_Dr_copyFrom 52 = .ok (.aload_n 1, 1) := by decide +kernel
theorem d_Dr_copyFrom_53 : decode b_Dr_copyFrom 53 = .ok (.getfield 18, 3) := by decide +kernel
theorem d_Dr_copyFrom_56 : decode b_Dr_copyFrom 56 = .ok (.iconst 0, 1) := by decide +kernel
theorem d_Dr_copyFrom_57 : decode b_Dr_copyFrom 57 = .ok (.aload_n 0, 1) := by decide +kernel
theorem d_Dr_copyFrom_58 : decode b_Dr_copyFrom 58 = .ok (.getfield 18, 3) := by decide +kernel
theorem d_Dr_copyFrom_61 : decode b_Dr_copyFrom 61 = .ok (.iconst 0, 1) := by decide +kernel
theorem d_Dr_copyFrom_62 : decode b_Dr_copyFrom 62 = .ok (.aload_n 0, 1) := by decide +kernel
theorem d_Dr_copyFrom_63 : decode b_Dr_copyFrom 63 = .ok (.getfield 18, 3) := by decide +kernel
theorem d_Dr_copyFrom_66 : decode b_Dr_copyFrom 66 = .ok (.arraylength, 1) := by decide +kernel
theorem d_Dr_copyFrom_67 : decode b_Dr_copyFrom 67 = .ok (.invokestatic 37, 3) := by decide +kernel
theorem d_Dr_copyFrom_70 : decode b_Dr_copyFrom 70 = .ok (.return_, 1) := by decide +kernel
theorem d_Dr_isPlainAndValid_0 : decode b_Dr_isPlainAndValid 0 = .ok (.aload_n 0, 1) := by decide +kernel
theorem d_Dr_isPlainAndValid_1 : decode b_Dr_isPlainAndValid 1 = .ok (.getfield 24, 3) := by decide +kernel
theorem d_Dr_isPlainAndValid_4 : decode b_Dr_isPlainAndValid 4 = .ok (.ifCond .ne 14, 3) := by decide +kernel
theorem d_Dr_isPlainAndValid_7 : decode b_Dr_isPlainAndValid 7 = .ok (.aload_n 0, 1) := by decide +kernel
theorem d_Dr_isPlainAndValid_8 : decode b_Dr_isPlainAndValid 8 = .ok (.invokevirtual 59, 3) := by decide +kernel
theorem d_Dr_isPlainAndValid_11 : decode b_Dr_isPlainAndValid 11 = .ok (.ifCond .eq 7, 3) := by decide +kernel
theorem d_Dr_isPlainAndValid_14 : decode b_Dr_isPlainAndValid 14 = .ok (.iconst 1, 1) := by decide +kernel
theorem d_Dr_isPlainAndValid_15 : decode b_Dr_isPlainAndValid 15 = .ok (.goto 4, 3) := by decide +kernel
theorem d_Dr_isPlainAndValid_18 : decode b_Dr_isPlainAndValid 18 = .ok (.iconst 0, 1) := by decide +kernel
theorem d_Dr_isPlainAndValid_19 : decode b_Dr_isPlainAndValid 19 = .ok (.ireturn, 1) := by decide +kernel
theorem d_Dr_siteOfState_0 : decode b_Dr_siteOfState 0 = .ok (.iconst 0, 1) := by decide +kernel
theorem d_Dr_siteOfState_1 : decode b_Dr_siteOfState 1 = .ok (.istore_n 2, 1) := by decide +kernel
theorem d_Dr_siteOfState_2 : decode b_Dr_siteOfState 2 = .ok (.iload_n 2, 1) := by decide +kernel
theorem d_Dr_siteOfState_3 : decode b_Dr_siteOfState 3 = .ok (.aload_n 0, 1) := by decide +kernel
theorem d_Dr_siteOfState_4 : decode b_Dr_siteOfState 4 = .ok (.getfield 28, 3) := by decide +kernel
theorem d_Dr_siteOfState_7 : decode b_Dr_siteOfState 7 = .ok (.if_icmp .ge 20, 3) := by decide +kernel
theorem d_Dr_siteOfState_10 : decode b_Dr_siteOfState 10 = .ok (.aload_n 0, 1) := by decide +kernel
theorem d_Dr_siteOfState_11 : decode b_Dr_siteOfState 11 = .ok (.iload_n 2, 1) := by decide +kernel
theorem d_Dr_siteOfState_12 : decode b_Dr_siteOfState 12 = .ok (.invokevirtual 79, 3) := by decide +kernel
theorem d_Dr_siteOfState_15 : decode b_Dr_siteOfState 15 = .ok (.iload_n 1, 1) := by decide +kernel
theorem d_Dr_siteOfState_16 : decode b_Dr_siteOfState 16 = .ok (.if_icmp .ne 5, 3) := by decide +kernel
theorem d_Dr_siteOfState_19 : decode b_Dr_siteOfState 19 = .ok (.iload_n 2, 1) := by decide +kernel
theorem d_Dr_siteOfState_20 : decode b_Dr_siteOfState 20 = .ok (.ireturn, 1) := by decide +kernel
theorem d_Dr_siteOfState_21 : decode b_Dr_siteOfState 21 = .ok (.iinc 2 1, 3) := by decide +kernel
theorem d_Dr_siteOfState_24 : decode b_Dr_siteOfState 24 = .ok (.goto (-22), 3) := by decide +kernel
theorem d_Dr_siteOfState_27 : decode b_Dr_siteOfState 27 = .ok (.iconst (-1), 1) := by decide +kernel
theorem d_Dr_siteOfState_28 : decode b_Dr_siteOfState 28 = .ok (.ireturn, 1) := by decide +kernel
theorem d_Dr_isCycle_0 : decode b_Dr_isCycle 0 = .ok (.aload_n 0, 1) := by decide +kernel
theorem d_Dr_isCycle_1 : decode b_Dr_isCycle 1 = .ok (.invokevirtual 82, 3) := by decide +kernel
theorem d_Dr_isCycle_4 : decode b_Dr_isCycle 4 = .ok (.ifCond .eq 5, 3) := by decide +kernel
theorem d_Dr_isCycle_7 : decode b_Dr_isCycle 7 = .ok (.iconst 0, 1) := by decide +kernel
theorem d_Dr_isCycle_8 : decode b_Dr_isCycle 8 = .ok (.ireturn, 1) := by decide +kernel
theorem d_Dr_isCycle_9 : decode b_Dr_isCycle 9 = .ok (.iconst 1, 1) := by decide +kernel
theorem d_Dr_isCycle_10 : decode b_Dr_isCycle 10 = .ok (.istore_n 1, 1) := by decide +kernel
theorem d_Dr_isCycle_11 : decode b_Dr_isCycle 11 = .ok (.iload_n 1, 1) := by decide +kernel
theorem d_Dr_isCycle_12 : decode b_Dr_isCycle 12 = .ok (.aload_n 0, 1) := by decide +kernel
theorem d_Dr_isCycle_13 : decode b_Dr_isCycle 13 = .ok (.getfield 28, 3) := by decide +kernel
theorem d_Dr_isCycle_16 : decode b_Dr_isCycle 16 = .ok (.if_icmp .ge 24, 3) := by decide +kernel
theorem d_Dr_isCycle_19 : decode b_Dr_isCycle 19 = .ok (.aload_n 0, 1) := by decide +kernel
theorem d_Dr_isCycle_20 : decode b_Dr_isCycle 20 = .ok (.aload_n 0, 1) := by decide +kernel
theorem d_Dr_isCycle_21 : decode b_Dr_isCycle 21 = .ok (.iload_n 1, 1) := by decide +kernel
theorem d_Dr_isCycle_22 : decode b_Dr_isCycle 22 = .ok (.invokevirtual 79, 3) := by decide +kernel
theorem d_Dr_isCycle_25 : decode b_Dr_isCycle 25 = .ok (.invokevirtual 85, 3) := by decide +kernel
theorem d_Dr_isCycle_28 : decode b_Dr_isCycle 28 = .ok (.iload_n 1, 1) := by decide +kernel
theorem d_Dr_isCycle_29 : decode b_Dr_isCycle 29 = .ok (.if_icmp .eq 5, 3) := by decide +kernel
theorem d_Dr_isCycle_32 : decode b_Dr_isCycle 32 = .ok (.iconst 0, 1) := by decide +kernel
theorem d_Dr_isCycle_33 : decode b_Dr_isCycle 33 = .ok (.ireturn, 1) := by decide +kernel
theorem d_Dr_isCycle_34 : decode b_Dr_isCycle 34 = .ok (.iinc 1 1, 3) := by decide +kernel
theorem d_Dr_isCycle_37 : decode b_Dr_isCycle 37 = .ok (.goto (-26), 3) := by decide +kernel
theorem d_Dr_isCycle_40 : decode b_Dr_isCycle 40 = .ok (.iconst 1, 1) := by decide +kernel
theorem d_Dr_isCycle_41 : decode b_Dr_isCycle 41 = .ok (.ireturn, 1) := by decide +kernel
theorem d_Dr_siteThrowing_0 : decode b_Dr_siteThrowing 0 = .ok (.aload_n 0, 1) := by decide +kernel
theorem d_Dr_siteThrowing_1 : decode b_Dr_siteThrowing 1 = .ok (.getfield 24, 3) := by decide +kernel
theorem d_Dr_siteThrowing_4 : decode b_Dr_siteThrowing 4 = .ok (.iconst 2, 1) := by decide +kernel
theorem d_Dr_siteThrowing_5 : decode b_Dr_siteThrowing 5 = .ok (.if_icmp .ne 25, 3) := by decide +kernel
theorem d_Dr_siteThrowing_8 : decode b_Dr_siteThrowing 8 = .ok (.iload_n 1, 1) := by decide +kernel
theorem d_Dr_siteThrowing_9 : decode b_Dr_siteThrowing 9 = .ok (.invokestatic 47, 3) := by decide +kernel
theorem d_Dr_siteThrowing_12 : decode b_Dr_siteThrowing 12 = .ok (.ifCond .eq 7, 3) := by decide +kernel
theorem d_Dr_siteThrowing_15 : decode b_Dr_siteThrowing 15 = .ok (.iconst (-1), 1) := by decide +kernel
theorem d_Dr_siteThrowing_16 : decode b_Dr_siteThrowing 16 = .ok (.goto 13, 3) := by decide +kernel
theorem d_Dr_siteThrowing_19 : decode b_Dr_siteThrowing 19 = .ok (.iload_n 1, 1) := by decide +kernel
theorem d_Dr_siteThrowing_20 : decode b_Dr_siteThrowing 20 = .ok (.aload_n 0, 1) := by decide +kernel
theorem d_Dr_siteThrowing_21 : decode b_Dr_siteThrowing 21 = .ok (.getfield 28, 3) := by decide +kernel
theorem d_Dr_siteThrowing_24 : decode b_Dr_siteThrowing 24 = .ok (.invokestatic 43, 3) := by decide +kernel
theorem d_Dr_siteThrowing_27 : decode b_Dr_siteThrowing 27 = .ok (.iload_n 2, 1) := by decide +kernel
theorem d_Dr_siteThrowing_28 : decode b_Dr_siteThrowing 28 = .ok (.iadd, 1) := by decide +kernel
theorem d_Dr_siteThrowing_29 : decode b_Dr_siteThrowing 29 = .ok (.ireturn, 1) := by decide +kernel
theorem d_Dr_siteThrowing_30 : decode b_Dr_siteThrowing 30 = .ok (.iload_n 2, 1) := by decide +kernel
theorem d_Dr_siteThrowing_31 : decode b_Dr_siteThrowing 31 = .ok (.iload_n 1, 1) := by decide +kernel
theorem d_Dr_siteThrowing_32 : decode b_Dr_siteThrowing 32 = .ok (.iconst 2, 1) := by decide +kernel
theorem d_Dr_siteThrowing_33 : decode b_Dr_siteThrowing 33 = .ok (.invokestatic 43, 3) := by decide +kernel
theorem d_Dr_siteThrowing_36 : decode b_Dr_siteThrowing 36 = .ok (.if_icmp .ne 14, 3) := by decide +kernel
theorem d_Dr_siteThrowing_39 : decode b_Dr_siteThrowing 39 = .ok (.iload_n 1, 1) := by decide +kernel
theorem d_Dr_siteThrowing_40 : decode b_Dr_siteThrowing 40 = .ok (.aload_n 0, 1) := by decide +kernel
theorem d_Dr_siteThrowing_41 : decode b_Dr_siteThrowing 41 = .ok (.getfield 28, 3) := by decide +kernel
theorem d_Dr_siteThrowing_44 : decode b_Dr_siteThrowing 44 = .ok (.invokestatic 43, 3) := by decide +kernel
theorem d_Dr_siteThrowing_47 : decode b_Dr_siteThrowing 47 = .ok (.goto 4, 3) := by decide +kernel
theorem d_Dr_siteThrowing_50 : decode b_Dr_siteThrowing 50 = .ok (.iconst (-1), 1) := by decide +kernel
theorem d_Dr_siteThrowing_51 : decode b_Dr_siteThrowing 51 = .ok (.ireturn, 1) := by decide +kernel
