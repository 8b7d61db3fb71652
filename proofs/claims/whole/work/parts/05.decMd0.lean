theorem d_Md_init_0 : decode b_Md_init 0 = .ok (.aload_n 0, 1) := by decide +kernel
theorem d_Md_init_1 : decode b_Md_init 1 = .ok (.invokespecial 1, 3) := by decide +kernel
theorem d_Md_init_4 : decode b_Md_init 4 = .ok (.aload_n 0, 1) := by decide +kernel
theorem d_Md_init_5 : decode b_Md_init 5 = .ok (.bipush 8, 2) := by decide +kernel
theorem d_Md_init_7 : decode b_Md_init 7 = .ok (.newarray .int, 2) := by decide +kernel
theorem d_Md_init_9 : decode b_Md_init 9 = .ok (.putfield 7, 3) := by decide +kernel
theorem d_Md_init_12 : decode b_Md_init 12 = .ok (.aload_n 0, 1) := by decide +kernel
theorem d_Md_init_13 : decode b_Md_init 13 = .ok (.bipush 8, 2) := by decide +kernel
theorem d_Md_init_15 : decode b_Md_init 15 = .ok (.newarray .int, 2) := by decide +kernel
theorem d_Md_init_17 : decode b_Md_init 17 = .ok (.putfield 13, 3) := by decide +kernel
theorem d_Md_init_20 : decode b_Md_init 20 = .ok (.aload_n 0, 1) := by decide +kernel
theorem d_Md_init_21 : decode b_Md_init 21 = .ok (.sipush 128, 3) := by decide +kernel
theorem d_Md_init_24 : decode b_Md_init 24 = .ok (.newarray .int, 2) := by decide +kernel
theorem d_Md_init_26 : decode b_Md_init 26 = .ok (.putfield 16, 3) := by decide +kernel
theorem d_Md_init_29 : decode b_Md_init 29 = .ok (.aload_n 0, 1) := by decide +kernel
theorem d_Md_init_30 : decode b_Md_init 30 = .ok (.sipush 384, 3) := by decide +kernel
theorem d_Md_init_33 : decode b_Md_init 33 = .ok (.newarray .int, 2) := by decide +kernel
theorem d_Md_init_35 : decode b_Md_init 35 = .ok (.putfield 19, 3) := by decide +kernel
theorem d_Md_init_38 : decode b_Md_init 38 = .ok (.aload_n 0, 1) := by decide +kernel
theorem d_Md_init_39 : decode b_Md_init 39 = .ok (.sipush 128, 3) := by decide +kernel
theorem d_Md_init_42 : decode b_Md_init 42 = .ok (.newarray .boolean, 2) := by decide +kernel
theorem d_Md_init_44 : decode b_Md_init 44 = .ok (.putfield 22, 3) := by decide +kernel
theorem d_Md_init_47 : decode b_Md_init 47 = .ok (.aload_n 0, 1) := by decide +kernel
theorem d_Md_init_48 : decode b_Md_init 48 = .ok (.iconst (-1), 1) := by decide +kernel
theorem d_Md_init_49 : decode b_Md_init 49 = .ok (.putfield 26, 3) := by decide +kernel
theorem d_Md_init_52 : decode b_Md_init 52 = .ok (.aload_n 0, 1) := by decide +kernel
theorem d_Md_init_53 : decode b_Md_init 53 = .ok (.bipush 16, 2) := by decide +kernel
theorem d_Md_init_55 : decode b_Md_init 55 = .ok (.newarray .int, 2) := by decide +kernel
theorem d_Md_init_57 : decode b_Md_init 57 = .ok (.putfield 30, 3) := by decide +kernel
theorem d_Md_init_60 : decode b_Md_init 60 = .ok (.aload_n 0, 1) := by decide +kernel
theorem d_Md_init_61 : decode b_Md_init 61 = .ok (.sipush 512, 3) := by decide +kernel
theorem d_Md_init_64 : decode b_Md_init 64 = .ok (.newarray .int, 2) := by decide +kernel
theorem d_Md_init_66 : decode b_Md_init 66 = .ok (.putfield 33, 3) := by decide +kernel
theorem d_Md_init_69 : decode b_Md_init 69 = .ok (.aload_n 0, 1) := by decide +kernel
theorem d_Md_init_70 : decode b_Md_init 70 = .ok (.bipush 32, 2) := by decide +kernel
theorem d_Md_init_72 : decode b_Md_init 72 = .ok (.newarray .int, 2) := by decide +kernel
theorem d_Md_init_74 : decode b_Md_init 74 = .ok (.putfield 36, 3) := by decide +kernel
theorem d_Md_init_77 : decode b_Md_init 77 = .ok (.aload_n 0, 1) := by decide +kernel
theorem d_Md_init_78 : decode b_Md_init 78 = .ok (.bipush 32, 2) := by decide +kernel
theorem d_Md_init_80 : decode b_Md_init 80 = .ok (.newarray .int, 2) := by decide +kernel
theorem d_Md_init_82 : decode b_Md_init 82 = .ok (.putfield 39, 3) := by decide +kernel
theorem d_Md_init_85 : decode b_Md_init 85 = .ok (.aload_n 0, 1) := by decide +kernel
theorem d_Md_init_86 : decode b_Md_init 86 = .ok (.sipush 4096, 3) := by decide +kernel
theorem d_Md_init_89 : decode b_Md_init 89 = .ok (.newarray .int, 2) := by decide +kernel
theorem d_Md_init_91 : decode b_Md_init 91 = .ok (.putfield 42, 3) := by decide +kernel
theorem d_Md_init_94 : decode b_Md_init 94 = .ok (.aload_n 0, 1) := by decide +kernel
theorem d_Md_init_95 : decode b_Md_init 95 = .ok (.sipush 4096, 3) := by decide +kernel
theorem d_Md_init_98 : decode b_Md_init 98 = .ok (.newarray .int, 2) := by decide +kernel
theorem d_Md_init_100 : decode b_Md_init 100 = .ok (.putfield 45, 3) := by decide +kernel
theorem d_Md_init_103 : decode b_Md_init 103 = .ok (.aload_n 0, 1) := by decide +kernel
theorem d_Md_init_104 : decode b_Md_init 104 = .ok (.bipush 6, 2) := by decide +kernel
theorem d_Md_init_106 : decode b_Md_init 106 = .ok (.newarray .int, 2) := by decide +kernel
theorem d_Md_init_108 : decode b_Md_init 108 = .ok (.putfield 48, 3) := by decide +kernel
theorem d_Md_init_111 : decode b_Md_init 111 = .ok (.aload_n 0, 1) := by decide +kernel
theorem d_Md_init_112 : decode b_Md_init 112 = .ok (.bipush 16, 2) := by decide +kernel
theorem d_Md_init_114 : decode b_Md_init 114 = .ok (.newarray .int, 2) := by decide +kernel
theorem d_Md_init_116 : decode b_Md_init 116 = .ok (.putfield 51, 3) := by decide +kernel
theorem d_Md_init_119 : decode b_Md_init 119 = .ok (.aload_n 0, 1) := by decide +kernel
theorem d_Md_init_120 : decode b_Md_init 120 = .ok (.iconst 0, 1) := by decide +kernel
theorem d_Md_init_121 : decode b_Md_init 121 = .ok (.iconst 0, 1) := by decide +kernel
theorem d_Md_init_122 : decode b_Md_init 122 = .ok (.iconst 1, 1) := by decide +kernel
theorem d_Md_init_123 : decode b_Md_init 123 = .ok (.invokevirtual 54, 3) := by decide +kernel
theorem d_Md_init_126 : decode b_Md_init 126 = .ok (.return_, 1) := by decide +kernel
theorem d_Md_fresh_0 : decode b_Md_fresh 0 = .ok (.aload_n 0, 1) := by decide +kernel
theorem d_Md_fresh_1 : decode b_Md_fresh 1 = .ok (.getfield 7, 3) := by decide +kernel
theorem d_Md_fresh_4 : decode b_Md_fresh 4 = .ok (.iload_n 1, 1) := by decide +kernel
theorem d_Md_fresh_5 : decode b_Md_fresh 5 = .ok (.iload_n 2, 1) := by decide +kernel
theorem d_Md_fresh_6 : decode b_Md_fresh 6 = .ok (.iastore, 1) := by decide +kernel
theorem d_Md_fresh_7 : decode b_Md_fresh 7 = .ok (.aload_n 0, 1) := by decide +kernel
theorem d_Md_fresh_8 : decode b_Md_fresh 8 = .ok (.getfield 13, 3) := by decide +kernel
theorem d_Md_fresh_11 : decode b_Md_fresh 11 = .ok (.iload_n 1, 1) := by decide +kernel
theorem d_Md_fresh_12 : decode b_Md_fresh 12 = .ok (.iload_n 3, 1) := by decide +kernel
theorem d_Md_fresh_13 : decode b_Md_fresh 13 = .ok (.iastore, 1) := by decide +kernel
theorem d_Md_fresh_14 : decode b_Md_fresh 14 = .ok (.iconst 0, 1) := by decide +kernel
theorem d_Md_fresh_15 : decode b_Md_fresh 15 = .ok (.istore 4, 2) := by decide +kernel
theorem d_Md_fresh_17 : decode b_Md_fresh 17 = .ok (.iload 4, 2) := by decide +kernel
theorem d_Md_fresh_19 : decode b_Md_fresh 19 = .ok (.bipush 16, 2) := by decide +kernel
theorem d_Md_fresh_21 : decode b_Md_fresh 21 = .ok (.if_icmp .ge 50, 3) := by decide +kernel
theorem d_Md_fresh_24 : decode b_Md_fresh 24 = .ok (.aload_n 0, 1) := by decide +kernel
theorem d_Md_fresh_25 : decode b_Md_fresh 25 = .ok (.getfield 16, 3) := by decide +kernel
theorem d_Md_fresh_28 : decode b_Md_fresh 28 = .ok (.bipush 16, 2) := by decide +kernel
theorem d_Md_fresh_30 : decode b_Md_fresh 30 = .ok (.iload_n 1, 1) := by decide +kernel
theorem d_Md_fresh_31 : decode b_Md_fresh 31 = .ok (.imul, 1) := by decide +kernel
theorem d_Md_fresh_32 : decode b_Md_fresh 32 = .ok (.iload 4, 2) := by decide +kernel
theorem d_Md_fresh_34 : decode b_Md_fresh 34 = .ok (.iadd, 1) := by decide +kernel
theorem d_Md_fresh_35 : decode b_Md_fresh 35 = .ok (.iconst 1, 1) := by decide +kernel
theorem d_Md_fresh_36 : decode b_Md_fresh 36 = .ok (.iastore, 1) := by decide +kernel
theorem d_Md_fresh_37 : decode b_Md_fresh 37 = .ok (.aload_n 0, 1) := by decide +kernel
theorem d_Md_fresh_38 : decode b_Md_fresh 38 = .ok (.getfield 22, 3) := by decide +kernel
theorem d_Md_fresh_41 : decode b_Md_fresh 41 = .ok (.bipush 16, 2) := by decide +kernel
theorem d_Md_fresh_43 : decode b_Md_fresh 43 = .ok (.iload_n 1, 1) := by decide +kernel
theorem d_Md_fresh_44 : decode b_Md_fresh 44 = .ok (.imul, 1) := by decide +kernel
theorem d_Md_fresh_45 : decode b_Md_fresh 45 = .ok (.iload 4, 2) := by decide +kernel
theorem d_Md_fresh_47 : decode b_Md_fresh 47 = .ok (.iadd, 1) := by decide +kernel
theorem d_Md_fresh_48 : decode b_Md_fresh 48 = .ok (.iconst 0, 1) := by decide +kernel
theorem d_Md_fresh_49 : decode b_Md_fresh 49 = .ok (.bastore, 1) := by decide +kernel
theorem d_Md_fresh_50 : decode b_Md_fresh 50 = .ok (.aload_n 0, 1) := by decide +kernel
theorem d_Md_fresh_51 : decode b_Md_fresh 51 = .ok (.getfield 19, 3) := by decide +kernel
theorem d_Md_fresh_54 : decode b_Md_fresh 54 = .ok (.iconst 3, 1) := by decide +kernel
theorem d_Md_fresh_55 : decode b_Md_fresh 55 = .ok (.bipush 16, 2) := by decide +kernel
theorem d_Md_fresh_57 : decode b_Md_fresh 57 = .ok (.iload_n 1, 1) := by decide +kernel
theorem d_Md_fresh_58 : decode b_Md_fresh 58 = .ok (.imul, 1) := by decide +kernel
theorem d_Md_fresh_59 : decode b_Md_fresh 59 = .ok (.iload 4, 2) := by decide +kernel
theorem d_Md_fresh_61 : decode b_Md_fresh 61 = .ok (.iadd, 1) := by decide +kernel
theorem d_Md_fresh_62 : decode b_Md_fresh 62 = .ok (.imul, 1) := by decide +kernel
theorem d_Md_fresh_63 : decode b_Md_fresh 63 = .ok (.iconst 0, 1) := by decide +kernel
theorem d_Md_fresh_64 : decode b_Md_fresh 64 = .ok (.iastore, 1) := by decide +kernel
theorem d_Md_fresh_65 : decode b_Md_fresh 65 = .ok (.iinc 4 1, 3) := by decide +kernel
theorem d_Md_fresh_68 : decode b_Md_fresh 68 = .ok (.goto (-51), 3) := by decide +kernel
theorem d_Md_fresh_71 : decode b_Md_fresh 71 = .ok (.return_, 1) := by decide +kernel
theorem d_Md_thrown_0 : decode b_Md_thrown 0 = .ok (.aload_n 0, 1) := by decide +kernel
theorem d_Md_thrown_1 : decode b_Md_thrown 1 = .ok (.getfield 58, 3) := by decide +kernel
theorem d_Md_thrown_4 : decode b_Md_thrown 4 = .ok (.ireturn, 1) := by decide +kernel
theorem d_Md_begin_0 : decode b_Md_begin 0 = .ok (.aload_n 0, 1) := by decide +kernel
theorem d_Md_begin_1 : decode b_Md_begin 1 = .ok (.iconst 0, 1) := by decide +kernel
theorem d_Md_begin_2 : decode b_Md_begin 2 = .ok (.putfield 58, 3) := by decide +kernel
theorem d_Md_begin_5 : decode b_Md_begin 5 = .ok (.iload_n 1, 1) := by decide +kernel
theorem d_Md_begin_6 : decode b_Md_begin 6 = .ok (.iconst 0, 1) := by decide +kernel
theorem d_Md_begin_7 : decode b_Md_begin 7 = .ok (.iconst 2, 1) := by decide +kernel
theorem d_Md_begin_8 : decode b_Md_begin 8 = .ok (.invokestatic 61, 3) := by decide +kernel
theorem d_Md_begin_11 : decode b_Md_begin 11 = .ok (.ifCond .eq 25, 3) := by decide +kernel
theorem d_Md_begin_14 : decode b_Md_begin 14 = .ok (.iload_n 2, 1) := by decide +kernel
theorem d_Md_begin_15 : decode b_Md_begin 15 = .ok (.iconst 1, 1) := by decide +kernel
theorem d_Md_begin_16 : decode b_Md_begin 16 = .ok (.bipush 16, 2) := by decide +kernel
theorem d_Md_begin_18 : decode b_Md_begin 18 = .ok (.invokestatic 61, 3) := by decide +kernel
theorem d_Md_begin_21 : decode b_Md_begin 21 = .ok (.ifCond .eq 15, 3) := by decide +kernel
theorem d_Md_begin_24 : decode b_Md_begin 24 = .ok (.iload_n 1, 1) := by decide +kernel
theorem d_Md_begin_25 : decode b_Md_begin 25 = .ok (.iconst 2, 1) := by decide +kernel
theorem d_Md_begin_26 : decode b_Md_begin 26 = .ok (.if_icmp .ne 16, 3) := by decide +kernel
theorem d_Md_begin_29 : decode b_Md_begin 29 = .ok (.iload_n 2, 1) := by decide +kernel
theorem d_Md_begin_30 : decode b_Md_begin 30 = .ok (.iconst 2, 1) := by decide +kernel
theorem d_Md_begin_31 : decode b_Md_begin 31 = .ok (.irem, 1) := by decide +kernel
theorem d_Md_begin_32 : decode b_Md_begin 32 = .ok (.iconst 1, 1) := by decide +kernel
theorem d_Md_begin_33 : decode b_Md_begin 33 = .ok (.if_icmp .ne 9, 3) := by decide +kernel
theorem d_Md_begin_36 : decode b_Md_begin 36 = .ok (.aload_n 0, 1) := by decide +kernel
theorem d_Md_begin_37 : decode b_Md_begin 37 = .ok (.iconst 1, 1) := by decide +kernel
theorem d_Md_begin_38 : decode b_Md_begin 38 = .ok (.invokevirtual 65, 3) := by decide +kernel
theorem d_Md_begin_41 : decode b_Md_begin 41 = .ok (.ireturn, 1) := by decide +kernel
theorem d_Md_begin_42 : decode b_Md_begin 42 = .ok (.aload_n 0, 1) := by decide +kernel
theorem d_Md_begin_43 : decode b_Md_begin 43 = .ok (.getfield 13, 3) := by decide +kernel
theorem d_Md_begin_46 : decode b_Md_begin 46 = .ok (.iconst 0, 1) := by decide +kernel
theorem d_Md_begin_47 : decode b_Md_begin 47 = .ok (.iaload, 1) := by decide +kernel
theorem d_Md_begin_48 : decode b_Md_begin 48 = .ok (.istore_n 3, 1) := by decide +kernel
theorem d_Md_begin_49 : decode b_Md_begin 49 = .ok (.aload_n 0, 1) := by decide +kernel
theorem d_Md_begin_50 : decode b_Md_begin 50 = .ok (.iconst 0, 1) := by decide +kernel
theorem d_Md_begin_51 : decode b_Md_begin 51 = .ok (.iload_n 1, 1) := by decide +kernel
theorem d_Md_begin_52 : decode b_Md_begin 52 = .ok (.iload_n 2, 1) := by decide +kernel
theorem d_Md_begin_53 : decode b_Md_begin 53 = .ok (.invokevirtual 54, 3) := by decide +kernel
theorem d_Md_begin_56 : decode b_Md_begin 56 = .ok (.iload_n 3, 1) := by decide +kernel
theorem d_Md_begin_57 : decode b_Md_begin 57 = .ok (.ireturn, 1) := by decide +kernel
theorem d_Md_within_0 : decode b_Md_within 0 = .ok (.iload_n 0, 1) := by decide +kernel
theorem d_Md_within_1 : decode b_Md_within 1 = .ok (.iload_n 1, 1) := by decide +kernel
theorem d_Md_within_2 : decode b_Md_within 2 = .ok (.if_icmp .lt 12, 3) := by decide +kernel
theorem d_Md_within_5 : decode b_Md_within 5 = .ok (.iload_n 0, 1) := by decide +kernel
theorem d_Md_within_6 : decode b_Md_within 6 = .ok (.iload_n 2, 1) := by decide +kernel
theorem d_Md_within_7 : decode b_Md_within 7 = .ok (.if_icmp .gt 7, 3) := by decide +kernel
theorem d_Md_within_10 : decode b_Md_within 10 = .ok (.iconst 1, 1) := by decide +kernel
theorem d_Md_within_11 : decode b_Md_within 11 = .ok (.goto 4, 3) := by decide +kernel
theorem d_Md_within_14 : decode b_Md_within 14 = .ok (.iconst 0, 1) := by decide +kernel
theorem d_Md_within_15 : decode b_Md_within 15 = .ok (.ireturn, 1) := by decide +kernel
theorem d_Md_fail_0 : decode b_Md_fail 0 = .ok (.aload_n 0, 1) := by decide +kernel
theorem d_Md_fail_1 : decode b_Md_fail 1 = .ok (.iload_n 1, 1) := by decide +kernel
theorem d_Md_fail_2 : decode b_Md_fail 2 = .ok (.putfield 58, 3) := by decide +kernel
theorem d_Md_fail_5 : decode b_Md_fail 5 = .ok (.iconst 0, 1) := by decide +kernel
theorem d_Md_fail_6 : decode b_Md_fail 6 = .ok (.ireturn, 1) := by decide +kernel
theorem d_Md_put_0 : decode b_Md_put 0 = .ok (.aload_n 0, 1) := by decide +kernel
theorem d_Md_put_1 : decode b_Md_put 1 = .ok (.iconst 0, 1) := by decide +kernel
theorem d_Md_put_2 : decode b_Md_put 2 = .ok (.putfield 58, 3) := by decide +kernel
theorem d_Md_put_5 : decode b_Md_put 5 = .ok (.aload_n 0, 1) := by decide +kernel
theorem d_Md_put_6 : decode b_Md_put 6 = .ok (.iload_n 1, 1) := by decide +kernel
theorem d_Md_put_7 : decode b_Md_put 7 = .ok (.invokevirtual 69, 3) := by decide +kernel
theorem d_Md_put_10 : decode b_Md_put 10 = .ok (.ifCond .eq 9, 3) := by decide +kernel
theorem d_Md_put_13 : decode b_Md_put 13 = .ok (.aload_n 0, 1) := by decide +kernel
theorem d_Md_put_14 : decode b_Md_put 14 = .ok (.iconst 1, 1) := by decide +kernel
theorem d_Md_put_15 : decode b_Md_put 15 = .ok (.invokevirtual 65, 3) := by decide +kernel
theorem d_Md_put_18 : decode b_Md_put 18 = .ok (.ireturn, 1) := by decide +kernel
theorem d_Md_put_19 : decode b_Md_put 19 = .ok (.iload_n 2, 1) := by decide +kernel
theorem d_Md_put_20 : decode b_Md_put 20 = .ok (.iconst 0, 1) := by decide +kernel
theorem d_Md_put_21 : decode b_Md_put 21 = .ok (.bipush 9, 2) := by decide +kernel
theorem d_Md_put_23 : decode b_Md_put 23 = .ok (.invokestatic 61, 3) := by decide +kernel
theorem d_Md_put_26 : decode b_Md_put 26 = .ok (.ifCond .eq 34, 3) := by decide +kernel
theorem d_Md_put_29 : decode b_Md_put 29 = .ok (.aload_n 0, 1) := by decide +kernel
theorem d_Md_put_30 : decode b_Md_put 30 = .ok (.getfield 7, 3) := by decide +kernel
theorem d_Md_put_33 : decode b_Md_put 33 = .ok (.iconst 0, 1) := by decide +kernel
theorem d_Md_put_34 : decode b_Md_put 34 = .ok (.iaload, 1) := by decide +kernel
theorem d_Md_put_35 : decode b_Md_put 35 = .ok (.iconst 2, 1) := by decide +kernel
theorem d_Md_put_36 : decode b_Md_put 36 = .ok (.if_icmp .ne 10, 3) := by decide +kernel
theorem d_Md_put_39 : decode b_Md_put 39 = .ok (.iload_n 2, 1) := by decide +kernel
theorem d_Md_put_40 : decode b_Md_put 40 = .ok (.iconst 2, 1) := by decide +kernel
theorem d_Md_put_41 : decode b_Md_put 41 = .ok (.irem, 1) := by decide +kernel
theorem d_Md_put_42 : decode b_Md_put 42 = .ok (.iconst 1, 1) := by decide +kernel
theorem d_Md_put_43 : decode b_Md_put 43 = .ok (.if_icmp .eq 17, 3) := by decide +kernel
theorem d_Md_put_46 : decode b_Md_put 46 = .ok (.iload_n 3, 1) := by decide +kernel
theorem d_Md_put_47 : decode b_Md_put 47 = .ok (.ifCond .eq 19, 3) := by decide +kernel
theorem d_Md_put_50 : decode b_Md_put 50 = .ok (.aload_n 0, 1) := by decide +kernel
theorem d_Md_put_51 : decode b_Md_put 51 = .ok (.getfield 7, 3) := by decide +kernel
theorem d_Md_put_54 : decode b_Md_put 54 = .ok (.iconst 0, 1) := by decide +kernel
theorem d_Md_put_55 : decode b_Md_put 55 = .ok (.iaload, 1) := by decide +kernel
theorem d_Md_put_56 : decode b_Md_put 56 = .ok (.iconst 2, 1) := by decide +kernel
theorem d_Md_put_57 : decode b_Md_put 57 = .ok (.if_icmp .eq 9, 3) := by decide +kernel
theorem d_Md_put_60 : decode b_Md_put 60 = .ok (.aload_n 0, 1) := by decide +kernel
theorem d_Md_put_61 : decode b_Md_put 61 = .ok (.iconst 2, 1) := by decide +kernel
theorem d_Md_put_62 : decode b_Md_put 62 = .ok (.invokevirtual 65, 3) := by decide +kernel
theorem d_Md_put_65 : decode b_Md_put 65 = .ok (.ireturn, 1) := by decide +kernel
theorem d_Md_put_66 : decode b_Md_put 66 = .ok (.aload_n 0, 1) := by decide +kernel
theorem d_Md_put_67 : decode b_Md_put 67 = .ok (.iconst 0, 1) := by decide +kernel
theorem d_Md_put_68 : decode b_Md_put 68 = .ok (.iload_n 1, 1) := by decide +kernel
theorem d_Md_put_69 : decode b_Md_put 69 = .ok (.iconst 0, 1) := by decide +kernel
theorem d_Md_put_70 : decode b_Md_put 70 = .ok (.invokevirtual 73, 3) := by decide +kernel
theorem d_Md_put_73 : decode b_Md_put 73 = .ok (.istore 4, 2) := by decide +kernel
theorem d_Md_put_75 : decode b_Md_put 75 = .ok (.aload_n 0, 1) := by decide +kernel
theorem d_Md_put_76 : decode b_Md_put 76 = .ok (.getfield 19, 3) := by decide +kernel
theorem d_Md_put_79 : decode b_Md_put 79 = .ok (.iconst 3, 1) := by decide +kernel
theorem d_Md_put_80 : decode b_Md_put 80 = .ok (.iload_n 1, 1) := by decide +kernel
theorem d_Md_put_81 : decode b_Md_put 81 = .ok (.imul, 1) := by decide +kernel
theorem d_Md_put_82 : decode b_Md_put 82 = .ok (.iload_n 2, 1) := by decide +kernel
theorem d_Md_put_83 : decode b_Md_put 83 = .ok (.iastore, 1) := by decide +kernel
theorem d_Md_put_84 : decode b_Md_put 84 = .ok (.aload_n 0, 1) := by decide +kernel
theorem d_Md_put_85 : decode b_Md_put 85 = .ok (.getfield 22, 3) := by decide +kernel
theorem d_Md_put_88 : decode b_Md_put 88 = .ok (.iload_n 1, 1) := by decide +kernel
theorem d_Md_put_89 : decode b_Md_put 89 = .ok (.iload_n 3, 1) := by decide +kernel
theorem d_Md_put_90 : decode b_Md_put 90 = .ok (.bastore, 1) := by decide +kernel
theorem d_Md_put_91 : decode b_Md_put 91 = .ok (.iload 4, 2) := by decide +kernel
theorem d_Md_put_93 : decode b_Md_put 93 = .ok (.ireturn, 1) := by decide +kernel
theorem d_Md_noSite_0 : decode b_Md_noSite 0 = .ok (.iload_n 1, 1) := by decide +kernel
theorem d_Md_noSite_1 : decode b_Md_noSite 1 = .ok (.iconst 0, 1) := by decide +kernel
theorem d_Md_noSite_2 : decode b_Md_noSite 2 = .ok (.aload_n 0, 1) := by decide +kernel
theorem d_Md_noSite_3 : decode b_Md_noSite 3 = .ok (.getfield 13, 3) := by decide +kernel
theorem d_Md_noSite_6 : decode b_Md_noSite 6 = .ok (.iconst 0, 1) := by decide +kernel
theorem d_Md_noSite_7 : decode b_Md_noSite 7 = .ok (.iaload, 1) := by decide +kernel
theorem d_Md_noSite_8 : decode b_Md_noSite 8 = .ok (.iconst 1, 1) := by decide +kernel
theorem d_Md_noSite_9 : decode b_Md_noSite 9 = .ok (.isub, 1) := by decide +kernel
theorem d_Md_noSite_10 : decode b_Md_noSite 10 = .ok (.invokestatic 61, 3) := by decide +kernel
theorem d_Md_noSite_13 : decode b_Md_noSite 13 = .ok (.ifCond .ne 7, 3) := by decide +kernel
theorem d_Md_noSite_16 : decode b_Md_noSite 16 = .ok (.iconst 1, 1) := by decide +kernel
theorem d_Md_noSite_17 : decode b_Md_noSite 17 = .ok (.goto 4, 3) := by decide +kernel
theorem d_Md_noSite_20 : decode b_Md_noSite 20 = .ok (.iconst 0, 1) := by decide +kernel
theorem d_Md_noSite_21 : decode b_Md_noSite 21 = .ok (.ireturn, 1) := by decide +kernel
theorem d_Md_tall_0 : decode b_Md_tall 0 = .ok (.aload_n 0, 1) := by decide +kernel
theorem d_Md_tall_1 : decode b_Md_tall 1 = .ok (.getfield 19, 3) := by decide +kernel
theorem d_Md_tall_4 : decode b_Md_tall 4 = .ok (.iconst 3, 1) := by decide +kernel
theorem d_Md_tall_5 : decode b_Md_tall 5 = .ok (.bipush 16, 2) := by decide +kernel
theorem d_Md_tall_7 : decode b_Md_tall 7 = .ok (.iload_n 1, 1) := by decide +kernel
theorem d_Md_tall_8 : decode b_Md_tall 8 = .ok (.imul, 1) := by decide +kernel
theorem d_Md_tall_9 : decode b_Md_tall 9 = .ok (.iload_n 2, 1) := by decide +kernel
theorem d_Md_tall_10 : decode b_Md_tall 10 = .ok (.iadd, 1) := by decide +kernel
theorem d_Md_tall_11 : decode b_Md_tall 11 = .ok (.imul, 1) := by decide +kernel
theorem d_Md_tall_12 : decode b_Md_tall 12 = .ok (.iload_n 3, 1) := by decide +kernel
theorem d_Md_tall_13 : decode b_Md_tall 13 = .ok (.iadd, 1) := by decide +kernel
theorem d_Md_tall_14 : decode b_Md_tall 14 = .ok (.iaload, 1) := by decide +kernel
theorem d_Md_tall_15 : decode b_Md_tall 15 = .ok (.ireturn, 1) := by decide +kernel
theorem d_Md_add_0 : decode b_Md_add 0 = .ok (.aload_n 0, 1) := by decide +kernel
theorem d_Md_add_1 : decode b_Md_add 1 = .ok (.iconst 0, 1) := by decide +kernel
theorem d_Md_add_2 : decode b_Md_add 2 = .ok (.putfield 58, 3) := by decide +kernel
theorem d_Md_add_5 : decode b_Md_add 5 = .ok (.aload_n 0, 1) := by decide +kernel
theorem d_Md_add_6 : decode b_Md_add 6 = .ok (.getfield 7, 3) := by decide +kernel
theorem d_Md_add_9 : decode b_Md_add 9 = .ok (.iconst 0, 1) := by decide +kernel
theorem d_Md_add_10 : decode b_Md_add 10 = .ok (.iaload, 1) := by decide +kernel
theorem d_Md_add_11 : decode b_Md_add 11 = .ok (.iconst 1, 1) := by decide +kernel
theorem d_Md_add_12 : decode b_Md_add 12 = .ok (.if_icmp .eq 9, 3) := by decide +kernel
theorem d_Md_add_15 : decode b_Md_add 15 = .ok (.aload_n 0, 1) := by decide +kernel
theorem d_Md_add_16 : decode b_Md_add 16 = .ok (.iconst 1, 1) := by decide +kernel
theorem d_Md_add_17 : decode b_Md_add 17 = .ok (.invokevirtual 65, 3) := by decide +kernel
theorem d_Md_add_20 : decode b_Md_add 20 = .ok (.ireturn, 1) := by decide +kernel
theorem d_Md_add_21 : decode b_Md_add 21 = .ok (.aload_n 0, 1) := by decide +kernel
theorem d_Md_add_22 : decode b_Md_add 22 = .ok (.iload_n 1, 1) := by decide +kernel
theorem d_Md_add_23 : decode b_Md_add 23 = .ok (.invokevirtual 69, 3) := by decide +kernel
theorem d_Md_add_26 : decode b_Md_add 26 = .ok (.ifCond .eq 9, 3) := by decide +kernel
theorem d_Md_add_29 : decode b_Md_add 29 = .ok (.aload_n 0, 1) := by decide +kernel
theorem d_Md_add_30 : decode b_Md_add 30 = .ok (.iconst 2, 1) := by decide +kernel
theorem d_Md_add_31 : decode b_Md_add 31 = .ok (.invokevirtual 65, 3) := by decide +kernel
theorem d_Md_add_34 : decode b_Md_add 34 = .ok (.ireturn, 1) := by decide +kernel
theorem d_Md_add_35 : decode b_Md_add 35 = .ok (.aload_n 0, 1) := by decide +kernel
theorem d_Md_add_36 : decode b_Md_add 36 = .ok (.getfield 16, 3) := by decide +kernel
theorem d_Md_add_39 : decode b_Md_add 39 = .ok (.iload_n 1, 1) := by decide +kernel
theorem d_Md_add_40 : decode b_Md_add 40 = .ok (.iaload, 1) := by decide +kernel
theorem d_Md_add_41 : decode b_Md_add 41 = .ok (.iconst 3, 1) := by decide +kernel
theorem d_Md_add_42 : decode b_Md_add 42 = .ok (.if_icmp .ne 9, 3) := by decide +kernel
theorem d_Md_add_45 : decode b_Md_add 45 = .ok (.aload_n 0, 1) := by decide +kernel
theorem d_Md_add_46 : decode b_Md_add 46 = .ok (.iconst 1, 1) := by decide +kernel
theorem d_Md_add_47 : decode b_Md_add 47 = .ok (.invokevirtual 65, 3) := by decide +kernel
theorem d_Md_add_50 : decode b_Md_add 50 = .ok (.ireturn, 1) := by decide +kernel
theorem d_Md_add_51 : decode b_Md_add 51 = .ok (.iload_n 2, 1) := by decide +kernel
theorem d_Md_add_52 : decode b_Md_add 52 = .ok (.iconst 0, 1) := by decide +kernel
theorem d_Md_add_53 : decode b_Md_add 53 = .ok (.bipush 9, 2) := by decide +kernel
theorem d_Md_add_55 : decode b_Md_add 55 = .ok (.invokestatic 61, 3) := by decide +kernel
theorem d_Md_add_58 : decode b_Md_add 58 = .ok (.ifCond .ne 9, 3) := by decide +kernel
theorem d_Md_add_61 : decode b_Md_add 61 = .ok (.aload_n 0, 1) := by decide +kernel
theorem d_Md_add_62 : decode b_Md_add 62 = .ok (.iconst 3, 1) := by decide +kernel
theorem d_Md_add_63 : decode b_Md_add 63 = .ok (.invokevirtual 65, 3) := by decide +kernel
theorem d_Md_add_66 : decode b_Md_add 66 = .ok (.ireturn, 1) := by decide +kernel
theorem d_Md_add_67 : decode b_Md_add 67 = .ok (.aload_n 0, 1) := by decide +kernel
theorem d_Md_add_68 : decode b_Md_add 68 = .ok (.getfield 19, 3) := by decide +kernel
theorem d_Md_add_71 : decode b_Md_add 71 = .ok (.iconst 3, 1) := by decide +kernel
theorem d_Md_add_72 : decode b_Md_add 72 = .ok (.iload_n 1, 1) := by decide +kernel
theorem d_Md_add_73 : decode b_Md_add 73 = .ok (.imul, 1) := by decide +kernel
theorem d_Md_add_74 : decode b_Md_add 74 = .ok (.aload_n 0, 1) := by decide +kernel
theorem d_Md_add_75 : decode b_Md_add 75 = .ok (.getfield 16, 3) := by decide +kernel
theorem d_Md_add_78 : decode b_Md_add 78 = .ok (.iload_n 1, 1) := by decide +kernel
theorem d_Md_add_79 : decode b_Md_add 79 = .ok (.iaload, 1) := by decide +kernel
theorem d_Md_add_80 : decode b_Md_add 80 = .ok (.iadd, 1) := by decide +kernel
theorem d_Md_add_81 : decode b_Md_add 81 = .ok (.iload_n 2, 1) := by decide +kernel
theorem d_Md_add_82 : decode b_Md_add 82 = .ok (.iastore, 1) := by decide +kernel
theorem d_Md_add_83 : decode b_Md_add 83 = .ok (.aload_n 0, 1) := by decide +kernel
theorem d_Md_add_84 : decode b_Md_add 84 = .ok (.getfield 16, 3) := by decide +kernel
theorem d_Md_add_87 : decode b_Md_add 87 = .ok (.iload_n 1, 1) := by decide +kernel
theorem d_Md_add_88 : decode b_Md_add 88 = .ok (.dup2, 1) := by decide +kernel
theorem d_Md_add_89 : decode b_Md_add 89 = .ok (.iaload, 1) := by decide +kernel
theorem d_Md_add_90 : decode b_Md_add 90 = .ok (.iconst 1, 1) := by decide +kernel
theorem d_Md_add_91 : decode b_Md_add 91 = .ok (.iadd, 1) := by decide +kernel
theorem d_Md_add_92 : decode b_Md_add 92 = .ok (.iastore, 1) := by decide +kernel
theorem d_Md_add_93 : decode b_Md_add 93 = .ok (.aload_n 0, 1) := by decide +kernel
theorem d_Md_add_94 : decode b_Md_add 94 = .ok (.getfield 16, 3) := by decide +kernel
theorem d_Md_add_97 : decode b_Md_add 97 = .ok (.iload_n 1, 1) := by decide +kernel
theorem d_Md_add_98 : decode b_Md_add 98 = .ok (.iaload, 1) := by decide +kernel
theorem d_Md_add_99 : decode b_Md_add 99 = .ok (.ireturn, 1) := by decide +kernel
theorem d_Md_valid_0 : decode b_Md_valid 0 = .ok (.aload_n 0, 1) := by decide +kernel
theorem d_Md_valid_1 : decode b_Md_valid 1 = .ok (.iconst 0, 1) := by decide +kernel
theorem d_Md_valid_2 : decode b_Md_valid 2 = .ok (.putfield 58, 3) := by decide +kernel
theorem d_Md_valid_5 : decode b_Md_valid 5 = .ok (.aload_n 0, 1) := by decide +kernel
theorem d_Md_valid_6 : decode b_Md_valid 6 = .ok (.iconst 0, 1) := by decide +kernel
theorem d_Md_valid_7 : decode b_Md_valid 7 = .ok (.invokevirtual 87, 3) := by decide +kernel
theorem d_Md_valid_10 : decode b_Md_valid 10 = .ok (.ireturn, 1) := by decide +kernel
theorem d_Md_isValid_0 : decode b_Md_isValid 0 = .ok (.iconst 1, 1) := by decide +kernel
theorem d_Md_isValid_1 : decode b_Md_isValid 1 = .ok (.istore_n 2, 1) := by decide +kernel
theorem d_Md_isValid_2 : decode b_Md_isValid 2 = .ok (.iconst 0, 1) := by decide +kernel
theorem d_Md_isValid_3 : decode b_Md_isValid 3 = .ok (.istore_n 3, 1) := by decide +kernel
theorem d_Md_isValid_4 : decode b_Md_isValid 4 = .ok (.iload_n 3, 1) := by decide +kernel
theorem d_Md_isValid_5 : decode b_Md_isValid 5 = .ok (.aload_n 0, 1) := by decide +kernel
theorem d_Md_isValid_6 : decode b_Md_isValid 6 = .ok (.getfield 13, 3) := by decide +kernel
theorem d_Md_isValid_9 : decode b_Md_isValid 9 = .ok (.iload_n 1, 1) := by decide +kernel
theorem d_Md_isValid_10 : decode b_Md_isValid 10 = .ok (.iaload, 1) := by decide +kernel
theorem d_Md_isValid_11 : decode b_Md_isValid 11 = .ok (.if_icmp .ge 34, 3) := by decide +kernel
theorem d_Md_isValid_14 : decode b_Md_isValid 14 = .ok (.iload_n 2, 1) := by decide +kernel
theorem d_Md_isValid_15 : decode b_Md_isValid 15 = .ok (.ifCond .eq 22, 3) := by decide +kernel
theorem d_Md_isValid_18 : decode b_Md_isValid 18 = .ok (.aload_n 0, 1) := by decide +kernel
theorem d_Md_isValid_19 : decode b_Md_isValid 19 = .ok (.iload_n 1, 1) := by decide +kernel
theorem d_Md_isValid_20 : decode b_Md_isValid 20 = .ok (.iload_n 3, 1) := by decide +kernel
theorem d_Md_isValid_21 : decode b_Md_isValid 21 = .ok (.invokevirtual 80, 3) := by decide +kernel
theorem d_Md_isValid_24 : decode b_Md_isValid 24 = .ok (.aload_n 0, 1) := by decide +kernel
theorem d_Md_isValid_25 : decode b_Md_isValid 25 = .ok (.iload_n 1, 1) := by decide +kernel
theorem d_Md_isValid_26 : decode b_Md_isValid 26 = .ok (.iload_n 3, 1) := by decide +kernel
theorem d_Md_isValid_27 : decode b_Md_isValid 27 = .ok (.invokevirtual 84, 3) := by decide +kernel
theorem d_Md_isValid_30 : decode b_Md_isValid 30 = .ok (.if_icmp .ne 7, 3) := by decide +kernel
theorem d_Md_isValid_33 : decode b_Md_isValid 33 = .ok (.iconst 1, 1) := by decide +kernel
theorem d_Md_isValid_34 : decode b_Md_isValid 34 = .ok (.goto 4, 3) := by decide +kernel
theorem d_Md_isValid_37 : decode b_Md_isValid 37 = .ok (.iconst 0, 1) := by decide +kernel
theorem d_Md_isValid_38 : decode b_Md_isValid 38 = .ok (.istore_n 2, 1) := by decide +kernel
theorem d_Md_isValid_39 : decode b_Md_isValid 39 = .ok (.iinc 3 1, 3) := by decide +kernel
theorem d_Md_isValid_42 : decode b_Md_isValid 42 = .ok (.goto (-38), 3) := by decide +kernel
theorem d_Md_isValid_45 : decode b_Md_isValid 45 = .ok (.iload_n 2, 1) := by decide +kernel
theorem d_Md_isValid_46 : decode b_Md_isValid 46 = .ok (.ireturn, 1) := by decide +kernel
theorem d_Md_landing_0 : decode b_Md_landing 0 = .ok (.iconst 0, 1) := by decide +kernel
theorem d_Md_landing_1 : decode b_Md_landing 1 = .ok (.istore_n 3, 1) := by decide +kernel
theorem d_Md_landing_2 : decode b_Md_landing 2 = .ok (.iconst 0, 1) := by decide +kernel
theorem d_Md_landing_3 : decode b_Md_landing 3 = .ok (.istore 4, 2) := by decide +kernel
theorem d_Md_landing_5 : decode b_Md_landing 5 = .ok (.iload 4, 2) := by decide +kernel
theorem d_Md_landing_7 : decode b_Md_landing 7 = .ok (.aload_n 0, 1) := by decide +kernel
theorem d_Md_landing_8 : decode b_Md_landing 8 = .ok (.getfield 13, 3) := by decide +kernel
theorem d_Md_landing_11 : decode b_Md_landing 11 = .ok (.iload_n 1, 1) := by decide +kernel
theorem d_Md_landing_12 : decode b_Md_landing 12 = .ok (.iaload, 1) := by decide +kernel
theorem d_Md_landing_13 : decode b_Md_landing 13 = .ok (.if_icmp .ge 68, 3) := by decide +kernel
theorem d_Md_landing_16 : decode b_Md_landing 16 = .ok (.iconst 0, 1) := by decide +kernel
theorem d_Md_landing_17 : decode b_Md_landing 17 = .ok (.istore 5, 2) := by decide +kernel
theorem d_Md_landing_19 : decode b_Md_landing 19 = .ok (.iload 5, 2) := by decide +kernel
theorem d_Md_landing_21 : decode b_Md_landing 21 = .ok (.aload_n 0, 1) := by decide +kernel
theorem d_Md_landing_22 : decode b_Md_landing 22 = .ok (.getfield 16, 3) := by decide +kernel
theorem d_Md_landing_25 : decode b_Md_landing 25 = .ok (.bipush 16, 2) := by decide +kernel
theorem d_Md_landing_27 : decode b_Md_landing 27 = .ok (.iload_n 1, 1) := by decide +kernel
theorem d_Md_landing_28 : decode b_Md_landing 28 = .ok (.imul, 1) := by decide +kernel
theorem d_Md_landing_29 : decode b_Md_landing 29 = .ok (.iload 4, 2) := by decide +kernel
theorem d_Md_landing_31 : decode b_Md_landing 31 = .ok (.iadd, 1) := by decide +kernel
theorem d_Md_landing_32 : decode b_Md_landing 32 = .ok (.iaload, 1) := by decide +kernel
theorem d_Md_landing_33 : decode b_Md_landing 33 = .ok (.if_icmp .ge 42, 3) := by decide +kernel
theorem d_Md_landing_36 : decode b_Md_landing 36 = .ok (.iload_n 3, 1) := by decide +kernel
theorem d_Md_landing_37 : decode b_Md_landing 37 = .ok (.aload_n 0, 1) := by decide +kernel
theorem d_Md_landing_38 : decode b_Md_landing 38 = .ok (.iload_n 1, 1) := by decide +kernel
theorem d_Md_landing_39 : decode b_Md_landing 39 = .ok (.iload 4, 2) := by decide +kernel
theorem d_Md_landing_41 : decode b_Md_landing 41 = .ok (.iload 5, 2) := by decide +kernel
theorem d_Md_landing_43 : decode b_Md_landing 43 = .ok (.invokevirtual 73, 3) := by decide +kernel
theorem d_Md_landing_46 : decode b_Md_landing 46 = .ok (.ifCond .le 20, 3) := by decide +kernel
theorem d_Md_landing_49 : decode b_Md_landing 49 = .ok (.aload_n 0, 1) := by decide +kernel
theorem d_Md_landing_50 : decode b_Md_landing 50 = .ok (.iload_n 1, 1) := by decide +kernel
theorem d_Md_landing_51 : decode b_Md_landing 51 = .ok (.iload 4, 2) := by decide +kernel
theorem d_Md_landing_53 : decode b_Md_landing 53 = .ok (.iload 5, 2) := by decide +kernel
theorem d_Md_landing_55 : decode b_Md_landing 55 = .ok (.invokevirtual 77, 3) := by decide +kernel
theorem d_Md_landing_58 : decode b_Md_landing 58 = .ok (.iload_n 2, 1) := by decide +kernel
theorem d_Md_landing_59 : decode b_Md_landing 59 = .ok (.if_icmp .ne 7, 3) := by decide +kernel
theorem d_Md_landing_62 : decode b_Md_landing 62 = .ok (.iconst 1, 1) := by decide +kernel
theorem d_Md_landing_63 : decode b_Md_landing 63 = .ok (.goto 4, 3) := by decide +kernel
theorem d_Md_landing_66 : decode b_Md_landing 66 = .ok (.iconst 0, 1) := by decide +kernel
theorem d_Md_landing_67 : decode b_Md_landing 67 = .ok (.iadd, 1) := by decide +kernel
theorem d_Md_landing_68 : decode b_Md_landing 68 = .ok (.istore_n 3, 1) := by decide +kernel
theorem d_Md_landing_69 : decode b_Md_landing 69 = .ok (.iinc 5 1, 3) := by decide +kernel
theorem d_Md_landing_72 : decode b_Md_landing 72 = .ok (.goto (-53), 3) := by decide +kernel
theorem d_Md_landing_75 : decode b_Md_landing 75 = .ok (.iinc 4 1, 3) := by decide +kernel
theorem d_Md_landing_78 : decode b_Md_landing 78 = .ok (.goto (-73), 3) := by decide +kernel
theorem d_Md_landing_81 : decode b_Md_landing 81 = .ok (.iload_n 3, 1) := by decide +kernel
theorem d_Md_landing_82 : decode b_Md_landing 82 = .ok (.ireturn, 1) := by decide +kernel
theorem d_Md_target_0 : decode b_Md_target 0 = .ok (.aload_n 0, 1) := by decide +kernel
theorem d_Md_target_1 : decode b_Md_target 1 = .ok (.getfield 13, 3) := by decide +kernel
theorem d_Md_target_4 : decode b_Md_target 4 = .ok (.iload_n 1, 1) := by decide +kernel
theorem d_Md_target_5 : decode b_Md_target 5 = .ok (.iaload, 1) := by decide +kernel
theorem d_Md_target_6 : decode b_Md_target 6 = .ok (.istore 4, 2) := by decide +kernel
theorem d_Md_target_8 : decode b_Md_target 8 = .ok (.aload_n 0, 1) := by decide +kernel
theorem d_Md_target_9 : decode b_Md_target 9 = .ok (.getfield 7, 3) := by decide +kernel
theorem d_Md_target_12 : decode b_Md_target 12 = .ok (.iload_n 1, 1) := by decide +kernel
theorem d_Md_target_13 : decode b_Md_target 13 = .ok (.iaload, 1) := by decide +kernel
theorem d_Md_target_14 : decode b_Md_target 14 = .ok (.iconst 2, 1) := by decide +kernel
theorem d_Md_target_15 : decode b_Md_target 15 = .ok (.if_icmp .ge 16, 3) := by decide +kernel
theorem d_Md_target_18 : decode b_Md_target 18 = .ok (.iload_n 2, 1) := by decide +kernel
theorem d_Md_target_19 : decode b_Md_target 19 = .ok (.aload_n 0, 1) := by decide +kernel
theorem d_Md_target_20 : decode b_Md_target 20 = .ok (.iload_n 1, 1) := by decide +kernel
theorem d_Md_target_21 : decode b_Md_target 21 = .ok (.iload_n 2, 1) := by decide +kernel
theorem d_Md_target_22 : decode b_Md_target 22 = .ok (.iload_n 3, 1) := by decide +kernel
theorem d_Md_target_23 : decode b_Md_target 23 = .ok (.invokevirtual 73, 3) := by decide +kernel
theorem d_Md_target_26 : decode b_Md_target 26 = .ok (.iadd, 1) := by decide +kernel
theorem d_Md_target_27 : decode b_Md_target 27 = .ok (.iload 4, 2) := by decide +kernel
theorem d_Md_target_29 : decode b_Md_target 29 = .ok (.irem, 1) := by decide +kernel
theorem d_Md_target_30 : decode b_Md_target 30 = .ok (.ireturn, 1) := by decide +kernel
theorem d_Md_target_31 : decode b_Md_target 31 = .ok (.aload_n 0, 1) := by decide +kernel
theorem d_Md_target_32 : decode b_Md_target 32 = .ok (.getfield 22, 3) := by decide +kernel
theorem d_Md_target_35 : decode b_Md_target 35 = .ok (.bipush 16, 2) := by decide +kernel
theorem d_Md_target_37 : decode b_Md_target 37 = .ok (.iload_n 1, 1) := by decide +kernel
theorem d_Md_target_38 : decode b_Md_target 38 = .ok (.imul, 1) := by decide +kernel
theorem d_Md_target_39 : decode b_Md_target 39 = .ok (.iload_n 2, 1) := by decide +kernel
theorem d_Md_target_40 : decode b_Md_target 40 = .ok (.iadd, 1) := by decide +kernel
theorem d_Md_target_41 : decode b_Md_target 41 = .ok (.baload, 1) := by decide +kernel
theorem d_Md_target_42 : decode b_Md_target 42 = .ok (.ifCond .eq 11, 3) := by decide +kernel
theorem d_Md_target_45 : decode b_Md_target 45 = .ok (.iconst 1, 1) := by decide +kernel
theorem d_Md_target_46 : decode b_Md_target 46 = .ok (.iload_n 2, 1) := by decide +kernel
theorem d_Md_target_47 : decode b_Md_target 47 = .ok (.iconst 2, 1) := by decide +kernel
theorem d_Md_target_48 : decode b_Md_target 48 = .ok (.irem, 1) := by decide +kernel
theorem d_Md_target_49 : decode b_Md_target 49 = .ok (.isub, 1) := by decide +kernel
theorem d_Md_target_50 : decode b_Md_target 50 = .ok (.goto 6, 3) := by decide +kernel
theorem d_Md_target_53 : decode b_Md_target 53 = .ok (.iload_n 2, 1) := by decide +kernel
theorem d_Md_target_54 : decode b_Md_target 54 = .ok (.iconst 2, 1) := by decide +kernel
theorem d_Md_target_55 : decode b_Md_target 55 = .ok (.irem, 1) := by decide +kernel
theorem d_Md_target_56 : decode b_Md_target 56 = .ok (.istore 5, 2) := by decide +kernel
theorem d_Md_target_58 : decode b_Md_target 58 = .ok (.iload_n 2, 1) := by decide +kernel
theorem d_Md_target_59 : decode b_Md_target 59 = .ok (.iload_n 2, 1) := by decide +kernel
theorem d_Md_target_60 : decode b_Md_target 60 = .ok (.iconst 2, 1) := by decide +kernel
theorem d_Md_target_61 : decode b_Md_target 61 = .ok (.irem, 1) := by decide +kernel
theorem d_Md_target_62 : decode b_Md_target 62 = .ok (.isub, 1) := by decide +kernel
theorem d_Md_target_63 : decode b_Md_target 63 = .ok (.aload_n 0, 1) := by decide +kernel
theorem d_Md_target_64 : decode b_Md_target 64 = .ok (.iload_n 1, 1) := by decide +kernel
theorem d_Md_target_65 : decode b_Md_target 65 = .ok (.iload_n 2, 1) := by decide +kernel
theorem d_Md_target_66 : decode b_Md_target 66 = .ok (.iload_n 3, 1) := by decide +kernel
theorem d_Md_target_67 : decode b_Md_target 67 = .ok (.invokevirtual 73, 3) := by decide +kernel
theorem d_Md_target_70 : decode b_Md_target 70 = .ok (.iadd, 1) := by decide +kernel
theorem d_Md_target_71 : decode b_Md_target 71 = .ok (.iload 4, 2) := by decide +kernel
theorem d_Md_target_73 : decode b_Md_target 73 = .ok (.irem, 1) := by decide +kernel
theorem d_Md_target_74 : decode b_Md_target 74 = .ok (.iload 5, 2) := by decide +kernel
theorem d_Md_target_76 : decode b_Md_target 76 = .ok (.iadd, 1) := by decide +kernel
theorem d_Md_target_77 : decode b_Md_target 77 = .ok (.ireturn, 1) := by decide +kernel
theorem d_Md_throwsAt_0 : decode b_Md_throwsAt 0 = .ok (.iconst 0, 1) := by decide +kernel
theorem d_Md_throwsAt_1 : decode b_Md_throwsAt 1 = .ok (.istore_n 3, 1) := by decide +kernel
theorem d_Md_throwsAt_2 : decode b_Md_throwsAt 2 = .ok (.iconst 0, 1) := by decide +kernel
theorem d_Md_throwsAt_3 : decode b_Md_throwsAt 3 = .ok (.istore 4, 2) := by decide +kernel
theorem d_Md_throwsAt_5 : decode b_Md_throwsAt 5 = .ok (.iload 4, 2) := by decide +kernel
theorem d_Md_throwsAt_7 : decode b_Md_throwsAt 7 = .ok (.aload_n 0, 1) := by decide +kernel
theorem d_Md_throwsAt_8 : decode b_Md_throwsAt 8 = .ok (.getfield 16, 3) := by decide +kernel
theorem d_Md_throwsAt_11 : decode b_Md_throwsAt 11 = .ok (.bipush 16, 2) := by decide +kernel
theorem d_Md_throwsAt_13 : decode b_Md_throwsAt 13 = .ok (.iload_n 1, 1) := by decide +kernel
theorem d_Md_throwsAt_14 : decode b_Md_throwsAt 14 = .ok (.imul, 1) := by decide +kernel
theorem d_Md_throwsAt_15 : decode b_Md_throwsAt 15 = .ok (.iload_n 2, 1) := by decide +kernel
theorem d_Md_throwsAt_16 : decode b_Md_throwsAt 16 = .ok (.iadd, 1) := by decide +kernel
theorem d_Md_throwsAt_17 : decode b_Md_throwsAt 17 = .ok (.iaload, 1) := by decide +kernel
theorem d_Md_throwsAt_18 : decode b_Md_throwsAt 18 = .ok (.if_icmp .ge 28, 3) := by decide +kernel
theorem d_Md_throwsAt_21 : decode b_Md_throwsAt 21 = .ok (.iload_n 3, 1) := by decide +kernel
theorem d_Md_throwsAt_22 : decode b_Md_throwsAt 22 = .ok (.aload_n 0, 1) := by decide +kernel
theorem d_Md_throwsAt_23 : decode b_Md_throwsAt 23 = .ok (.iload_n 1, 1) := by decide +kernel
theorem d_Md_throwsAt_24 : decode b_Md_throwsAt 24 = .ok (.iload_n 2, 1) := by decide +kernel
theorem d_Md_throwsAt_25 : decode b_Md_throwsAt 25 = .ok (.iload 4, 2) := by decide +kernel
theorem d_Md_throwsAt_27 : decode b_Md_throwsAt 27 = .ok (.invokevirtual 73, 3) := by decide +kernel
theorem d_Md_throwsAt_30 : decode b_Md_throwsAt 30 = .ok (.ifCond .le 7, 3) := by decide +kernel
theorem d_Md_throwsAt_33 : decode b_Md_throwsAt 33 = .ok (.iconst 1, 1) := by decide +kernel
theorem d_Md_throwsAt_34 : decode b_Md_throwsAt 34 = .ok (.goto 4, 3) := by decide +kernel
theorem d_Md_throwsAt_37 : decode b_Md_throwsAt 37 = .ok (.iconst 0, 1) := by decide +kernel
theorem d_Md_throwsAt_38 : decode b_Md_throwsAt 38 = .ok (.iadd, 1) := by decide +kernel
theorem d_Md_throwsAt_39 : decode b_Md_throwsAt 39 = .ok (.istore_n 3, 1) := by decide +kernel
theorem d_Md_throwsAt_40 : decode b_Md_throwsAt 40 = .ok (.iinc 4 1, 3) := by decide +kernel
theorem d_Md_throwsAt_43 : decode b_Md_throwsAt 43 = .ok (.goto (-38), 3) := by decide +kernel
theorem d_Md_throwsAt_46 : decode b_Md_throwsAt 46 = .ok (.iload_n 3, 1) := by decide +kernel
theorem d_Md_throwsAt_47 : decode b_Md_throwsAt 47 = .ok (.ireturn, 1) := by decide +kernel
theorem d_Md_clash_0 : decode b_Md_clash 0 = .ok (.aload_n 0, 1) := by decide +kernel
theorem d_Md_clash_1 : decode b_Md_clash 1 = .ok (.iconst 0, 1) := by decide +kernel
theorem d_Md_clash_2 : decode b_Md_clash 2 = .ok (.putfield 58, 3) := by decide +kernel
theorem d_Md_clash_5 : decode b_Md_clash 5 = .ok (.aload_n 0, 1) := by decide +kernel
theorem d_Md_clash_6 : decode b_Md_clash 6 = .ok (.getfield 13, 3) := by decide +kernel
theorem d_Md_clash_9 : decode b_Md_clash 9 = .ok (.iconst 0, 1) := by decide +kernel
theorem d_Md_clash_10 : decode b_Md_clash 10 = .ok (.iaload, 1) := by decide +kernel
theorem d_Md_clash_11 : decode b_Md_clash 11 = .ok (.istore_n 1, 1) := by decide +kernel
theorem d_Md_clash_12 : decode b_Md_clash 12 = .ok (.iconst 0, 1) := by decide +kernel
theorem d_Md_clash_13 : decode b_Md_clash 13 = .ok (.istore_n 2, 1) := by decide +kernel
theorem d_Md_clash_14 : decode b_Md_clash 14 = .ok (.iload_n 2, 1) := by decide +kernel
theorem d_Md_clash_15 : decode b_Md_clash 15 = .ok (.iload_n 1, 1) := by decide +kernel
theorem d_Md_clash_16 : decode b_Md_clash 16 = .ok (.if_icmp .ge 98, 3) := by decide +kernel
theorem d_Md_clash_19 : decode b_Md_clash 19 = .ok (.aload_n 0, 1) := by decide +kernel
theorem d_Md_clash_20 : decode b_Md_clash 20 = .ok (.getfield 7, 3) := by decide +kernel
theorem d_Md_clash_23 : decode b_Md_clash 23 = .ok (.iconst 0, 1) := by decide +kernel
theorem d_Md_clash_24 : decode b_Md_clash 24 = .ok (.iaload, 1) := by decide +kernel
theorem d_Md_clash_25 : decode b_Md_clash 25 = .ok (.iconst 1, 1) := by decide +kernel
theorem d_Md_clash_26 : decode b_Md_clash 26 = .ok (.if_icmp .ne 20, 3) := by decide +kernel
theorem d_Md_clash_29 : decode b_Md_clash 29 = .ok (.aload_n 0, 1) := by decide +kernel
theorem d_Md_clash_30 : decode b_Md_clash 30 = .ok (.iconst 0, 1) := by decide +kernel
theorem d_Md_clash_31 : decode b_Md_clash 31 = .ok (.iload_n 2, 1) := by decide +kernel
theorem d_Md_clash_32 : decode b_Md_clash 32 = .ok (.invokevirtual 80, 3) := by decide +kernel
theorem d_Md_clash_35 : decode b_Md_clash 35 = .ok (.aload_n 0, 1) := by decide +kernel
theorem d_Md_clash_36 : decode b_Md_clash 36 = .ok (.iconst 0, 1) := by decide +kernel
theorem d_Md_clash_37 : decode b_Md_clash 37 = .ok (.iload_n 2, 1) := by decide +kernel
theorem d_Md_clash_38 : decode b_Md_clash 38 = .ok (.invokevirtual 84, 3) := by decide +kernel
theorem d_Md_clash_41 : decode b_Md_clash 41 = .ok (.if_icmp .eq 5, 3) := by decide +kernel
theorem d_Md_clash_44 : decode b_Md_clash 44 = .ok (.iload_n 2, 1) := by decide +kernel
theorem d_Md_clash_45 : decode b_Md_clash 45 = .ok (.ireturn, 1) := by decide +kernel
theorem d_Md_clash_46 : decode b_Md_clash 46 = .ok (.iconst 0, 1) := by decide +kernel
theorem d_Md_clash_47 : decode b_Md_clash 47 = .ok (.istore_n 3, 1) := by decide +kernel
theorem d_Md_clash_48 : decode b_Md_clash 48 = .ok (.iload_n 3, 1) := by decide +kernel
theorem d_Md_clash_49 : decode b_Md_clash 49 = .ok (.iload_n 2, 1) := by decide +kernel
theorem d_Md_clash_50 : decode b_Md_clash 50 = .ok (.if_icmp .ge 58, 3) := by decide +kernel
theorem d_Md_clash_53 : decode b_Md_clash 53 = .ok (.aload_n 0, 1) := by decide +kernel
theorem d_Md_clash_54 : decode b_Md_clash 54 = .ok (.getfield 7, 3) := by decide +kernel
theorem d_Md_clash_57 : decode b_Md_clash 57 = .ok (.iconst 0, 1) := by decide +kernel
theorem d_Md_clash_58 : decode b_Md_clash 58 = .ok (.iaload, 1) := by decide +kernel
theorem d_Md_clash_59 : decode b_Md_clash 59 = .ok (.iconst 1, 1) := by decide +kernel
theorem d_Md_clash_60 : decode b_Md_clash 60 = .ok (.if_icmp .eq 48, 3) := by decide +kernel
theorem d_Md_clash_63 : decode b_Md_clash 63 = .ok (.aload_n 0, 1) := by decide +kernel
theorem d_Md_clash_64 : decode b_Md_clash 64 = .ok (.iconst 0, 1) := by decide +kernel
theorem d_Md_clash_65 : decode b_Md_clash 65 = .ok (.iload_n 2, 1) := by decide +kernel
theorem d_Md_clash_66 : decode b_Md_clash 66 = .ok (.iconst 0, 1) := by decide +kernel
theorem d_Md_clash_67 : decode b_Md_clash 67 = .ok (.invokevirtual 73, 3) := by decide +kernel
theorem d_Md_clash_70 : decode b_Md_clash 70 = .ok (.ifCond .le 32, 3) := by decide +kernel
theorem d_Md_clash_73 : decode b_Md_clash 73 = .ok (.aload_n 0, 1) := by decide +kernel
theorem d_Md_clash_74 : decode b_Md_clash 74 = .ok (.iconst 0, 1) := by decide +kernel
theorem d_Md_clash_75 : decode b_Md_clash 75 = .ok (.iload_n 3, 1) := by decide +kernel
theorem d_Md_clash_76 : decode b_Md_clash 76 = .ok (.iconst 0, 1) := by decide +kernel
theorem d_Md_clash_77 : decode b_Md_clash 77 = .ok (.invokevirtual 73, 3) := by decide +kernel
theorem d_Md_clash_80 : decode b_Md_clash 80 = .ok (.ifCond .le 22, 3) := by decide +kernel
theorem d_Md_clash_83 : decode b_Md_clash 83 = .ok (.aload_n 0, 1) := by decide +kernel
theorem d_Md_clash_84 : decode b_Md_clash 84 = .ok (.iconst 0, 1) := by decide +kernel
theorem d_Md_clash_85 : decode b_Md_clash 85 = .ok (.iload_n 2, 1) := by decide +kernel
theorem d_Md_clash_86 : decode b_Md_clash 86 = .ok (.iconst 0, 1) := by decide +kernel
theorem d_Md_clash_87 : decode b_Md_clash 87 = .ok (.invokevirtual 77, 3) := by decide +kernel
theorem d_Md_clash_90 : decode b_Md_clash 90 = .ok (.aload_n 0, 1) := by decide +kernel
theorem d_Md_clash_91 : decode b_Md_clash 91 = .ok (.iconst 0, 1) := by decide +kernel
theorem d_Md_clash_92 : decode b_Md_clash 92 = .ok (.iload_n 3, 1) := by decide +kernel
theorem d_Md_clash_93 : decode b_Md_clash 93 = .ok (.iconst 0, 1) := by decide +kernel
theorem d_Md_clash_94 : decode b_Md_clash 94 = .ok (.invokevirtual 77, 3) := by decide +kernel
theorem d_Md_clash_97 : decode b_Md_clash 97 = .ok (.if_icmp .ne 5, 3) := by decide +kernel
theorem d_Md_clash_100 : decode b_Md_clash 100 = .ok (.iload_n 2, 1) := by decide +kernel
theorem d_Md_clash_101 : decode b_Md_clash 101 = .ok (.ireturn, 1) := by decide +kernel
theorem d_Md_clash_102 : decode b_Md_clash 102 = .ok (.iinc 3 1, 3) := by decide +kernel
theorem d_Md_clash_105 : decode b_Md_clash 105 = .ok (.goto (-57), 3) := by decide +kernel
theorem d_Md_clash_108 : decode b_Md_clash 108 = .ok (.iinc 2 1, 3) := by decide +kernel
theorem d_Md_clash_111 : decode b_Md_clash 111 = .ok (.goto (-97), 3) := by decide +kernel
theorem d_Md_clash_114 : decode b_Md_clash 114 = .ok (.iconst 0, 1) := by decide +kernel
theorem d_Md_clash_115 : decode b_Md_clash 115 = .ok (.istore_n 2, 1) := by decide +kernel
theorem d_Md_clash_116 : decode b_Md_clash 116 = .ok (.iload_n 2, 1) := by decide +kernel
theorem d_Md_clash_117 : decode b_Md_clash 117 = .ok (.iload_n 1, 1) := by decide +kernel
theorem d_Md_clash_118 : decode b_Md_clash 118 = .ok (.if_icmp .ge 40, 3) := by decide +kernel
theorem d_Md_clash_121 : decode b_Md_clash 121 = .ok (.aload_n 0, 1) := by decide +kernel
theorem d_Md_clash_122 : decode b_Md_clash 122 = .ok (.getfield 7, 3) := by decide +kernel
theorem d_Md_clash_125 : decode b_Md_clash 125 = .ok (.iconst 0, 1) := by decide +kernel
theorem d_Md_clash_126 : decode b_Md_clash 126 = .ok (.iaload, 1) := by decide +kernel
theorem d_Md_clash_127 : decode b_Md_clash 127 = .ok (.iconst 1, 1) := by decide +kernel
theorem d_Md_clash_128 : decode b_Md_clash 128 = .ok (.if_icmp .eq 24, 3) := by decide +kernel
theorem d_Md_clash_131 : decode b_Md_clash 131 = .ok (.aload_n 0, 1) := by decide +kernel
theorem d_Md_clash_132 : decode b_Md_clash 132 = .ok (.iconst 0, 1) := by decide +kernel
theorem d_Md_clash_133 : decode b_Md_clash 133 = .ok (.iload_n 2, 1) := by decide +kernel
theorem d_Md_clash_134 : decode b_Md_clash 134 = .ok (.iconst 0, 1) := by decide +kernel
theorem d_Md_clash_135 : decode b_Md_clash 135 = .ok (.invokevirtual 73, 3) := by decide +kernel
theorem d_Md_clash_138 : decode b_Md_clash 138 = .ok (.ifCond .ne 14, 3) := by decide +kernel
theorem d_Md_clash_141 : decode b_Md_clash 141 = .ok (.aload_n 0, 1) := by decide +kernel
theorem d_Md_clash_142 : decode b_Md_clash 142 = .ok (.iconst 0, 1) := by decide +kernel
theorem d_Md_clash_143 : decode b_Md_clash 143 = .ok (.iload_n 2, 1) := by decide +kernel
theorem d_Md_clash_144 : decode b_Md_clash 144 = .ok (.invokevirtual 80, 3) := by decide +kernel
theorem d_Md_clash_147 : decode b_Md_clash 147 = .ok (.ifCond .le 5, 3) := by decide +kernel
theorem d_Md_clash_150 : decode b_Md_clash 150 = .ok (.iload_n 2, 1) := by decide +kernel
theorem d_Md_clash_151 : decode b_Md_clash 151 = .ok (.ireturn, 1) := by decide +kernel
theorem d_Md_clash_152 : decode b_Md_clash 152 = .ok (.iinc 2 1, 3) := by decide +kernel
theorem d_Md_clash_155 : decode b_Md_clash 155 = .ok (.goto (-39), 3) := by decide +kernel
theorem d_Md_clash_158 : decode b_Md_clash 158 = .ok (.iconst (-1), 1) := by decide +kernel
theorem d_Md_clash_159 : decode b_Md_clash 159 = .ok (.ireturn, 1) := by decide +kernel
theorem d_Md_balls_0 : decode b_Md_balls 0 = .ok (.aload_n 0, 1) := by decide +kernel
theorem d_Md_balls_1 : decode b_Md_balls 1 = .ok (.iconst 0, 1) := by decide +kernel
theorem d_Md_balls_2 : decode b_Md_balls 2 = .ok (.putfield 58, 3) := by decide +kernel
theorem d_Md_balls_5 : decode b_Md_balls 5 = .ok (.aload_n 0, 1) := by decide +kernel
theorem d_Md_balls_6 : decode b_Md_balls 6 = .ok (.iconst 0, 1) := by decide +kernel
theorem d_Md_balls_7 : decode b_Md_balls 7 = .ok (.invokevirtual 87, 3) := by decide +kernel
theorem d_Md_balls_10 : decode b_Md_balls 10 = .ok (.ifCond .eq 11, 3) := by decide +kernel
theorem d_Md_balls_13 : decode b_Md_balls 13 = .ok (.aload_n 0, 1) := by decide +kernel
theorem d_Md_balls_14 : decode b_Md_balls 14 = .ok (.iconst 0, 1) := by decide +kernel
theorem d_Md_balls_15 : decode b_Md_balls 15 = .ok (.invokevirtual 90, 3) := by decide +kernel
theorem d_Md_balls_18 : decode b_Md_balls 18 = .ok (.goto 8, 3) := by decide +kernel
theorem d_Md_balls_21 : decode b_Md_balls 21 = .ok (.aload_n 0, 1) := by decide +kernel
theorem d_Md_balls_22 : decode b_Md_balls 22 = .ok (.iconst 1, 1) := by decide +kernel
theorem d_Md_balls_23 : decode b_Md_balls 23 = .ok (.invokevirtual 65, 3) := by decide +kernel
theorem d_Md_balls_26 : decode b_Md_balls 26 = .ok (.ireturn, 1) := by decide +kernel
theorem d_Md_ballsOf_0 : decode b_Md_ballsOf 0 = .ok (.iconst 0, 1) := by decide +kernel
theorem d_Md_ballsOf_1 : decode b_Md_ballsOf 1 = .ok (.istore_n 2, 1) := by decide +kernel
theorem d_Md_ballsOf_2 : decode b_Md_ballsOf 2 = .ok (.iconst 0, 1) := by decide +kernel
theorem d_Md_ballsOf_3 : decode b_Md_ballsOf 3 = .ok (.istore_n 3, 1) := by decide +kernel
theorem d_Md_ballsOf_4 : decode b_Md_ballsOf 4 = .ok (.iload_n 3, 1) := by decide +kernel
theorem d_Md_ballsOf_5 : decode b_Md_ballsOf 5 = .ok (.aload_n 0, 1) := by decide +kernel
theorem d_Md_ballsOf_6 : decode b_Md_ballsOf 6 = .ok (.getfield 13, 3) := by decide +kernel
theorem d_Md_ballsOf_9 : decode b_Md_ballsOf 9 = .ok (.iload_n 1, 1) := by decide +kernel
theorem d_Md_ballsOf_10 : decode b_Md_ballsOf 10 = .ok (.iaload, 1) := by decide +kernel
theorem d_Md_ballsOf_11 : decode b_Md_ballsOf 11 = .ok (.if_icmp .ge 45, 3) := by decide +kernel
theorem d_Md_ballsOf_14 : decode b_Md_ballsOf 14 = .ok (.iconst 0, 1) := by decide +kernel
theorem d_Md_ballsOf_15 : decode b_Md_ballsOf 15 = .ok (.istore 4, 2) := by decide +kernel
theorem d_Md_ballsOf_17 : decode b_Md_ballsOf 17 = .ok (.iload 4, 2) := by decide +kernel
theorem d_Md_ballsOf_19 : decode b_Md_ballsOf 19 = .ok (.aload_n 0, 1) := by decide +kernel
theorem d_Md_ballsOf_20 : decode b_Md_ballsOf 20 = .ok (.getfield 16, 3) := by decide +kernel
theorem d_Md_ballsOf_23 : decode b_Md_ballsOf 23 = .ok (.bipush 16, 2) := by decide +kernel
theorem d_Md_ballsOf_25 : decode b_Md_ballsOf 25 = .ok (.iload_n 1, 1) := by decide +kernel
theorem d_Md_ballsOf_26 : decode b_Md_ballsOf 26 = .ok (.imul, 1) := by decide +kernel
theorem d_Md_ballsOf_27 : decode b_Md_ballsOf 27 = .ok (.iload_n 3, 1) := by decide +kernel
theorem d_Md_ballsOf_28 : decode b_Md_ballsOf 28 = .ok (.iadd, 1) := by decide +kernel
theorem d_Md_ballsOf_29 : decode b_Md_ballsOf 29 = .ok (.iaload, 1) := by decide +kernel
theorem d_Md_ballsOf_30 : decode b_Md_ballsOf 30 = .ok (.if_icmp .ge 20, 3) := by decide +kernel
theorem d_Md_ballsOf_33 : decode b_Md_ballsOf 33 = .ok (.iload_n 2, 1) := by decide +kernel
theorem d_Md_ballsOf_34 : decode b_Md_ballsOf 34 = .ok (.aload_n 0, 1) := by decide +kernel
theorem d_Md_ballsOf_35 : decode b_Md_ballsOf 35 = .ok (.iload_n 1, 1) := by decide +kernel
theorem d_Md_ballsOf_36 : decode b_Md_ballsOf 36 = .ok (.iload_n 3, 1) := by decide +kernel
theorem d_Md_ballsOf_37 : decode b_Md_ballsOf 37 = .ok (.iload 4, 2) := by decide +kernel
theorem d_Md_ballsOf_39 : decode b_Md_ballsOf 39 = .ok (.invokevirtual 73, 3) := by decide +kernel
theorem d_Md_ballsOf_42 : decode b_Md_ballsOf 42 = .ok (.iadd, 1) := by decide +kernel
theorem d_Md_ballsOf_43 : decode b_Md_ballsOf 43 = .ok (.istore_n 2, 1) := by decide +kernel
theorem d_Md_ballsOf_44 : decode b_Md_ballsOf 44 = .ok (.iinc 4 1, 3) := by decide +kernel
theorem d_Md_ballsOf_47 : decode b_Md_ballsOf 47 = .ok (.goto (-30), 3) := by decide +kernel
theorem d_Md_ballsOf_50 : decode b_Md_ballsOf 50 = .ok (.iinc 3 1, 3) := by decide +kernel
theorem d_Md_ballsOf_53 : decode b_Md_ballsOf 53 = .ok (.goto (-49), 3) := by decide +kernel
theorem d_Md_ballsOf_56 : decode b_Md_ballsOf 56 = .ok (.iload_n 2, 1) := by decide +kernel
theorem d_Md_ballsOf_57 : decode b_Md_ballsOf 57 = .ok (.aload_n 0, 1) := by decide +kernel
theorem d_Md_ballsOf_58 : decode b_Md_ballsOf 58 = .ok (.getfield 13, 3) := by decide +kernel
theorem d_Md_ballsOf_61 : decode b_Md_ballsOf 61 = .ok (.iload_n 1, 1) := by decide +kernel
theorem d_Md_ballsOf_62 : decode b_Md_ballsOf 62 = .ok (.iaload, 1) := by decide +kernel
theorem d_Md_ballsOf_63 : decode b_Md_ballsOf 63 = .ok (.idiv, 1) := by decide +kernel
theorem d_Md_ballsOf_64 : decode b_Md_ballsOf 64 = .ok (.ireturn, 1) := by decide +kernel
theorem d_Md_state_0 : decode b_Md_state 0 = .ok (.aload_n 0, 1) := by decide +kernel
theorem d_Md_state_1 : decode b_Md_state 1 = .ok (.iconst 0, 1) := by decide +kernel
theorem d_Md_state_2 : decode b_Md_state 2 = .ok (.putfield 58, 3) := by decide +kernel
theorem d_Md_state_5 : decode b_Md_state 5 = .ok (.aload_n 0, 1) := by decide +kernel
theorem d_Md_state_6 : decode b_Md_state 6 = .ok (.getfield 7, 3) := by decide +kernel
theorem d_Md_state_9 : decode b_Md_state 9 = .ok (.iconst 0, 1) := by decide +kernel
theorem d_Md_state_10 : decode b_Md_state 10 = .ok (.iaload, 1) := by decide +kernel
theorem d_Md_state_11 : decode b_Md_state 11 = .ok (.ifCond .ne 11, 3) := by decide +kernel
theorem d_Md_state_14 : decode b_Md_state 14 = .ok (.aload_n 0, 1) := by decide +kernel
theorem d_Md_state_15 : decode b_Md_state 15 = .ok (.iconst 0, 1) := by decide +kernel
theorem d_Md_state_16 : decode b_Md_state 16 = .ok (.invokevirtual 87, 3) := by decide +kernel
theorem d_Md_state_19 : decode b_Md_state 19 = .ok (.ifCond .ne 9, 3) := by decide +kernel
theorem d_Md_state_22 : decode b_Md_state 22 = .ok (.aload_n 0, 1) := by decide +kernel
theorem d_Md_state_23 : decode b_Md_state 23 = .ok (.iconst 1, 1) := by decide +kernel
theorem d_Md_state_24 : decode b_Md_state 24 = .ok (.invokevirtual 65, 3) := by decide +kernel
theorem d_Md_state_27 : decode b_Md_state 27 = .ok (.ireturn, 1) := by decide +kernel
theorem d_Md_state_28 : decode b_Md_state 28 = .ok (.aload_n 0, 1) := by decide +kernel
theorem d_Md_state_29 : decode b_Md_state 29 = .ok (.iload_n 1, 1) := by decide +kernel
theorem d_Md_state_30 : decode b_Md_state 30 = .ok (.invokevirtual 69, 3) := by decide +kernel
theorem d_Md_state_33 : decode b_Md_state 33 = .ok (.ifCond .eq 11, 3) := by decide +kernel
theorem d_Md_state_36 : decode b_Md_state 36 = .ok (.aload_n 0, 1) := by decide +kernel
theorem d_Md_state_37 : decode b_Md_state 37 = .ok (.iconst 2, 1) := by decide +kernel
theorem d_Md_state_38 : decode b_Md_state 38 = .ok (.invokevirtual 65, 3) := by decide +kernel
theorem d_Md_state_41 : decode b_Md_state 41 = .ok (.goto 9, 3) := by decide +kernel
theorem d_Md_state_44 : decode b_Md_state 44 = .ok (.aload_n 0, 1) := by decide +kernel
theorem d_Md_state_45 : decode b_Md_state 45 = .ok (.iconst 0, 1) := by decide +kernel
theorem d_Md_state_46 : decode b_Md_state 46 = .ok (.iload_n 1, 1) := by decide +kernel
theorem d_Md_state_47 : decode b_Md_state 47 = .ok (.invokevirtual 93, 3) := by decide +kernel
theorem d_Md_state_50 : decode b_Md_state 50 = .ok (.ireturn, 1) := by decide +kernel
theorem d_Md_stateOf_0 : decode b_Md_stateOf 0 = .ok (.iconst 0, 1) := by decide +kernel
theorem d_Md_stateOf_1 : decode b_Md_stateOf 1 = .ok (.istore_n 3, 1) := by decide +kernel
theorem d_Md_stateOf_2 : decode b_Md_stateOf 2 = .ok (.iconst 1, 1) := by decide +kernel
theorem d_Md_stateOf_3 : decode b_Md_stateOf 3 = .ok (.istore 4, 2) := by decide +kernel
theorem d_Md_stateOf_5 : decode b_Md_stateOf 5 = .ok (.iload 4, 2) := by decide +kernel
theorem d_Md_stateOf_7 : decode b_Md_stateOf 7 = .ok (.bipush 9, 2) := by decide +kernel
theorem d_Md_stateOf_9 : decode b_Md_stateOf 9 = .ok (.if_icmp .gt 55, 3) := by decide +kernel
theorem d_Md_stateOf_12 : decode b_Md_stateOf 12 = .ok (.aload_n 0, 1) := by decide +kernel
theorem d_Md_stateOf_13 : decode b_Md_stateOf 13 = .ok (.iload_n 1, 1) := by decide +kernel
theorem d_Md_stateOf_14 : decode b_Md_stateOf 14 = .ok (.iload_n 2, 1) := by decide +kernel
theorem d_Md_stateOf_15 : decode b_Md_stateOf 15 = .ok (.iload 4, 2) := by decide +kernel
theorem d_Md_stateOf_17 : decode b_Md_stateOf 17 = .ok (.isub, 1) := by decide +kernel
theorem d_Md_stateOf_18 : decode b_Md_stateOf 18 = .ok (.bipush 16, 2) := by decide +kernel
theorem d_Md_stateOf_20 : decode b_Md_stateOf 20 = .ok (.aload_n 0, 1) := by decide +kernel
theorem d_Md_stateOf_21 : decode b_Md_stateOf 21 = .ok (.getfield 13, 3) := by decide +kernel
theorem d_Md_stateOf_24 : decode b_Md_stateOf 24 = .ok (.iload_n 1, 1) := by decide +kernel
theorem d_Md_stateOf_25 : decode b_Md_stateOf 25 = .ok (.iaload, 1) := by decide +kernel
theorem d_Md_stateOf_26 : decode b_Md_stateOf 26 = .ok (.imul, 1) := by decide +kernel
theorem d_Md_stateOf_27 : decode b_Md_stateOf 27 = .ok (.iadd, 1) := by decide +kernel
theorem d_Md_stateOf_28 : decode b_Md_stateOf 28 = .ok (.aload_n 0, 1) := by decide +kernel
theorem d_Md_stateOf_29 : decode b_Md_stateOf 29 = .ok (.getfield 13, 3) := by decide +kernel
theorem d_Md_stateOf_32 : decode b_Md_stateOf 32 = .ok (.iload_n 1, 1) := by decide +kernel
theorem d_Md_stateOf_33 : decode b_Md_stateOf 33 = .ok (.iaload, 1) := by decide +kernel
theorem d_Md_stateOf_34 : decode b_Md_stateOf 34 = .ok (.irem, 1) := by decide +kernel
theorem d_Md_stateOf_35 : decode b_Md_stateOf 35 = .ok (.iconst 0, 1) := by decide +kernel
theorem d_Md_stateOf_36 : decode b_Md_stateOf 36 = .ok (.invokevirtual 73, 3) := by decide +kernel
theorem d_Md_stateOf_39 : decode b_Md_stateOf 39 = .ok (.istore 5, 2) := by decide +kernel
theorem d_Md_stateOf_41 : decode b_Md_stateOf 41 = .ok (.iload 5, 2) := by decide +kernel
theorem d_Md_stateOf_43 : decode b_Md_stateOf 43 = .ok (.iload 4, 2) := by decide +kernel
theorem d_Md_stateOf_45 : decode b_Md_stateOf 45 = .ok (.if_icmp .lt 13, 3) := by decide +kernel
theorem d_Md_stateOf_48 : decode b_Md_stateOf 48 = .ok (.iload_n 3, 1) := by decide +kernel
theorem d_Md_stateOf_49 : decode b_Md_stateOf 49 = .ok (.iconst 1, 1) := by decide +kernel
