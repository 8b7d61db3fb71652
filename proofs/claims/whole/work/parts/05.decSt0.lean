theorem d_St_init_0 : decode b_St_init 0 = .ok (.aload_n 0, 1) := by decide +kernel
theorem d_St_init_1 : decode b_St_init 1 = .ok (.invokespecial 3, 3) := by decide +kernel
theorem d_St_init_4 : decode b_St_init 4 = .ok (.aload_n 0, 1) := by decide +kernel
theorem d_St_init_5 : decode b_St_init 5 = .ok (.new 9, 3) := by decide +kernel
theorem d_St_init_8 : decode b_St_init 8 = .ok (.dup, 1) := by decide +kernel
theorem d_St_init_9 : decode b_St_init 9 = .ok (.invokespecial 11, 3) := by decide +kernel
theorem d_St_init_12 : decode b_St_init 12 = .ok (.putfield 12, 3) := by decide +kernel
theorem d_St_init_15 : decode b_St_init 15 = .ok (.aload_n 0, 1) := by decide +kernel
theorem d_St_init_16 : decode b_St_init 16 = .ok (.bipush 6, 2) := by decide +kernel
theorem d_St_init_18 : decode b_St_init 18 = .ok (.anewarray 9, 3) := by decide +kernel
theorem d_St_init_21 : decode b_St_init 21 = .ok (.putfield 16, 3) := by decide +kernel
theorem d_St_init_24 : decode b_St_init 24 = .ok (.aload_n 0, 1) := by decide +kernel
theorem d_St_init_25 : decode b_St_init 25 = .ok (.new 20, 3) := by decide +kernel
theorem d_St_init_28 : decode b_St_init 28 = .ok (.dup, 1) := by decide +kernel
theorem d_St_init_29 : decode b_St_init 29 = .ok (.invokespecial 22, 3) := by decide +kernel
theorem d_St_init_32 : decode b_St_init 32 = .ok (.putfield 23, 3) := by decide +kernel
theorem d_St_init_35 : decode b_St_init 35 = .ok (.aload_n 0, 1) := by decide +kernel
theorem d_St_init_36 : decode b_St_init 36 = .ok (.new 27, 3) := by decide +kernel
theorem d_St_init_39 : decode b_St_init 39 = .ok (.dup, 1) := by decide +kernel
theorem d_St_init_40 : decode b_St_init 40 = .ok (.invokespecial 29, 3) := by decide +kernel
theorem d_St_init_43 : decode b_St_init 43 = .ok (.putfield 30, 3) := by decide +kernel
theorem d_St_init_46 : decode b_St_init 46 = .ok (.aload_n 0, 1) := by decide +kernel
theorem d_St_init_47 : decode b_St_init 47 = .ok (.new 34, 3) := by decide +kernel
theorem d_St_init_50 : decode b_St_init 50 = .ok (.dup, 1) := by decide +kernel
theorem d_St_init_51 : decode b_St_init 51 = .ok (.invokespecial 36, 3) := by decide +kernel
theorem d_St_init_54 : decode b_St_init 54 = .ok (.putfield 37, 3) := by decide +kernel
theorem d_St_init_57 : decode b_St_init 57 = .ok (.aload_n 0, 1) := by decide +kernel
theorem d_St_init_58 : decode b_St_init 58 = .ok (.new 41, 3) := by decide +kernel
theorem d_St_init_61 : decode b_St_init 61 = .ok (.dup, 1) := by decide +kernel
theorem d_St_init_62 : decode b_St_init 62 = .ok (.invokespecial 43, 3) := by decide +kernel
theorem d_St_init_65 : decode b_St_init 65 = .ok (.putfield 44, 3) := by decide +kernel
theorem d_St_init_68 : decode b_St_init 68 = .ok (.return_, 1) := by decide +kernel
theorem d_St_valid_0 : decode b_St_valid 0 = .ok (.aload_n 0, 1) := by decide +kernel
theorem d_St_valid_1 : decode b_St_valid 1 = .ok (.getfield 12, 3) := by decide +kernel
theorem d_St_valid_4 : decode b_St_valid 4 = .ok (.invokevirtual 103, 3) := by decide +kernel
theorem d_St_valid_7 : decode b_St_valid 7 = .ok (.ireturn, 1) := by decide +kernel
theorem d_St_wrap_0 : decode b_St_wrap 0 = .ok (.iload_n 1, 1) := by decide +kernel
theorem d_St_wrap_1 : decode b_St_wrap 1 = .ok (.iconst 1, 1) := by decide +kernel
theorem d_St_wrap_2 : decode b_St_wrap 2 = .ok (.if_icmp .ge 5, 3) := by decide +kernel
theorem d_St_wrap_5 : decode b_St_wrap 5 = .ok (.iconst 0, 1) := by decide +kernel
theorem d_St_wrap_6 : decode b_St_wrap 6 = .ok (.ireturn, 1) := by decide +kernel
theorem d_St_wrap_7 : decode b_St_wrap 7 = .ok (.iload_n 0, 1) := by decide +kernel
theorem d_St_wrap_8 : decode b_St_wrap 8 = .ok (.iload_n 1, 1) := by decide +kernel
theorem d_St_wrap_9 : decode b_St_wrap 9 = .ok (.irem, 1) := by decide +kernel
theorem d_St_wrap_10 : decode b_St_wrap 10 = .ok (.istore_n 2, 1) := by decide +kernel
theorem d_St_wrap_11 : decode b_St_wrap 11 = .ok (.iload_n 2, 1) := by decide +kernel
theorem d_St_wrap_12 : decode b_St_wrap 12 = .ok (.ifCond .ge 9, 3) := by decide +kernel
theorem d_St_wrap_15 : decode b_St_wrap 15 = .ok (.iload_n 2, 1) := by decide +kernel
theorem d_St_wrap_16 : decode b_St_wrap 16 = .ok (.iload_n 1, 1) := by decide +kernel
theorem d_St_wrap_17 : decode b_St_wrap 17 = .ok (.iadd, 1) := by decide +kernel
theorem d_St_wrap_18 : decode b_St_wrap 18 = .ok (.goto 4, 3) := by decide +kernel
theorem d_St_wrap_21 : decode b_St_wrap 21 = .ok (.iload_n 2, 1) := by decide +kernel
theorem d_St_wrap_22 : decode b_St_wrap 22 = .ok (.ireturn, 1) := by decide +kernel
theorem d_St_clash_0 : decode b_St_clash 0 = .ok (.aload_n 0, 1) := by decide +kernel
theorem d_St_clash_1 : decode b_St_clash 1 = .ok (.getfield 12, 3) := by decide +kernel
theorem d_St_clash_4 : decode b_St_clash 4 = .ok (.invokevirtual 107, 3) := by decide +kernel
theorem d_St_clash_7 : decode b_St_clash 7 = .ok (.ireturn, 1) := by decide +kernel
theorem d_St_highest_0 : decode b_St_highest 0 = .ok (.aload_n 0, 1) := by decide +kernel
theorem d_St_highest_1 : decode b_St_highest 1 = .ok (.getfield 44, 3) := by decide +kernel
theorem d_St_highest_4 : decode b_St_highest 4 = .ok (.invokevirtual 219, 3) := by decide +kernel
theorem d_St_highest_7 : decode b_St_highest 7 = .ok (.ireturn, 1) := by decide +kernel
theorem d_St_begin_0 : decode b_St_begin 0 = .ok (.iload_n 1, 1) := by decide +kernel
theorem d_St_begin_1 : decode b_St_begin 1 = .ok (.ifCond .lt 19, 3) := by decide +kernel
theorem d_St_begin_4 : decode b_St_begin 4 = .ok (.iload_n 1, 1) := by decide +kernel
theorem d_St_begin_5 : decode b_St_begin 5 = .ok (.iconst 2, 1) := by decide +kernel
theorem d_St_begin_6 : decode b_St_begin 6 = .ok (.if_icmp .gt 14, 3) := by decide +kernel
theorem d_St_begin_9 : decode b_St_begin 9 = .ok (.iload_n 2, 1) := by decide +kernel
theorem d_St_begin_10 : decode b_St_begin 10 = .ok (.iconst 1, 1) := by decide +kernel
theorem d_St_begin_11 : decode b_St_begin 11 = .ok (.if_icmp .lt 9, 3) := by decide +kernel
theorem d_St_begin_14 : decode b_St_begin 14 = .ok (.iload_n 2, 1) := by decide +kernel
theorem d_St_begin_15 : decode b_St_begin 15 = .ok (.bipush 16, 2) := by decide +kernel
theorem d_St_begin_17 : decode b_St_begin 17 = .ok (.if_icmp .le 13, 3) := by decide +kernel
theorem d_St_begin_20 : decode b_St_begin 20 = .ok (.new 48, 3) := by decide +kernel
theorem d_St_begin_23 : decode b_St_begin 23 = .ok (.dup, 1) := by decide +kernel
theorem d_St_begin_24 : decode b_St_begin 24 = .ok (.ldc 50, 2) := by decide +kernel
theorem d_St_begin_26 : decode b_St_begin 26 = .ok (.invokespecial 52, 3) := by decide +kernel
theorem d_St_begin_29 : decode b_St_begin 29 = .ok (.athrow, 1) := by decide +kernel
theorem d_St_begin_30 : decode b_St_begin 30 = .ok (.iload_n 1, 1) := by decide +kernel
theorem d_St_begin_31 : decode b_St_begin 31 = .ok (.iconst 2, 1) := by decide +kernel
theorem d_St_begin_32 : decode b_St_begin 32 = .ok (.if_icmp .ne 20, 3) := by decide +kernel
theorem d_St_begin_35 : decode b_St_begin 35 = .ok (.iload_n 2, 1) := by decide +kernel
theorem d_St_begin_36 : decode b_St_begin 36 = .ok (.invokestatic 55, 3) := by decide +kernel
theorem d_St_begin_39 : decode b_St_begin 39 = .ok (.ifCond .eq 13, 3) := by decide +kernel
theorem d_St_begin_42 : decode b_St_begin 42 = .ok (.new 48, 3) := by decide +kernel
theorem d_St_begin_45 : decode b_St_begin 45 = .ok (.dup, 1) := by decide +kernel
theorem d_St_begin_46 : decode b_St_begin 46 = .ok (.ldc 59, 2) := by decide +kernel
theorem d_St_begin_48 : decode b_St_begin 48 = .ok (.invokespecial 52, 3) := by decide +kernel
theorem d_St_begin_51 : decode b_St_begin 51 = .ok (.athrow, 1) := by decide +kernel
theorem d_St_begin_52 : decode b_St_begin 52 = .ok (.aload_n 0, 1) := by decide +kernel
theorem d_St_begin_53 : decode b_St_begin 53 = .ok (.getfield 12, 3) := by decide +kernel
theorem d_St_begin_56 : decode b_St_begin 56 = .ok (.getfield 61, 3) := by decide +kernel
theorem d_St_begin_59 : decode b_St_begin 59 = .ok (.istore_n 3, 1) := by decide +kernel
theorem d_St_begin_60 : decode b_St_begin 60 = .ok (.aload_n 0, 1) := by decide +kernel
theorem d_St_begin_61 : decode b_St_begin 61 = .ok (.getfield 12, 3) := by decide +kernel
theorem d_St_begin_64 : decode b_St_begin 64 = .ok (.iload_n 1, 1) := by decide +kernel
theorem d_St_begin_65 : decode b_St_begin 65 = .ok (.iload_n 2, 1) := by decide +kernel
theorem d_St_begin_66 : decode b_St_begin 66 = .ok (.invokevirtual 65, 3) := by decide +kernel
theorem d_St_begin_69 : decode b_St_begin 69 = .ok (.iload_n 3, 1) := by decide +kernel
theorem d_St_begin_70 : decode b_St_begin 70 = .ok (.ireturn, 1) := by decide +kernel
theorem d_St_isOdd_0 : decode b_St_isOdd 0 = .ok (.iload_n 0, 1) := by decide +kernel
theorem d_St_isOdd_1 : decode b_St_isOdd 1 = .ok (.iconst 1, 1) := by decide +kernel
theorem d_St_isOdd_2 : decode b_St_isOdd 2 = .ok (.iand, 1) := by decide +kernel
theorem d_St_isOdd_3 : decode b_St_isOdd 3 = .ok (.ifCond .eq 7, 3) := by decide +kernel
theorem d_St_isOdd_6 : decode b_St_isOdd 6 = .ok (.iconst 1, 1) := by decide +kernel
theorem d_St_isOdd_7 : decode b_St_isOdd 7 = .ok (.goto 4, 3) := by decide +kernel
theorem d_St_isOdd_10 : decode b_St_isOdd 10 = .ok (.iconst 0, 1) := by decide +kernel
theorem d_St_isOdd_11 : decode b_St_isOdd 11 = .ok (.ireturn, 1) := by decide +kernel
theorem d_St_put_0 : decode b_St_put 0 = .ok (.aload_n 0, 1) := by decide +kernel
theorem d_St_put_1 : decode b_St_put 1 = .ok (.iload_n 1, 1) := by decide +kernel
theorem d_St_put_2 : decode b_St_put 2 = .ok (.invokevirtual 69, 3) := by decide +kernel
theorem d_St_put_5 : decode b_St_put 5 = .ok (.iload_n 2, 1) := by decide +kernel
theorem d_St_put_6 : decode b_St_put 6 = .ok (.invokestatic 73, 3) := by decide +kernel
theorem d_St_put_9 : decode b_St_put 9 = .ok (.aload_n 0, 1) := by decide +kernel
theorem d_St_put_10 : decode b_St_put 10 = .ok (.getfield 12, 3) := by decide +kernel
theorem d_St_put_13 : decode b_St_put 13 = .ok (.getfield 76, 3) := by decide +kernel
theorem d_St_put_16 : decode b_St_put 16 = .ok (.iconst 2, 1) := by decide +kernel
theorem d_St_put_17 : decode b_St_put 17 = .ok (.if_icmp .ne 13, 3) := by decide +kernel
theorem d_St_put_20 : decode b_St_put 20 = .ok (.iload_n 2, 1) := by decide +kernel
theorem d_St_put_21 : decode b_St_put 21 = .ok (.invokestatic 55, 3) := by decide +kernel
theorem d_St_put_24 : decode b_St_put 24 = .ok (.ifCond .eq 20, 3) := by decide +kernel
theorem d_St_put_27 : decode b_St_put 27 = .ok (.goto 7, 3) := by decide +kernel
theorem d_St_put_30 : decode b_St_put 30 = .ok (.iload_n 3, 1) := by decide +kernel
theorem d_St_put_31 : decode b_St_put 31 = .ok (.ifCond .eq 13, 3) := by decide +kernel
theorem d_St_put_34 : decode b_St_put 34 = .ok (.new 48, 3) := by decide +kernel
theorem d_St_put_37 : decode b_St_put 37 = .ok (.dup, 1) := by decide +kernel
theorem d_St_put_38 : decode b_St_put 38 = .ok (.ldc 79, 2) := by decide +kernel
theorem d_St_put_40 : decode b_St_put 40 = .ok (.invokespecial 52, 3) := by decide +kernel
theorem d_St_put_43 : decode b_St_put 43 = .ok (.athrow, 1) := by decide +kernel
theorem d_St_put_44 : decode b_St_put 44 = .ok (.aload_n 0, 1) := by decide +kernel
theorem d_St_put_45 : decode b_St_put 45 = .ok (.getfield 12, 3) := by decide +kernel
theorem d_St_put_48 : decode b_St_put 48 = .ok (.iload_n 1, 1) := by decide +kernel
theorem d_St_put_49 : decode b_St_put 49 = .ok (.invokevirtual 81, 3) := by decide +kernel
theorem d_St_put_52 : decode b_St_put 52 = .ok (.istore 4, 2) := by decide +kernel
theorem d_St_put_54 : decode b_St_put 54 = .ok (.aload_n 0, 1) := by decide +kernel
theorem d_St_put_55 : decode b_St_put 55 = .ok (.getfield 12, 3) := by decide +kernel
theorem d_St_put_58 : decode b_St_put 58 = .ok (.iload_n 1, 1) := by decide +kernel
theorem d_St_put_59 : decode b_St_put 59 = .ok (.iload_n 2, 1) := by decide +kernel
theorem d_St_put_60 : decode b_St_put 60 = .ok (.iload_n 3, 1) := by decide +kernel
theorem d_St_put_61 : decode b_St_put 61 = .ok (.invokevirtual 85, 3) := by decide +kernel
theorem d_St_put_64 : decode b_St_put 64 = .ok (.iload 4, 2) := by decide +kernel
theorem d_St_put_66 : decode b_St_put 66 = .ok (.ireturn, 1) := by decide +kernel
theorem d_St_requireSite_0 : decode b_St_requireSite 0 = .ok (.aload_n 0, 1) := by decide +kernel
theorem d_St_requireSite_1 : decode b_St_requireSite 1 = .ok (.getfield 12, 3) := by decide +kernel
theorem d_St_requireSite_4 : decode b_St_requireSite 4 = .ok (.iload_n 1, 1) := by decide +kernel
theorem d_St_requireSite_5 : decode b_St_requireSite 5 = .ok (.invokevirtual 233, 3) := by decide +kernel
theorem d_St_requireSite_8 : decode b_St_requireSite 8 = .ok (.ifCond .ne 13, 3) := by decide +kernel
theorem d_St_requireSite_11 : decode b_St_requireSite 11 = .ok (.new 133, 3) := by decide +kernel
theorem d_St_requireSite_14 : decode b_St_requireSite 14 = .ok (.dup, 1) := by decide +kernel
theorem d_St_requireSite_15 : decode b_St_requireSite 15 = .ok (.ldc 236, 2) := by decide +kernel
theorem d_St_requireSite_17 : decode b_St_requireSite 17 = .ok (.invokespecial 137, 3) := by decide +kernel
theorem d_St_requireSite_20 : decode b_St_requireSite 20 = .ok (.athrow, 1) := by decide +kernel
theorem d_St_requireSite_21 : decode b_St_requireSite 21 = .ok (.return_, 1) := by decide +kernel
theorem d_St_requireHeight_0 : decode b_St_requireHeight 0 = .ok (.iload_n 0, 1) := by decide +kernel
theorem d_St_requireHeight_1 : decode b_St_requireHeight 1 = .ok (.ifCond .lt 9, 3) := by decide +kernel
theorem d_St_requireHeight_4 : decode b_St_requireHeight 4 = .ok (.iload_n 0, 1) := by decide +kernel
theorem d_St_requireHeight_5 : decode b_St_requireHeight 5 = .ok (.bipush 9, 2) := by decide +kernel
theorem d_St_requireHeight_7 : decode b_St_requireHeight 7 = .ok (.if_icmp .le 13, 3) := by decide +kernel
theorem d_St_requireHeight_10 : decode b_St_requireHeight 10 = .ok (.new 48, 3) := by decide +kernel
theorem d_St_requireHeight_13 : decode b_St_requireHeight 13 = .ok (.dup, 1) := by decide +kernel
theorem d_St_requireHeight_14 : decode b_St_requireHeight 14 = .ok (.ldc 238, 2) := by decide +kernel
theorem d_St_requireHeight_16 : decode b_St_requireHeight 16 = .ok (.invokespecial 52, 3) := by decide +kernel
theorem d_St_requireHeight_19 : decode b_St_requireHeight 19 = .ok (.athrow, 1) := by decide +kernel
theorem d_St_requireHeight_20 : decode b_St_requireHeight 20 = .ok (.return_, 1) := by decide +kernel
theorem d_St_add_0 : decode b_St_add 0 = .ok (.aload_n 0, 1) := by decide +kernel
theorem d_St_add_1 : decode b_St_add 1 = .ok (.getfield 12, 3) := by decide +kernel
theorem d_St_add_4 : decode b_St_add 4 = .ok (.getfield 76, 3) := by decide +kernel
theorem d_St_add_7 : decode b_St_add 7 = .ok (.iconst 1, 1) := by decide +kernel
theorem d_St_add_8 : decode b_St_add 8 = .ok (.if_icmp .eq 13, 3) := by decide +kernel
theorem d_St_add_11 : decode b_St_add 11 = .ok (.new 89, 3) := by decide +kernel
theorem d_St_add_14 : decode b_St_add 14 = .ok (.dup, 1) := by decide +kernel
theorem d_St_add_15 : decode b_St_add 15 = .ok (.ldc 91, 2) := by decide +kernel
theorem d_St_add_17 : decode b_St_add 17 = .ok (.invokespecial 93, 3) := by decide +kernel
theorem d_St_add_20 : decode b_St_add 20 = .ok (.athrow, 1) := by decide +kernel
theorem d_St_add_21 : decode b_St_add 21 = .ok (.aload_n 0, 1) := by decide +kernel
theorem d_St_add_22 : decode b_St_add 22 = .ok (.iload_n 1, 1) := by decide +kernel
theorem d_St_add_23 : decode b_St_add 23 = .ok (.invokevirtual 69, 3) := by decide +kernel
theorem d_St_add_26 : decode b_St_add 26 = .ok (.aload_n 0, 1) := by decide +kernel
theorem d_St_add_27 : decode b_St_add 27 = .ok (.getfield 12, 3) := by decide +kernel
theorem d_St_add_30 : decode b_St_add 30 = .ok (.iload_n 1, 1) := by decide +kernel
theorem d_St_add_31 : decode b_St_add 31 = .ok (.invokevirtual 94, 3) := by decide +kernel
theorem d_St_add_34 : decode b_St_add 34 = .ok (.iconst 3, 1) := by decide +kernel
theorem d_St_add_35 : decode b_St_add 35 = .ok (.if_icmp .lt 13, 3) := by decide +kernel
theorem d_St_add_38 : decode b_St_add 38 = .ok (.new 89, 3) := by decide +kernel
theorem d_St_add_41 : decode b_St_add 41 = .ok (.dup, 1) := by decide +kernel
theorem d_St_add_42 : decode b_St_add 42 = .ok (.ldc 97, 2) := by decide +kernel
theorem d_St_add_44 : decode b_St_add 44 = .ok (.invokespecial 93, 3) := by decide +kernel
theorem d_St_add_47 : decode b_St_add 47 = .ok (.athrow, 1) := by decide +kernel
theorem d_St_add_48 : decode b_St_add 48 = .ok (.iload_n 2, 1) := by decide +kernel
theorem d_St_add_49 : decode b_St_add 49 = .ok (.invokestatic 73, 3) := by decide +kernel
theorem d_St_add_52 : decode b_St_add 52 = .ok (.aload_n 0, 1) := by decide +kernel
theorem d_St_add_53 : decode b_St_add 53 = .ok (.getfield 12, 3) := by decide +kernel
theorem d_St_add_56 : decode b_St_add 56 = .ok (.iload_n 1, 1) := by decide +kernel
theorem d_St_add_57 : decode b_St_add 57 = .ok (.iload_n 2, 1) := by decide +kernel
theorem d_St_add_58 : decode b_St_add 58 = .ok (.invokevirtual 99, 3) := by decide +kernel
theorem d_St_add_61 : decode b_St_add 61 = .ok (.ireturn, 1) := by decide +kernel
theorem d_St_balls_0 : decode b_St_balls 0 = .ok (.aload_n 0, 1) := by decide +kernel
theorem d_St_balls_1 : decode b_St_balls 1 = .ok (.invokevirtual 111, 3) := by decide +kernel
theorem d_St_balls_4 : decode b_St_balls 4 = .ok (.aload_n 0, 1) := by decide +kernel
theorem d_St_balls_5 : decode b_St_balls 5 = .ok (.getfield 12, 3) := by decide +kernel
theorem d_St_balls_8 : decode b_St_balls 8 = .ok (.invokevirtual 114, 3) := by decide +kernel
theorem d_St_balls_11 : decode b_St_balls 11 = .ok (.ireturn, 1) := by decide +kernel
theorem d_St_requireValid_0 : decode b_St_requireValid 0 = .ok (.aload_n 0, 1) := by decide +kernel
theorem d_St_requireValid_1 : decode b_St_requireValid 1 = .ok (.getfield 12, 3) := by decide +kernel
theorem d_St_requireValid_4 : decode b_St_requireValid 4 = .ok (.invokevirtual 103, 3) := by decide +kernel
theorem d_St_requireValid_7 : decode b_St_requireValid 7 = .ok (.ifCond .ne 13, 3) := by decide +kernel
theorem d_St_requireValid_10 : decode b_St_requireValid 10 = .ok (.new 89, 3) := by decide +kernel
theorem d_St_requireValid_13 : decode b_St_requireValid 13 = .ok (.dup, 1) := by decide +kernel
theorem d_St_requireValid_14 : decode b_St_requireValid 14 = .ok (.ldc 244, 2) := by decide +kernel
theorem d_St_requireValid_16 : decode b_St_requireValid 16 = .ok (.invokespecial 93, 3) := by decide +kernel
theorem d_St_requireValid_19 : decode b_St_requireValid 19 = .ok (.athrow, 1) := by decide +kernel
theorem d_St_requireValid_20 : decode b_St_requireValid 20 = .ok (.return_, 1) := by decide +kernel
theorem d_St_state_0 : decode b_St_state 0 = .ok (.aload_n 0, 1) := by decide +kernel
theorem d_St_state_1 : decode b_St_state 1 = .ok (.invokevirtual 117, 3) := by decide +kernel
theorem d_St_state_4 : decode b_St_state 4 = .ok (.aload_n 0, 1) := by decide +kernel
theorem d_St_state_5 : decode b_St_state 5 = .ok (.invokevirtual 111, 3) := by decide +kernel
theorem d_St_state_8 : decode b_St_state 8 = .ok (.aload_n 0, 1) := by decide +kernel
theorem d_St_state_9 : decode b_St_state 9 = .ok (.iload_n 1, 1) := by decide +kernel
theorem d_St_state_10 : decode b_St_state 10 = .ok (.invokevirtual 69, 3) := by decide +kernel
theorem d_St_state_13 : decode b_St_state 13 = .ok (.aload_n 0, 1) := by decide +kernel
theorem d_St_state_14 : decode b_St_state 14 = .ok (.getfield 12, 3) := by decide +kernel
theorem d_St_state_17 : decode b_St_state 17 = .ok (.iload_n 1, 1) := by decide +kernel
theorem d_St_state_18 : decode b_St_state 18 = .ok (.invokevirtual 120, 3) := by decide +kernel
theorem d_St_state_21 : decode b_St_state 21 = .ok (.ireturn, 1) := by decide +kernel
theorem d_St_requirePlain_0 : decode b_St_requirePlain 0 = .ok (.aload_n 0, 1) := by decide +kernel
theorem d_St_requirePlain_1 : decode b_St_requirePlain 1 = .ok (.getfield 12, 3) := by decide +kernel
theorem d_St_requirePlain_4 : decode b_St_requirePlain 4 = .ok (.getfield 76, 3) := by decide +kernel
theorem d_St_requirePlain_7 : decode b_St_requirePlain 7 = .ok (.ifCond .eq 13, 3) := by decide +kernel
theorem d_St_requirePlain_10 : decode b_St_requirePlain 10 = .ok (.new 89, 3) := by decide +kernel
theorem d_St_requirePlain_13 : decode b_St_requirePlain 13 = .ok (.dup, 1) := by decide +kernel
theorem d_St_requirePlain_14 : decode b_St_requirePlain 14 = .ok (.ldc 242, 2) := by decide +kernel
theorem d_St_requirePlain_16 : decode b_St_requirePlain 16 = .ok (.invokespecial 93, 3) := by decide +kernel
theorem d_St_requirePlain_19 : decode b_St_requirePlain 19 = .ok (.athrow, 1) := by decide +kernel
theorem d_St_requirePlain_20 : decode b_St_requirePlain 20 = .ok (.return_, 1) := by decide +kernel
theorem d_St_swap_0 : decode b_St_swap 0 = .ok (.aload_n 0, 1) := by decide +kernel
theorem d_St_swap_1 : decode b_St_swap 1 = .ok (.invokevirtual 117, 3) := by decide +kernel
theorem d_St_swap_4 : decode b_St_swap 4 = .ok (.aload_n 0, 1) := by decide +kernel
theorem d_St_swap_5 : decode b_St_swap 5 = .ok (.iload_n 1, 1) := by decide +kernel
theorem d_St_swap_6 : decode b_St_swap 6 = .ok (.invokevirtual 69, 3) := by decide +kernel
theorem d_St_swap_9 : decode b_St_swap 9 = .ok (.aload_n 0, 1) := by decide +kernel
theorem d_St_swap_10 : decode b_St_swap 10 = .ok (.iload_n 2, 1) := by decide +kernel
theorem d_St_swap_11 : decode b_St_swap 11 = .ok (.invokevirtual 69, 3) := by decide +kernel
theorem d_St_swap_14 : decode b_St_swap 14 = .ok (.aload_n 0, 1) := by decide +kernel
theorem d_St_swap_15 : decode b_St_swap 15 = .ok (.getfield 12, 3) := by decide +kernel
theorem d_St_swap_18 : decode b_St_swap 18 = .ok (.iload_n 1, 1) := by decide +kernel
theorem d_St_swap_19 : decode b_St_swap 19 = .ok (.iload_n 2, 1) := by decide +kernel
theorem d_St_swap_20 : decode b_St_swap 20 = .ok (.invokevirtual 123, 3) := by decide +kernel
theorem d_St_swap_23 : decode b_St_swap 23 = .ok (.ireturn, 1) := by decide +kernel
theorem d_St_canonical_0 : decode b_St_canonical 0 = .ok (.aload_n 0, 1) := by decide +kernel
theorem d_St_canonical_1 : decode b_St_canonical 1 = .ok (.invokevirtual 117, 3) := by decide +kernel
theorem d_St_canonical_4 : decode b_St_canonical 4 = .ok (.aload_n 0, 1) := by decide +kernel
theorem d_St_canonical_5 : decode b_St_canonical 5 = .ok (.getfield 12, 3) := by decide +kernel
theorem d_St_canonical_8 : decode b_St_canonical 8 = .ok (.invokevirtual 127, 3) := by decide +kernel
theorem d_St_canonical_11 : decode b_St_canonical 11 = .ok (.istore_n 1, 1) := by decide +kernel
theorem d_St_canonical_12 : decode b_St_canonical 12 = .ok (.aload_n 0, 1) := by decide +kernel
theorem d_St_canonical_13 : decode b_St_canonical 13 = .ok (.getfield 12, 3) := by decide +kernel
theorem d_St_canonical_16 : decode b_St_canonical 16 = .ok (.iload_n 1, 1) := by decide +kernel
theorem d_St_canonical_17 : decode b_St_canonical 17 = .ok (.invokevirtual 130, 3) := by decide +kernel
theorem d_St_canonical_20 : decode b_St_canonical 20 = .ok (.iload_n 1, 1) := by decide +kernel
theorem d_St_canonical_21 : decode b_St_canonical 21 = .ok (.ireturn, 1) := by decide +kernel
theorem d_St_height_0 : decode b_St_height 0 = .ok (.aload_n 0, 1) := by decide +kernel
theorem d_St_height_1 : decode b_St_height 1 = .ok (.iload_n 1, 1) := by decide +kernel
theorem d_St_height_2 : decode b_St_height 2 = .ok (.invokevirtual 69, 3) := by decide +kernel
theorem d_St_height_5 : decode b_St_height 5 = .ok (.iload_n 2, 1) := by decide +kernel
theorem d_St_height_6 : decode b_St_height 6 = .ok (.ifCond .lt 15, 3) := by decide +kernel
theorem d_St_height_9 : decode b_St_height 9 = .ok (.iload_n 2, 1) := by decide +kernel
theorem d_St_height_10 : decode b_St_height 10 = .ok (.aload_n 0, 1) := by decide +kernel
theorem d_St_height_11 : decode b_St_height 11 = .ok (.getfield 12, 3) := by decide +kernel
theorem d_St_height_14 : decode b_St_height 14 = .ok (.iload_n 1, 1) := by decide +kernel
theorem d_St_height_15 : decode b_St_height 15 = .ok (.invokevirtual 94, 3) := by decide +kernel
theorem d_St_height_18 : decode b_St_height 18 = .ok (.if_icmp .lt 13, 3) := by decide +kernel
theorem d_St_height_21 : decode b_St_height 21 = .ok (.new 133, 3) := by decide +kernel
theorem d_St_height_24 : decode b_St_height 24 = .ok (.dup, 1) := by decide +kernel
theorem d_St_height_25 : decode b_St_height 25 = .ok (.ldc 135, 2) := by decide +kernel
theorem d_St_height_27 : decode b_St_height 27 = .ok (.invokespecial 137, 3) := by decide +kernel
theorem d_St_height_30 : decode b_St_height 30 = .ok (.athrow, 1) := by decide +kernel
theorem d_St_height_31 : decode b_St_height 31 = .ok (.aload_n 0, 1) := by decide +kernel
theorem d_St_height_32 : decode b_St_height 32 = .ok (.getfield 12, 3) := by decide +kernel
theorem d_St_height_35 : decode b_St_height 35 = .ok (.iload_n 1, 1) := by decide +kernel
theorem d_St_height_36 : decode b_St_height 36 = .ok (.iload_n 2, 1) := by decide +kernel
theorem d_St_height_37 : decode b_St_height 37 = .ok (.invokevirtual 138, 3) := by decide +kernel
theorem d_St_height_40 : decode b_St_height 40 = .ok (.aload_n 0, 1) := by decide +kernel
theorem d_St_height_41 : decode b_St_height 41 = .ok (.getfield 12, 3) := by decide +kernel
theorem d_St_height_44 : decode b_St_height 44 = .ok (.iload_n 1, 1) := by decide +kernel
theorem d_St_height_45 : decode b_St_height 45 = .ok (.invokevirtual 141, 3) := by decide +kernel
theorem d_St_height_48 : decode b_St_height 48 = .ok (.iadd, 1) := by decide +kernel
theorem d_St_height_49 : decode b_St_height 49 = .ok (.ireturn, 1) := by decide +kernel
theorem d_St_save_0 : decode b_St_save 0 = .ok (.iload_n 1, 1) := by decide +kernel
theorem d_St_save_1 : decode b_St_save 1 = .ok (.invokestatic 144, 3) := by decide +kernel
theorem d_St_save_4 : decode b_St_save 4 = .ok (.aload_n 0, 1) := by decide +kernel
theorem d_St_save_5 : decode b_St_save 5 = .ok (.getfield 16, 3) := by decide +kernel
theorem d_St_save_8 : decode b_St_save 8 = .ok (.iload_n 1, 1) := by decide +kernel
theorem d_St_save_9 : decode b_St_save 9 = .ok (.aaload, 1) := by decide +kernel
theorem d_St_save_10 : decode b_St_save 10 = .ok (.astore_n 2, 1) := by decide +kernel
theorem d_St_save_11 : decode b_St_save 11 = .ok (.aload_n 2, 1) := by decide +kernel
theorem d_St_save_12 : decode b_St_save 12 = .ok (.ifnull 7, 3) := by decide +kernel
theorem d_St_save_15 : decode b_St_save 15 = .ok (.iconst 1, 1) := by decide +kernel
theorem d_St_save_16 : decode b_St_save 16 = .ok (.goto 4, 3) := by decide +kernel
theorem d_St_save_19 : decode b_St_save 19 = .ok (.iconst 0, 1) := by decide +kernel
theorem d_St_save_20 : decode b_St_save 20 = .ok (.istore_n 3, 1) := by decide +kernel
theorem d_St_save_21 : decode b_St_save 21 = .ok (.aload_n 2, 1) := by decide +kernel
theorem d_St_save_22 : decode b_St_save 22 = .ok (.ifnonnull 18, 3) := by decide +kernel
theorem d_St_save_25 : decode b_St_save 25 = .ok (.new 9, 3) := by decide +kernel
theorem d_St_save_28 : decode b_St_save 28 = .ok (.dup, 1) := by decide +kernel
theorem d_St_save_29 : decode b_St_save 29 = .ok (.invokespecial 11, 3) := by decide +kernel
theorem d_St_save_32 : decode b_St_save 32 = .ok (.astore_n 2, 1) := by decide +kernel
theorem d_St_save_33 : decode b_St_save 33 = .ok (.aload_n 0, 1) := by decide +kernel
theorem d_St_save_34 : decode b_St_save 34 = .ok (.getfield 16, 3) := by decide +kernel
theorem d_St_save_37 : decode b_St_save 37 = .ok (.iload_n 1, 1) := by decide +kernel
theorem d_St_save_38 : decode b_St_save 38 = .ok (.aload_n 2, 1) := by decide +kernel
theorem d_St_save_39 : decode b_St_save 39 = .ok (.aastore, 1) := by decide +kernel
theorem d_St_save_40 : decode b_St_save 40 = .ok (.aload_n 2, 1) := by decide +kernel
theorem d_St_save_41 : decode b_St_save 41 = .ok (.aload_n 0, 1) := by decide +kernel
theorem d_St_save_42 : decode b_St_save 42 = .ok (.getfield 12, 3) := by decide +kernel
theorem d_St_save_45 : decode b_St_save 45 = .ok (.invokevirtual 147, 3) := by decide +kernel
theorem d_St_save_48 : decode b_St_save 48 = .ok (.iload_n 3, 1) := by decide +kernel
theorem d_St_save_49 : decode b_St_save 49 = .ok (.ireturn, 1) := by decide +kernel
theorem d_St_requireSlot_0 : decode b_St_requireSlot 0 = .ok (.iload_n 0, 1) := by decide +kernel
theorem d_St_requireSlot_1 : decode b_St_requireSlot 1 = .ok (.ifCond .lt 9, 3) := by decide +kernel
theorem d_St_requireSlot_4 : decode b_St_requireSlot 4 = .ok (.iload_n 0, 1) := by decide +kernel
theorem d_St_requireSlot_5 : decode b_St_requireSlot 5 = .ok (.bipush 6, 2) := by decide +kernel
theorem d_St_requireSlot_7 : decode b_St_requireSlot 7 = .ok (.if_icmp .lt 13, 3) := by decide +kernel
theorem d_St_requireSlot_10 : decode b_St_requireSlot 10 = .ok (.new 133, 3) := by decide +kernel
theorem d_St_requireSlot_13 : decode b_St_requireSlot 13 = .ok (.dup, 1) := by decide +kernel
theorem d_St_requireSlot_14 : decode b_St_requireSlot 14 = .ok (.ldc 240, 2) := by decide +kernel
theorem d_St_requireSlot_16 : decode b_St_requireSlot 16 = .ok (.invokespecial 137, 3) := by decide +kernel
theorem d_St_requireSlot_19 : decode b_St_requireSlot 19 = .ok (.athrow, 1) := by decide +kernel
theorem d_St_requireSlot_20 : decode b_St_requireSlot 20 = .ok (.return_, 1) := by decide +kernel
theorem d_St_load_0 : decode b_St_load 0 = .ok (.iload_n 1, 1) := by decide +kernel
theorem d_St_load_1 : decode b_St_load 1 = .ok (.invokestatic 144, 3) := by decide +kernel
theorem d_St_load_4 : decode b_St_load 4 = .ok (.aload_n 0, 1) := by decide +kernel
theorem d_St_load_5 : decode b_St_load 5 = .ok (.getfield 16, 3) := by decide +kernel
theorem d_St_load_8 : decode b_St_load 8 = .ok (.iload_n 1, 1) := by decide +kernel
theorem d_St_load_9 : decode b_St_load 9 = .ok (.aaload, 1) := by decide +kernel
theorem d_St_load_10 : decode b_St_load 10 = .ok (.astore_n 2, 1) := by decide +kernel
theorem d_St_load_11 : decode b_St_load 11 = .ok (.aload_n 2, 1) := by decide +kernel
theorem d_St_load_12 : decode b_St_load 12 = .ok (.ifnonnull 13, 3) := by decide +kernel
theorem d_St_load_15 : decode b_St_load 15 = .ok (.new 151, 3) := by decide +kernel
theorem d_St_load_18 : decode b_St_load 18 = .ok (.dup, 1) := by decide +kernel
theorem d_St_load_19 : decode b_St_load 19 = .ok (.ldc 153, 2) := by decide +kernel
theorem d_St_load_21 : decode b_St_load 21 = .ok (.invokespecial 155, 3) := by decide +kernel
theorem d_St_load_24 : decode b_St_load 24 = .ok (.athrow, 1) := by decide +kernel
theorem d_St_load_25 : decode b_St_load 25 = .ok (.aload_n 0, 1) := by decide +kernel
theorem d_St_load_26 : decode b_St_load 26 = .ok (.getfield 12, 3) := by decide +kernel
theorem d_St_load_29 : decode b_St_load 29 = .ok (.aload_n 2, 1) := by decide +kernel
theorem d_St_load_30 : decode b_St_load 30 = .ok (.invokevirtual 147, 3) := by decide +kernel
theorem d_St_load_33 : decode b_St_load 33 = .ok (.aload_n 0, 1) := by decide +kernel
theorem d_St_load_34 : decode b_St_load 34 = .ok (.getfield 12, 3) := by decide +kernel
theorem d_St_load_37 : decode b_St_load 37 = .ok (.getfield 61, 3) := by decide +kernel
theorem d_St_load_40 : decode b_St_load 40 = .ok (.ireturn, 1) := by decide +kernel
theorem d_St_join_0 : decode b_St_join 0 = .ok (.iload_n 1, 1) := by decide +kernel
theorem d_St_join_1 : decode b_St_join 1 = .ok (.invokestatic 144, 3) := by decide +kernel
theorem d_St_join_4 : decode b_St_join 4 = .ok (.iload_n 2, 1) := by decide +kernel
theorem d_St_join_5 : decode b_St_join 5 = .ok (.invokestatic 144, 3) := by decide +kernel
theorem d_St_join_8 : decode b_St_join 8 = .ok (.aload_n 0, 1) := by decide +kernel
theorem d_St_join_9 : decode b_St_join 9 = .ok (.getfield 16, 3) := by decide +kernel
theorem d_St_join_12 : decode b_St_join 12 = .ok (.iload_n 1, 1) := by decide +kernel
theorem d_St_join_13 : decode b_St_join 13 = .ok (.aaload, 1) := by decide +kernel
theorem d_St_join_14 : decode b_St_join 14 = .ok (.astore_n 3, 1) := by decide +kernel
theorem d_St_join_15 : decode b_St_join 15 = .ok (.aload_n 0, 1) := by decide +kernel
theorem d_St_join_16 : decode b_St_join 16 = .ok (.getfield 16, 3) := by decide +kernel
theorem d_St_join_19 : decode b_St_join 19 = .ok (.iload_n 2, 1) := by decide +kernel
theorem d_St_join_20 : decode b_St_join 20 = .ok (.aaload, 1) := by decide +kernel
theorem d_St_join_21 : decode b_St_join 21 = .ok (.astore 4, 2) := by decide +kernel
theorem d_St_join_23 : decode b_St_join 23 = .ok (.aload_n 3, 1) := by decide +kernel
theorem d_St_join_24 : decode b_St_join 24 = .ok (.ifnull 8, 3) := by decide +kernel
theorem d_St_join_27 : decode b_St_join 27 = .ok (.aload 4, 2) := by decide +kernel
theorem d_St_join_29 : decode b_St_join 29 = .ok (.ifnonnull 13, 3) := by decide +kernel
theorem d_St_join_32 : decode b_St_join 32 = .ok (.new 151, 3) := by decide +kernel
theorem d_St_join_35 : decode b_St_join 35 = .ok (.dup, 1) := by decide +kernel
theorem d_St_join_36 : decode b_St_join 36 = .ok (.ldc 153, 2) := by decide +kernel
theorem d_St_join_38 : decode b_St_join 38 = .ok (.invokespecial 155, 3) := by decide +kernel
theorem d_St_join_41 : decode b_St_join 41 = .ok (.athrow, 1) := by decide +kernel
theorem d_St_join_42 : decode b_St_join 42 = .ok (.aload_n 3, 1) := by decide +kernel
theorem d_St_join_43 : decode b_St_join 43 = .ok (.invokevirtual 156, 3) := by decide +kernel
theorem d_St_join_46 : decode b_St_join 46 = .ok (.ifCond .eq 23, 3) := by decide +kernel
theorem d_St_join_49 : decode b_St_join 49 = .ok (.aload 4, 2) := by decide +kernel
theorem d_St_join_51 : decode b_St_join 51 = .ok (.invokevirtual 156, 3) := by decide +kernel
theorem d_St_join_54 : decode b_St_join 54 = .ok (.ifCond .eq 15, 3) := by decide +kernel
theorem d_St_join_57 : decode b_St_join 57 = .ok (.aload_n 3, 1) := by decide +kernel
theorem d_St_join_58 : decode b_St_join 58 = .ok (.invokevirtual 114, 3) := by decide +kernel
theorem d_St_join_61 : decode b_St_join 61 = .ok (.aload 4, 2) := by decide +kernel
theorem d_St_join_63 : decode b_St_join 63 = .ok (.invokevirtual 114, 3) := by decide +kernel
theorem d_St_join_66 : decode b_St_join 66 = .ok (.if_icmp .eq 13, 3) := by decide +kernel
theorem d_St_join_69 : decode b_St_join 69 = .ok (.new 48, 3) := by decide +kernel
theorem d_St_join_72 : decode b_St_join 72 = .ok (.dup, 1) := by decide +kernel
theorem d_St_join_73 : decode b_St_join 73 = .ok (.ldc 159, 2) := by decide +kernel
theorem d_St_join_75 : decode b_St_join 75 = .ok (.invokespecial 52, 3) := by decide +kernel
theorem d_St_join_78 : decode b_St_join 78 = .ok (.athrow, 1) := by decide +kernel
theorem d_St_join_79 : decode b_St_join 79 = .ok (.aload_n 0, 1) := by decide +kernel
theorem d_St_join_80 : decode b_St_join 80 = .ok (.getfield 23, 3) := by decide +kernel
theorem d_St_join_83 : decode b_St_join 83 = .ok (.aload_n 3, 1) := by decide +kernel
theorem d_St_join_84 : decode b_St_join 84 = .ok (.aload 4, 2) := by decide +kernel
theorem d_St_join_86 : decode b_St_join 86 = .ok (.invokevirtual 161, 3) := by decide +kernel
theorem d_St_join_89 : decode b_St_join 89 = .ok (.aload_n 0, 1) := by decide +kernel
theorem d_St_join_90 : decode b_St_join 90 = .ok (.getfield 23, 3) := by decide +kernel
theorem d_St_join_93 : decode b_St_join 93 = .ok (.getfield 165, 3) := by decide +kernel
theorem d_St_join_96 : decode b_St_join 96 = .ok (.ireturn, 1) := by decide +kernel
theorem d_St_stateFrom_0 : decode b_St_stateFrom 0 = .ok (.iload_n 1, 1) := by decide +kernel
theorem d_St_stateFrom_1 : decode b_St_stateFrom 1 = .ok (.ifCond .ne 7, 3) := by decide +kernel
theorem d_St_stateFrom_4 : decode b_St_stateFrom 4 = .ok (.iconst 0, 1) := by decide +kernel
theorem d_St_stateFrom_5 : decode b_St_stateFrom 5 = .ok (.goto 8, 3) := by decide +kernel
theorem d_St_stateFrom_8 : decode b_St_stateFrom 8 = .ok (.iconst 1, 1) := by decide +kernel
theorem d_St_stateFrom_9 : decode b_St_stateFrom 9 = .ok (.iload_n 1, 1) := by decide +kernel
theorem d_St_stateFrom_10 : decode b_St_stateFrom 10 = .ok (.iconst 1, 1) := by decide +kernel
theorem d_St_stateFrom_11 : decode b_St_stateFrom 11 = .ok (.isub, 1) := by decide +kernel
theorem d_St_stateFrom_12 : decode b_St_stateFrom 12 = .ok (.ishl, 1) := by decide +kernel
theorem d_St_stateFrom_13 : decode b_St_stateFrom 13 = .ok (.istore_n 2, 1) := by decide +kernel
theorem d_St_stateFrom_14 : decode b_St_stateFrom 14 = .ok (.iload_n 0, 1) := by decide +kernel
theorem d_St_stateFrom_15 : decode b_St_stateFrom 15 = .ok (.iload_n 2, 1) := by decide +kernel
theorem d_St_stateFrom_16 : decode b_St_stateFrom 16 = .ok (.iand, 1) := by decide +kernel
theorem d_St_stateFrom_17 : decode b_St_stateFrom 17 = .ok (.iload_n 2, 1) := by decide +kernel
theorem d_St_stateFrom_18 : decode b_St_stateFrom 18 = .ok (.if_icmp .eq 5, 3) := by decide +kernel
theorem d_St_stateFrom_21 : decode b_St_stateFrom 21 = .ok (.iconst (-1), 1) := by decide +kernel
theorem d_St_stateFrom_22 : decode b_St_stateFrom 22 = .ok (.ireturn, 1) := by decide +kernel
theorem d_St_stateFrom_23 : decode b_St_stateFrom 23 = .ok (.iload_n 1, 1) := by decide +kernel
theorem d_St_stateFrom_24 : decode b_St_stateFrom 24 = .ok (.ifCond .ne 7, 3) := by decide +kernel
theorem d_St_stateFrom_27 : decode b_St_stateFrom 27 = .ok (.iconst 0, 1) := by decide +kernel
theorem d_St_stateFrom_28 : decode b_St_stateFrom 28 = .ok (.goto 4, 3) := by decide +kernel
theorem d_St_stateFrom_31 : decode b_St_stateFrom 31 = .ok (.iconst 1, 1) := by decide +kernel
theorem d_St_stateFrom_32 : decode b_St_stateFrom 32 = .ok (.istore_n 3, 1) := by decide +kernel
theorem d_St_stateFrom_33 : decode b_St_stateFrom 33 = .ok (.iload_n 0, 1) := by decide +kernel
theorem d_St_stateFrom_34 : decode b_St_stateFrom 34 = .ok (.iload_n 2, 1) := by decide +kernel
theorem d_St_stateFrom_35 : decode b_St_stateFrom 35 = .ok (.iconst (-1), 1) := by decide +kernel
theorem d_St_stateFrom_36 : decode b_St_stateFrom 36 = .ok (.ixor, 1) := by decide +kernel
theorem d_St_stateFrom_37 : decode b_St_stateFrom 37 = .ok (.iand, 1) := by decide +kernel
theorem d_St_stateFrom_38 : decode b_St_stateFrom 38 = .ok (.iconst 1, 1) := by decide +kernel
theorem d_St_stateFrom_39 : decode b_St_stateFrom 39 = .ok (.ishl, 1) := by decide +kernel
theorem d_St_stateFrom_40 : decode b_St_stateFrom 40 = .ok (.iload_n 3, 1) := by decide +kernel
theorem d_St_stateFrom_41 : decode b_St_stateFrom 41 = .ok (.ior, 1) := by decide +kernel
theorem d_St_stateFrom_42 : decode b_St_stateFrom 42 = .ok (.istore 4, 2) := by decide +kernel
theorem d_St_stateFrom_44 : decode b_St_stateFrom 44 = .ok (.iload 4, 2) := by decide +kernel
theorem d_St_stateFrom_46 : decode b_St_stateFrom 46 = .ok (.sipush 512, 3) := by decide +kernel
theorem d_St_stateFrom_49 : decode b_St_stateFrom 49 = .ok (.if_icmp .ge 8, 3) := by decide +kernel
theorem d_St_stateFrom_52 : decode b_St_stateFrom 52 = .ok (.iload 4, 2) := by decide +kernel
theorem d_St_stateFrom_54 : decode b_St_stateFrom 54 = .ok (.goto 4, 3) := by decide +kernel
theorem d_St_stateFrom_57 : decode b_St_stateFrom 57 = .ok (.iconst (-1), 1) := by decide +kernel
theorem d_St_stateFrom_58 : decode b_St_stateFrom 58 = .ok (.ireturn, 1) := by decide +kernel
theorem d_St_stateAfter_0 : decode b_St_stateAfter 0 = .ok (.iload_n 0, 1) := by decide +kernel
theorem d_St_stateAfter_1 : decode b_St_stateAfter 1 = .ok (.invokestatic 55, 3) := by decide +kernel
theorem d_St_stateAfter_4 : decode b_St_stateAfter 4 = .ok (.istore_n 2, 1) := by decide +kernel
theorem d_St_stateAfter_5 : decode b_St_stateAfter 5 = .ok (.iload_n 0, 1) := by decide +kernel
theorem d_St_stateAfter_6 : decode b_St_stateAfter 6 = .ok (.iconst 1, 1) := by decide +kernel
theorem d_St_stateAfter_7 : decode b_St_stateAfter 7 = .ok (.ishr, 1) := by decide +kernel
theorem d_St_stateAfter_8 : decode b_St_stateAfter 8 = .ok (.istore_n 3, 1) := by decide +kernel
theorem d_St_stateAfter_9 : decode b_St_stateAfter 9 = .ok (.iload_n 1, 1) := by decide +kernel
theorem d_St_stateAfter_10 : decode b_St_stateAfter 10 = .ok (.ifCond .ne 13, 3) := by decide +kernel
theorem d_St_stateAfter_13 : decode b_St_stateAfter 13 = .ok (.iload_n 2, 1) := by decide +kernel
theorem d_St_stateAfter_14 : decode b_St_stateAfter 14 = .ok (.ifCond .eq 7, 3) := by decide +kernel
theorem d_St_stateAfter_17 : decode b_St_stateAfter 17 = .ok (.iconst (-1), 1) := by decide +kernel
theorem d_St_stateAfter_18 : decode b_St_stateAfter 18 = .ok (.goto 4, 3) := by decide +kernel
theorem d_St_stateAfter_21 : decode b_St_stateAfter 21 = .ok (.iload_n 3, 1) := by decide +kernel
theorem d_St_stateAfter_22 : decode b_St_stateAfter 22 = .ok (.ireturn, 1) := by decide +kernel
theorem d_St_stateAfter_23 : decode b_St_stateAfter 23 = .ok (.iconst 1, 1) := by decide +kernel
theorem d_St_stateAfter_24 : decode b_St_stateAfter 24 = .ok (.iload_n 1, 1) := by decide +kernel
theorem d_St_stateAfter_25 : decode b_St_stateAfter 25 = .ok (.iconst 1, 1) := by decide +kernel
theorem d_St_stateAfter_26 : decode b_St_stateAfter 26 = .ok (.isub, 1) := by decide +kernel
theorem d_St_stateAfter_27 : decode b_St_stateAfter 27 = .ok (.ishl, 1) := by decide +kernel
theorem d_St_stateAfter_28 : decode b_St_stateAfter 28 = .ok (.istore 4, 2) := by decide +kernel
theorem d_St_stateAfter_30 : decode b_St_stateAfter 30 = .ok (.iload_n 2, 1) := by decide +kernel
theorem d_St_stateAfter_31 : decode b_St_stateAfter 31 = .ok (.ifCond .eq 10, 3) := by decide +kernel
theorem d_St_stateAfter_34 : decode b_St_stateAfter 34 = .ok (.iload_n 3, 1) := by decide +kernel
theorem d_St_stateAfter_35 : decode b_St_stateAfter 35 = .ok (.iload 4, 2) := by decide +kernel
theorem d_St_stateAfter_37 : decode b_St_stateAfter 37 = .ok (.iand, 1) := by decide +kernel
theorem d_St_stateAfter_38 : decode b_St_stateAfter 38 = .ok (.ifCond .eq 7, 3) := by decide +kernel
theorem d_St_stateAfter_41 : decode b_St_stateAfter 41 = .ok (.iconst (-1), 1) := by decide +kernel
theorem d_St_stateAfter_42 : decode b_St_stateAfter 42 = .ok (.goto 7, 3) := by decide +kernel
theorem d_St_stateAfter_45 : decode b_St_stateAfter 45 = .ok (.iload_n 3, 1) := by decide +kernel
theorem d_St_stateAfter_46 : decode b_St_stateAfter 46 = .ok (.iload 4, 2) := by decide +kernel
theorem d_St_stateAfter_48 : decode b_St_stateAfter 48 = .ok (.ior, 1) := by decide +kernel
theorem d_St_stateAfter_49 : decode b_St_stateAfter 49 = .ok (.ireturn, 1) := by decide +kernel
theorem d_St_joinThrow_0 : decode b_St_joinThrow 0 = .ok (.iload_n 1, 1) := by decide +kernel
theorem d_St_joinThrow_1 : decode b_St_joinThrow 1 = .ok (.ifCond .lt 14, 3) := by decide +kernel
theorem d_St_joinThrow_4 : decode b_St_joinThrow 4 = .ok (.iload_n 1, 1) := by decide +kernel
theorem d_St_joinThrow_5 : decode b_St_joinThrow 5 = .ok (.aload_n 0, 1) := by decide +kernel
theorem d_St_joinThrow_6 : decode b_St_joinThrow 6 = .ok (.getfield 23, 3) := by decide +kernel
theorem d_St_joinThrow_9 : decode b_St_joinThrow 9 = .ok (.getfield 165, 3) := by decide +kernel
theorem d_St_joinThrow_12 : decode b_St_joinThrow 12 = .ok (.if_icmp .lt 13, 3) := by decide +kernel
theorem d_St_joinThrow_15 : decode b_St_joinThrow 15 = .ok (.new 133, 3) := by decide +kernel
theorem d_St_joinThrow_18 : decode b_St_joinThrow 18 = .ok (.dup, 1) := by decide +kernel
theorem d_St_joinThrow_19 : decode b_St_joinThrow 19 = .ok (.ldc 168, 2) := by decide +kernel
theorem d_St_joinThrow_21 : decode b_St_joinThrow 21 = .ok (.invokespecial 137, 3) := by decide +kernel
theorem d_St_joinThrow_24 : decode b_St_joinThrow 24 = .ok (.athrow, 1) := by decide +kernel
theorem d_St_joinThrow_25 : decode b_St_joinThrow 25 = .ok (.aload_n 0, 1) := by decide +kernel
theorem d_St_joinThrow_26 : decode b_St_joinThrow 26 = .ok (.getfield 23, 3) := by decide +kernel
theorem d_St_joinThrow_29 : decode b_St_joinThrow 29 = .ok (.iload_n 1, 1) := by decide +kernel
theorem d_St_joinThrow_30 : decode b_St_joinThrow 30 = .ok (.invokevirtual 170, 3) := by decide +kernel
theorem d_St_joinThrow_33 : decode b_St_joinThrow 33 = .ok (.ireturn, 1) := by decide +kernel
theorem d_St_joinAt_0 : decode b_St_joinAt 0 = .ok (.iload_n 1, 1) := by decide +kernel
theorem d_St_joinAt_1 : decode b_St_joinAt 1 = .ok (.ifCond .lt 18, 3) := by decide +kernel
theorem d_St_joinAt_4 : decode b_St_joinAt 4 = .ok (.iload_n 1, 1) := by decide +kernel
theorem d_St_joinAt_5 : decode b_St_joinAt 5 = .ok (.iconst 1, 1) := by decide +kernel
theorem d_St_joinAt_6 : decode b_St_joinAt 6 = .ok (.if_icmp .gt 13, 3) := by decide +kernel
theorem d_St_joinAt_9 : decode b_St_joinAt 9 = .ok (.aload_n 0, 1) := by decide +kernel
theorem d_St_joinAt_10 : decode b_St_joinAt 10 = .ok (.getfield 23, 3) := by decide +kernel
theorem d_St_joinAt_13 : decode b_St_joinAt 13 = .ok (.getfield 173, 3) := by decide +kernel
theorem d_St_joinAt_16 : decode b_St_joinAt 16 = .ok (.ifCond .ne 13, 3) := by decide +kernel
theorem d_St_joinAt_19 : decode b_St_joinAt 19 = .ok (.new 133, 3) := by decide +kernel
theorem d_St_joinAt_22 : decode b_St_joinAt 22 = .ok (.dup, 1) := by decide +kernel
theorem d_St_joinAt_23 : decode b_St_joinAt 23 = .ok (.ldc 177, 2) := by decide +kernel
theorem d_St_joinAt_25 : decode b_St_joinAt 25 = .ok (.invokespecial 137, 3) := by decide +kernel
theorem d_St_joinAt_28 : decode b_St_joinAt 28 = .ok (.athrow, 1) := by decide +kernel
theorem d_St_joinAt_29 : decode b_St_joinAt 29 = .ok (.iload_n 1, 1) := by decide +kernel
theorem d_St_joinAt_30 : decode b_St_joinAt 30 = .ok (.ifCond .ne 13, 3) := by decide +kernel
theorem d_St_joinAt_33 : decode b_St_joinAt 33 = .ok (.aload_n 0, 1) := by decide +kernel
theorem d_St_joinAt_34 : decode b_St_joinAt 34 = .ok (.getfield 23, 3) := by decide +kernel
theorem d_St_joinAt_37 : decode b_St_joinAt 37 = .ok (.getfield 179, 3) := by decide +kernel
theorem d_St_joinAt_40 : decode b_St_joinAt 40 = .ok (.goto 10, 3) := by decide +kernel
theorem d_St_joinAt_43 : decode b_St_joinAt 43 = .ok (.aload_n 0, 1) := by decide +kernel
theorem d_St_joinAt_44 : decode b_St_joinAt 44 = .ok (.getfield 23, 3) := by decide +kernel
theorem d_St_joinAt_47 : decode b_St_joinAt 47 = .ok (.getfield 182, 3) := by decide +kernel
theorem d_St_joinAt_50 : decode b_St_joinAt 50 = .ok (.ireturn, 1) := by decide +kernel
theorem d_St_countValid_0 : decode b_St_countValid 0 = .ok (.iload_n 1, 1) := by decide +kernel
theorem d_St_countValid_1 : decode b_St_countValid 1 = .ok (.iconst 1, 1) := by decide +kernel
theorem d_St_countValid_2 : decode b_St_countValid 2 = .ok (.if_icmp .lt 19, 3) := by decide +kernel
theorem d_St_countValid_5 : decode b_St_countValid 5 = .ok (.iload_n 1, 1) := by decide +kernel
theorem d_St_countValid_6 : decode b_St_countValid 6 = .ok (.bipush 6, 2) := by decide +kernel
theorem d_St_countValid_8 : decode b_St_countValid 8 = .ok (.if_icmp .gt 13, 3) := by decide +kernel
theorem d_St_countValid_11 : decode b_St_countValid 11 = .ok (.iload_n 2, 1) := by decide +kernel
theorem d_St_countValid_12 : decode b_St_countValid 12 = .ok (.ifCond .lt 9, 3) := by decide +kernel
theorem d_St_countValid_15 : decode b_St_countValid 15 = .ok (.iload_n 2, 1) := by decide +kernel
theorem d_St_countValid_16 : decode b_St_countValid 16 = .ok (.bipush 9, 2) := by decide +kernel
theorem d_St_countValid_18 : decode b_St_countValid 18 = .ok (.if_icmp .le 13, 3) := by decide +kernel
theorem d_St_countValid_21 : decode b_St_countValid 21 = .ok (.new 48, 3) := by decide +kernel
theorem d_St_countValid_24 : decode b_St_countValid 24 = .ok (.dup, 1) := by decide +kernel
theorem d_St_countValid_25 : decode b_St_countValid 25 = .ok (.ldc 185, 2) := by decide +kernel
theorem d_St_countValid_27 : decode b_St_countValid 27 = .ok (.invokespecial 52, 3) := by decide +kernel
theorem d_St_countValid_30 : decode b_St_countValid 30 = .ok (.athrow, 1) := by decide +kernel
theorem d_St_countValid_31 : decode b_St_countValid 31 = .ok (.aload_n 0, 1) := by decide +kernel
theorem d_St_countValid_32 : decode b_St_countValid 32 = .ok (.getfield 30, 3) := by decide +kernel
theorem d_St_countValid_35 : decode b_St_countValid 35 = .ok (.iload_n 1, 1) := by decide +kernel
theorem d_St_countValid_36 : decode b_St_countValid 36 = .ok (.iload_n 2, 1) := by decide +kernel
theorem d_St_countValid_37 : decode b_St_countValid 37 = .ok (.invokevirtual 187, 3) := by decide +kernel
theorem d_St_countValid_40 : decode b_St_countValid 40 = .ok (.ireturn, 1) := by decide +kernel
theorem d_St_cycle_0 : decode b_St_cycle 0 = .ok (.iload_n 1, 1) := by decide +kernel
theorem d_St_cycle_1 : decode b_St_cycle 1 = .ok (.iconst 1, 1) := by decide +kernel
theorem d_St_cycle_2 : decode b_St_cycle 2 = .ok (.if_icmp .lt 12, 3) := by decide +kernel
theorem d_St_cycle_5 : decode b_St_cycle 5 = .ok (.iload_n 1, 1) := by decide +kernel
theorem d_St_cycle_6 : decode b_St_cycle 6 = .ok (.iconst 4, 1) := by decide +kernel
theorem d_St_cycle_7 : decode b_St_cycle 7 = .ok (.if_icmp .gt 7, 3) := by decide +kernel
theorem d_St_cycle_10 : decode b_St_cycle 10 = .ok (.iload_n 2, 1) := by decide +kernel
theorem d_St_cycle_11 : decode b_St_cycle 11 = .ok (.ifCond .ge 13, 3) := by decide +kernel
theorem d_St_cycle_14 : decode b_St_cycle 14 = .ok (.new 48, 3) := by decide +kernel
theorem d_St_cycle_17 : decode b_St_cycle 17 = .ok (.dup, 1) := by decide +kernel
theorem d_St_cycle_18 : decode b_St_cycle 18 = .ok (.ldc 190, 2) := by decide +kernel
theorem d_St_cycle_20 : decode b_St_cycle 20 = .ok (.invokespecial 52, 3) := by decide +kernel
theorem d_St_cycle_23 : decode b_St_cycle 23 = .ok (.athrow, 1) := by decide +kernel
theorem d_St_cycle_24 : decode b_St_cycle 24 = .ok (.aload_n 0, 1) := by decide +kernel
theorem d_St_cycle_25 : decode b_St_cycle 25 = .ok (.getfield 37, 3) := by decide +kernel
theorem d_St_cycle_28 : decode b_St_cycle 28 = .ok (.iload_n 1, 1) := by decide +kernel
theorem d_St_cycle_29 : decode b_St_cycle 29 = .ok (.iload_n 2, 1) := by decide +kernel
theorem d_St_cycle_30 : decode b_St_cycle 30 = .ok (.invokevirtual 192, 3) := by decide +kernel
theorem d_St_cycle_33 : decode b_St_cycle 33 = .ok (.istore_n 3, 1) := by decide +kernel
theorem d_St_cycle_34 : decode b_St_cycle 34 = .ok (.iload_n 3, 1) := by decide +kernel
theorem d_St_cycle_35 : decode b_St_cycle 35 = .ok (.iconst (-1), 1) := by decide +kernel
theorem d_St_cycle_36 : decode b_St_cycle 36 = .ok (.if_icmp .ne 13, 3) := by decide +kernel
theorem d_St_cycle_39 : decode b_St_cycle 39 = .ok (.new 151, 3) := by decide +kernel
theorem d_St_cycle_42 : decode b_St_cycle 42 = .ok (.dup, 1) := by decide +kernel
theorem d_St_cycle_43 : decode b_St_cycle 43 = .ok (.ldc 195, 2) := by decide +kernel
theorem d_St_cycle_45 : decode b_St_cycle 45 = .ok (.invokespecial 155, 3) := by decide +kernel
theorem d_St_cycle_48 : decode b_St_cycle 48 = .ok (.athrow, 1) := by decide +kernel
theorem d_St_cycle_49 : decode b_St_cycle 49 = .ok (.iload_n 3, 1) := by decide +kernel
theorem d_St_cycle_50 : decode b_St_cycle 50 = .ok (.ireturn, 1) := by decide +kernel
theorem d_St_show_0 : decode b_St_show 0 = .ok (.aload_n 0, 1) := by decide +kernel
theorem d_St_show_1 : decode b_St_show 1 = .ok (.invokevirtual 111, 3) := by decide +kernel
theorem d_St_show_4 : decode b_St_show 4 = .ok (.aload_n 0, 1) := by decide +kernel
theorem d_St_show_5 : decode b_St_show 5 = .ok (.getfield 44, 3) := by decide +kernel
theorem d_St_show_8 : decode b_St_show 8 = .ok (.aload_n 0, 1) := by decide +kernel
theorem d_St_show_9 : decode b_St_show 9 = .ok (.getfield 12, 3) := by decide +kernel
theorem d_St_show_12 : decode b_St_show 12 = .ok (.invokevirtual 197, 3) := by decide +kernel
theorem d_St_show_15 : decode b_St_show 15 = .ok (.aload_n 0, 1) := by decide +kernel
theorem d_St_show_16 : decode b_St_show 16 = .ok (.getfield 44, 3) := by decide +kernel
theorem d_St_show_19 : decode b_St_show 19 = .ok (.getfield 200, 3) := by decide +kernel
theorem d_St_show_22 : decode b_St_show 22 = .ok (.ireturn, 1) := by decide +kernel
theorem d_St_run_0 : decode b_St_run 0 = .ok (.iload_n 1, 1) := by decide +kernel
theorem d_St_run_1 : decode b_St_run 1 = .ok (.iconst 1, 1) := by decide +kernel
theorem d_St_run_2 : decode b_St_run 2 = .ok (.if_icmp .lt 9, 3) := by decide +kernel
theorem d_St_run_5 : decode b_St_run 5 = .ok (.iload_n 1, 1) := by decide +kernel
theorem d_St_run_6 : decode b_St_run 6 = .ok (.bipush 100, 2) := by decide +kernel
theorem d_St_run_8 : decode b_St_run 8 = .ok (.if_icmp .le 13, 3) := by decide +kernel
theorem d_St_run_11 : decode b_St_run 11 = .ok (.new 48, 3) := by decide +kernel
theorem d_St_run_14 : decode b_St_run 14 = .ok (.dup, 1) := by decide +kernel
theorem d_St_run_15 : decode b_St_run 15 = .ok (.ldc 202, 2) := by decide +kernel
theorem d_St_run_17 : decode b_St_run 17 = .ok (.invokespecial 52, 3) := by decide +kernel
theorem d_St_run_20 : decode b_St_run 20 = .ok (.athrow, 1) := by decide +kernel
theorem d_St_run_21 : decode b_St_run 21 = .ok (.aload_n 0, 1) := by decide +kernel
theorem d_St_run_22 : decode b_St_run 22 = .ok (.invokevirtual 204, 3) := by decide +kernel
theorem d_St_run_25 : decode b_St_run 25 = .ok (.aload_n 0, 1) := by decide +kernel
theorem d_St_run_26 : decode b_St_run 26 = .ok (.getfield 44, 3) := by decide +kernel
theorem d_St_run_29 : decode b_St_run 29 = .ok (.iload_n 1, 1) := by decide +kernel
theorem d_St_run_30 : decode b_St_run 30 = .ok (.invokevirtual 207, 3) := by decide +kernel
theorem d_St_run_33 : decode b_St_run 33 = .ok (.ireturn, 1) := by decide +kernel
theorem d_St_requireShown_0 : decode b_St_requireShown 0 = .ok (.aload_n 0, 1) := by decide +kernel
theorem d_St_requireShown_1 : decode b_St_requireShown 1 = .ok (.getfield 44, 3) := by decide +kernel
theorem d_St_requireShown_4 : decode b_St_requireShown 4 = .ok (.getfield 246, 3) := by decide +kernel
theorem d_St_requireShown_7 : decode b_St_requireShown 7 = .ok (.ifCond .ne 13, 3) := by decide +kernel
theorem d_St_requireShown_10 : decode b_St_requireShown 10 = .ok (.new 89, 3) := by decide +kernel
theorem d_St_requireShown_13 : decode b_St_requireShown 13 = .ok (.dup, 1) := by decide +kernel
theorem d_St_requireShown_14 : decode b_St_requireShown 14 = .ok (.ldc 249, 2) := by decide +kernel
theorem d_St_requireShown_16 : decode b_St_requireShown 16 = .ok (.invokespecial 93, 3) := by decide +kernel
theorem d_St_requireShown_19 : decode b_St_requireShown 19 = .ok (.athrow, 1) := by decide +kernel
theorem d_St_requireShown_20 : decode b_St_requireShown 20 = .ok (.return_, 1) := by decide +kernel
theorem d_St_ball_0 : decode b_St_ball 0 = .ok (.aload_n 0, 1) := by decide +kernel
theorem d_St_ball_1 : decode b_St_ball 1 = .ok (.iload_n 1, 1) := by decide +kernel
theorem d_St_ball_2 : decode b_St_ball 2 = .ok (.invokevirtual 210, 3) := by decide +kernel
theorem d_St_ball_5 : decode b_St_ball 5 = .ok (.aload_n 0, 1) := by decide +kernel
theorem d_St_ball_6 : decode b_St_ball 6 = .ok (.getfield 44, 3) := by decide +kernel
theorem d_St_ball_9 : decode b_St_ball 9 = .ok (.iload_n 1, 1) := by decide +kernel
theorem d_St_ball_10 : decode b_St_ball 10 = .ok (.invokevirtual 213, 3) := by decide +kernel
theorem d_St_ball_13 : decode b_St_ball 13 = .ok (.ireturn, 1) := by decide +kernel
theorem d_St_requireBall_0 : decode b_St_requireBall 0 = .ok (.iload_n 1, 1) := by decide +kernel
theorem d_St_requireBall_1 : decode b_St_requireBall 1 = .ok (.ifCond .lt 14, 3) := by decide +kernel
theorem d_St_requireBall_4 : decode b_St_requireBall 4 = .ok (.iload_n 1, 1) := by decide +kernel
theorem d_St_requireBall_5 : decode b_St_requireBall 5 = .ok (.aload_n 0, 1) := by decide +kernel
theorem d_St_requireBall_6 : decode b_St_requireBall 6 = .ok (.getfield 44, 3) := by decide +kernel
theorem d_St_requireBall_9 : decode b_St_requireBall 9 = .ok (.getfield 200, 3) := by decide +kernel
theorem d_St_requireBall_12 : decode b_St_requireBall 12 = .ok (.if_icmp .lt 13, 3) := by decide +kernel
theorem d_St_requireBall_15 : decode b_St_requireBall 15 = .ok (.new 133, 3) := by decide +kernel
theorem d_St_requireBall_18 : decode b_St_requireBall 18 = .ok (.dup, 1) := by decide +kernel
theorem d_St_requireBall_19 : decode b_St_requireBall 19 = .ok (.ldc 251, 2) := by decide +kernel
theorem d_St_requireBall_21 : decode b_St_requireBall 21 = .ok (.invokespecial 137, 3) := by decide +kernel
theorem d_St_requireBall_24 : decode b_St_requireBall 24 = .ok (.athrow, 1) := by decide +kernel
theorem d_St_requireBall_25 : decode b_St_requireBall 25 = .ok (.return_, 1) := by decide +kernel
theorem d_St_hand_0 : decode b_St_hand 0 = .ok (.aload_n 0, 1) := by decide +kernel
theorem d_St_hand_1 : decode b_St_hand 1 = .ok (.iload_n 1, 1) := by decide +kernel
theorem d_St_hand_2 : decode b_St_hand 2 = .ok (.invokevirtual 210, 3) := by decide +kernel
theorem d_St_hand_5 : decode b_St_hand 5 = .ok (.aload_n 0, 1) := by decide +kernel
theorem d_St_hand_6 : decode b_St_hand 6 = .ok (.getfield 44, 3) := by decide +kernel
theorem d_St_hand_9 : decode b_St_hand 9 = .ok (.iload_n 1, 1) := by decide +kernel
theorem d_St_hand_10 : decode b_St_hand 10 = .ok (.invokevirtual 216, 3) := by decide +kernel
theorem d_St_hand_13 : decode b_St_hand 13 = .ok (.ireturn, 1) := by decide +kernel
theorem d_St_floor_0 : decode b_St_floor 0 = .ok (.iload_n 1, 1) := by decide +kernel
theorem d_St_floor_1 : decode b_St_floor 1 = .ok (.ifCond .lt 8, 3) := by decide +kernel
theorem d_St_floor_4 : decode b_St_floor 4 = .ok (.iload_n 1, 1) := by decide +kernel
theorem d_St_floor_5 : decode b_St_floor 5 = .ok (.iconst 4, 1) := by decide +kernel
theorem d_St_floor_6 : decode b_St_floor 6 = .ok (.if_icmp .le 13, 3) := by decide +kernel
theorem d_St_floor_9 : decode b_St_floor 9 = .ok (.new 133, 3) := by decide +kernel
theorem d_St_floor_12 : decode b_St_floor 12 = .ok (.dup, 1) := by decide +kernel
theorem d_St_floor_13 : decode b_St_floor 13 = .ok (.ldc 222, 2) := by decide +kernel
theorem d_St_floor_15 : decode b_St_floor 15 = .ok (.invokespecial 137, 3) := by decide +kernel
theorem d_St_floor_18 : decode b_St_floor 18 = .ok (.athrow, 1) := by decide +kernel
theorem d_St_floor_19 : decode b_St_floor 19 = .ok (.aload_n 0, 1) := by decide +kernel
theorem d_St_floor_20 : decode b_St_floor 20 = .ok (.invokevirtual 204, 3) := by decide +kernel
theorem d_St_floor_23 : decode b_St_floor 23 = .ok (.iload_n 1, 1) := by decide +kernel
theorem d_St_floor_24 : decode b_St_floor 24 = .ok (.tableswitch 66 0 3 #[32, 40, 49, 58], 32) := by decide +kernel
theorem d_St_floor_56 : decode b_St_floor 56 = .ok (.aload_n 0, 1) := by decide +kernel
theorem d_St_floor_57 : decode b_St_floor 57 = .ok (.getfield 44, 3) := by decide +kernel
theorem d_St_floor_60 : decode b_St_floor 60 = .ok (.getfield 224, 3) := by decide +kernel
theorem d_St_floor_63 : decode b_St_floor 63 = .ok (.ireturn, 1) := by decide +kernel
theorem d_St_floor_64 : decode b_St_floor 64 = .ok (.aload_n 0, 1) := by decide +kernel
theorem d_St_floor_65 : decode b_St_floor 65 = .ok (.getfield 44, 3) := by decide +kernel
theorem d_St_floor_68 : decode b_St_floor 68 = .ok (.iconst 0, 1) := by decide +kernel
theorem d_St_floor_69 : decode b_St_floor 69 = .ok (.invokevirtual 227, 3) := by decide +kernel
theorem d_St_floor_72 : decode b_St_floor 72 = .ok (.ireturn, 1) := by decide +kernel
theorem d_St_floor_73 : decode b_St_floor 73 = .ok (.aload_n 0, 1) := by decide +kernel
theorem d_St_floor_74 : decode b_St_floor 74 = .ok (.getfield 44, 3) := by decide +kernel
theorem d_St_floor_77 : decode b_St_floor 77 = .ok (.iconst 1, 1) := by decide +kernel
theorem d_St_floor_78 : decode b_St_floor 78 = .ok (.invokevirtual 227, 3) := by decide +kernel
theorem d_St_floor_81 : decode b_St_floor 81 = .ok (.ireturn, 1) := by decide +kernel
theorem d_St_floor_82 : decode b_St_floor 82 = .ok (.aload_n 0, 1) := by decide +kernel
theorem d_St_floor_83 : decode b_St_floor 83 = .ok (.getfield 44, 3) := by decide +kernel
theorem d_St_floor_86 : decode b_St_floor 86 = .ok (.getfield 200, 3) := by decide +kernel
theorem d_St_floor_89 : decode b_St_floor 89 = .ok (.ireturn, 1) := by decide +kernel
theorem d_St_floor_90 : decode b_St_floor 90 = .ok (.aload_n 0, 1) := by decide +kernel
theorem d_St_floor_91 : decode b_St_floor 91 = .ok (.getfield 44, 3) := by decide +kernel
theorem d_St_floor_94 : decode b_St_floor 94 = .ok (.getfield 230, 3) := by decide +kernel
theorem d_St_floor_97 : decode b_St_floor 97 = .ok (.getfield 76, 3) := by decide +kernel
theorem d_St_floor_100 : decode b_St_floor 100 = .ok (.ireturn, 1) := by decide +kernel
