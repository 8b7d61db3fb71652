theorem d_Lw_begin_0 : decode b_Lw_begin 0 = .ok (.aload_n 3, 1) := by decide +kernel
theorem d_Lw_begin_1 : decode b_Lw_begin 1 = .ok (.iconst 0, 1) := by decide +kernel
theorem d_Lw_begin_2 : decode b_Lw_begin 2 = .ok (.aload_n 0, 1) := by decide +kernel
theorem d_Lw_begin_3 : decode b_Lw_begin 3 = .ok (.iload_n 1, 1) := by decide +kernel
theorem d_Lw_begin_4 : decode b_Lw_begin 4 = .ok (.iload_n 2, 1) := by decide +kernel
theorem d_Lw_begin_5 : decode b_Lw_begin 5 = .ok (.invokevirtual 7, 3) := by decide +kernel
theorem d_Lw_begin_8 : decode b_Lw_begin 8 = .ok (.i2l, 1) := by decide +kernel
theorem d_Lw_begin_9 : decode b_Lw_begin 9 = .ok (.lastore, 1) := by decide +kernel
theorem d_Lw_begin_10 : decode b_Lw_begin 10 = .ok (.goto 7, 3) := by decide +kernel
theorem d_Lw_begin_13 : decode b_Lw_begin 13 = .ok (.astore 4, 2) := by decide +kernel
theorem d_Lw_begin_15 : decode b_Lw_begin 15 = .ok (.iconst 1, 1) := by decide +kernel
theorem d_Lw_begin_16 : decode b_Lw_begin 16 = .ok (.ireturn, 1) := by decide +kernel
theorem d_Lw_begin_17 : decode b_Lw_begin 17 = .ok (.iconst 0, 1) := by decide +kernel
theorem d_Lw_begin_18 : decode b_Lw_begin 18 = .ok (.ireturn, 1) := by decide +kernel
theorem d_Lw_put_0 : decode b_Lw_put 0 = .ok (.aload 4, 2) := by decide +kernel
theorem d_Lw_put_2 : decode b_Lw_put 2 = .ok (.iconst 0, 1) := by decide +kernel
theorem d_Lw_put_3 : decode b_Lw_put 3 = .ok (.aload_n 0, 1) := by decide +kernel
theorem d_Lw_put_4 : decode b_Lw_put 4 = .ok (.iload_n 1, 1) := by decide +kernel
theorem d_Lw_put_5 : decode b_Lw_put 5 = .ok (.iload_n 2, 1) := by decide +kernel
theorem d_Lw_put_6 : decode b_Lw_put 6 = .ok (.iload_n 3, 1) := by decide +kernel
theorem d_Lw_put_7 : decode b_Lw_put 7 = .ok (.invokevirtual 15, 3) := by decide +kernel
theorem d_Lw_put_10 : decode b_Lw_put 10 = .ok (.i2l, 1) := by decide +kernel
theorem d_Lw_put_11 : decode b_Lw_put 11 = .ok (.lastore, 1) := by decide +kernel
theorem d_Lw_put_12 : decode b_Lw_put 12 = .ok (.goto 11, 3) := by decide +kernel
theorem d_Lw_put_15 : decode b_Lw_put 15 = .ok (.astore 5, 2) := by decide +kernel
theorem d_Lw_put_17 : decode b_Lw_put 17 = .ok (.iconst 1, 1) := by decide +kernel
theorem d_Lw_put_18 : decode b_Lw_put 18 = .ok (.ireturn, 1) := by decide +kernel
theorem d_Lw_put_19 : decode b_Lw_put 19 = .ok (.astore 5, 2) := by decide +kernel
theorem d_Lw_put_21 : decode b_Lw_put 21 = .ok (.iconst 2, 1) := by decide +kernel
theorem d_Lw_put_22 : decode b_Lw_put 22 = .ok (.ireturn, 1) := by decide +kernel
theorem d_Lw_put_23 : decode b_Lw_put 23 = .ok (.iconst 0, 1) := by decide +kernel
theorem d_Lw_put_24 : decode b_Lw_put 24 = .ok (.ireturn, 1) := by decide +kernel
theorem d_Lw_add_0 : decode b_Lw_add 0 = .ok (.aload_n 3, 1) := by decide +kernel
theorem d_Lw_add_1 : decode b_Lw_add 1 = .ok (.iconst 0, 1) := by decide +kernel
theorem d_Lw_add_2 : decode b_Lw_add 2 = .ok (.aload_n 0, 1) := by decide +kernel
theorem d_Lw_add_3 : decode b_Lw_add 3 = .ok (.iload_n 1, 1) := by decide +kernel
theorem d_Lw_add_4 : decode b_Lw_add 4 = .ok (.iload_n 2, 1) := by decide +kernel
theorem d_Lw_add_5 : decode b_Lw_add 5 = .ok (.invokevirtual 21, 3) := by decide +kernel
theorem d_Lw_add_8 : decode b_Lw_add 8 = .ok (.i2l, 1) := by decide +kernel
theorem d_Lw_add_9 : decode b_Lw_add 9 = .ok (.lastore, 1) := by decide +kernel
theorem d_Lw_add_10 : decode b_Lw_add 10 = .ok (.goto 15, 3) := by decide +kernel
theorem d_Lw_add_13 : decode b_Lw_add 13 = .ok (.astore 4, 2) := by decide +kernel
theorem d_Lw_add_15 : decode b_Lw_add 15 = .ok (.iconst 1, 1) := by decide +kernel
theorem d_Lw_add_16 : decode b_Lw_add 16 = .ok (.ireturn, 1) := by decide +kernel
theorem d_Lw_add_17 : decode b_Lw_add 17 = .ok (.astore 4, 2) := by decide +kernel
theorem d_Lw_add_19 : decode b_Lw_add 19 = .ok (.iconst 2, 1) := by decide +kernel
theorem d_Lw_add_20 : decode b_Lw_add 20 = .ok (.ireturn, 1) := by decide +kernel
theorem d_Lw_add_21 : decode b_Lw_add 21 = .ok (.astore 4, 2) := by decide +kernel
theorem d_Lw_add_23 : decode b_Lw_add 23 = .ok (.iconst 3, 1) := by decide +kernel
theorem d_Lw_add_24 : decode b_Lw_add 24 = .ok (.ireturn, 1) := by decide +kernel
theorem d_Lw_add_25 : decode b_Lw_add 25 = .ok (.iconst 0, 1) := by decide +kernel
theorem d_Lw_add_26 : decode b_Lw_add 26 = .ok (.ireturn, 1) := by decide +kernel
theorem d_Lw_balls_0 : decode b_Lw_balls 0 = .ok (.aload_n 1, 1) := by decide +kernel
theorem d_Lw_balls_1 : decode b_Lw_balls 1 = .ok (.iconst 0, 1) := by decide +kernel
theorem d_Lw_balls_2 : decode b_Lw_balls 2 = .ok (.aload_n 0, 1) := by decide +kernel
theorem d_Lw_balls_3 : decode b_Lw_balls 3 = .ok (.invokevirtual 26, 3) := by decide +kernel
theorem d_Lw_balls_6 : decode b_Lw_balls 6 = .ok (.i2l, 1) := by decide +kernel
theorem d_Lw_balls_7 : decode b_Lw_balls 7 = .ok (.lastore, 1) := by decide +kernel
theorem d_Lw_balls_8 : decode b_Lw_balls 8 = .ok (.goto 6, 3) := by decide +kernel
theorem d_Lw_balls_11 : decode b_Lw_balls 11 = .ok (.astore_n 2, 1) := by decide +kernel
theorem d_Lw_balls_12 : decode b_Lw_balls 12 = .ok (.iconst 1, 1) := by decide +kernel
theorem d_Lw_balls_13 : decode b_Lw_balls 13 = .ok (.ireturn, 1) := by decide +kernel
theorem d_Lw_balls_14 : decode b_Lw_balls 14 = .ok (.iconst 0, 1) := by decide +kernel
theorem d_Lw_balls_15 : decode b_Lw_balls 15 = .ok (.ireturn, 1) := by decide +kernel
theorem d_Lw_state_0 : decode b_Lw_state 0 = .ok (.aload_n 2, 1) := by decide +kernel
theorem d_Lw_state_1 : decode b_Lw_state 1 = .ok (.iconst 0, 1) := by decide +kernel
theorem d_Lw_state_2 : decode b_Lw_state 2 = .ok (.aload_n 0, 1) := by decide +kernel
theorem d_Lw_state_3 : decode b_Lw_state 3 = .ok (.iload_n 1, 1) := by decide +kernel
theorem d_Lw_state_4 : decode b_Lw_state 4 = .ok (.invokevirtual 30, 3) := by decide +kernel
theorem d_Lw_state_7 : decode b_Lw_state 7 = .ok (.i2l, 1) := by decide +kernel
theorem d_Lw_state_8 : decode b_Lw_state 8 = .ok (.lastore, 1) := by decide +kernel
theorem d_Lw_state_9 : decode b_Lw_state 9 = .ok (.goto 9, 3) := by decide +kernel
theorem d_Lw_state_12 : decode b_Lw_state 12 = .ok (.astore_n 3, 1) := by decide +kernel
theorem d_Lw_state_13 : decode b_Lw_state 13 = .ok (.iconst 1, 1) := by decide +kernel
theorem d_Lw_state_14 : decode b_Lw_state 14 = .ok (.ireturn, 1) := by decide +kernel
theorem d_Lw_state_15 : decode b_Lw_state 15 = .ok (.astore_n 3, 1) := by decide +kernel
theorem d_Lw_state_16 : decode b_Lw_state 16 = .ok (.iconst 2, 1) := by decide +kernel
theorem d_Lw_state_17 : decode b_Lw_state 17 = .ok (.ireturn, 1) := by decide +kernel
theorem d_Lw_state_18 : decode b_Lw_state 18 = .ok (.iconst 0, 1) := by decide +kernel
theorem d_Lw_state_19 : decode b_Lw_state 19 = .ok (.ireturn, 1) := by decide +kernel
theorem d_Lw_swap_0 : decode b_Lw_swap 0 = .ok (.aload_n 3, 1) := by decide +kernel
theorem d_Lw_swap_1 : decode b_Lw_swap 1 = .ok (.iconst 0, 1) := by decide +kernel
theorem d_Lw_swap_2 : decode b_Lw_swap 2 = .ok (.aload_n 0, 1) := by decide +kernel
theorem d_Lw_swap_3 : decode b_Lw_swap 3 = .ok (.iload_n 1, 1) := by decide +kernel
theorem d_Lw_swap_4 : decode b_Lw_swap 4 = .ok (.iload_n 2, 1) := by decide +kernel
theorem d_Lw_swap_5 : decode b_Lw_swap 5 = .ok (.invokevirtual 34, 3) := by decide +kernel
theorem d_Lw_swap_8 : decode b_Lw_swap 8 = .ok (.ifCond .eq 7, 3) := by decide +kernel
theorem d_Lw_swap_11 : decode b_Lw_swap 11 = .ok (.lconst 1, 1) := by decide +kernel
theorem d_Lw_swap_12 : decode b_Lw_swap 12 = .ok (.goto 4, 3) := by decide +kernel
theorem d_Lw_swap_15 : decode b_Lw_swap 15 = .ok (.lconst 0, 1) := by decide +kernel
theorem d_Lw_swap_16 : decode b_Lw_swap 16 = .ok (.lastore, 1) := by decide +kernel
theorem d_Lw_swap_17 : decode b_Lw_swap 17 = .ok (.goto 11, 3) := by decide +kernel
theorem d_Lw_swap_20 : decode b_Lw_swap 20 = .ok (.astore 4, 2) := by decide +kernel
theorem d_Lw_swap_22 : decode b_Lw_swap 22 = .ok (.iconst 1, 1) := by decide +kernel
theorem d_Lw_swap_23 : decode b_Lw_swap 23 = .ok (.ireturn, 1) := by decide +kernel
theorem d_Lw_swap_24 : decode b_Lw_swap 24 = .ok (.astore 4, 2) := by decide +kernel
theorem d_Lw_swap_26 : decode b_Lw_swap 26 = .ok (.iconst 2, 1) := by decide +kernel
theorem d_Lw_swap_27 : decode b_Lw_swap 27 = .ok (.ireturn, 1) := by decide +kernel
theorem d_Lw_swap_28 : decode b_Lw_swap 28 = .ok (.iconst 0, 1) := by decide +kernel
theorem d_Lw_swap_29 : decode b_Lw_swap 29 = .ok (.ireturn, 1) := by decide +kernel
theorem d_Lw_canonical_0 : decode b_Lw_canonical 0 = .ok (.aload_n 1, 1) := by decide +kernel
theorem d_Lw_canonical_1 : decode b_Lw_canonical 1 = .ok (.iconst 0, 1) := by decide +kernel
theorem d_Lw_canonical_2 : decode b_Lw_canonical 2 = .ok (.aload_n 0, 1) := by decide +kernel
theorem d_Lw_canonical_3 : decode b_Lw_canonical 3 = .ok (.invokevirtual 38, 3) := by decide +kernel
theorem d_Lw_canonical_6 : decode b_Lw_canonical 6 = .ok (.i2l, 1) := by decide +kernel
theorem d_Lw_canonical_7 : decode b_Lw_canonical 7 = .ok (.lastore, 1) := by decide +kernel
theorem d_Lw_canonical_8 : decode b_Lw_canonical 8 = .ok (.goto 6, 3) := by decide +kernel
theorem d_Lw_canonical_11 : decode b_Lw_canonical 11 = .ok (.astore_n 2, 1) := by decide +kernel
theorem d_Lw_canonical_12 : decode b_Lw_canonical 12 = .ok (.iconst 1, 1) := by decide +kernel
theorem d_Lw_canonical_13 : decode b_Lw_canonical 13 = .ok (.ireturn, 1) := by decide +kernel
theorem d_Lw_canonical_14 : decode b_Lw_canonical 14 = .ok (.iconst 0, 1) := by decide +kernel
theorem d_Lw_canonical_15 : decode b_Lw_canonical 15 = .ok (.ireturn, 1) := by decide +kernel
theorem d_Lw_height_0 : decode b_Lw_height 0 = .ok (.aload_n 3, 1) := by decide +kernel
theorem d_Lw_height_1 : decode b_Lw_height 1 = .ok (.iconst 0, 1) := by decide +kernel
theorem d_Lw_height_2 : decode b_Lw_height 2 = .ok (.aload_n 0, 1) := by decide +kernel
theorem d_Lw_height_3 : decode b_Lw_height 3 = .ok (.iload_n 1, 1) := by decide +kernel
theorem d_Lw_height_4 : decode b_Lw_height 4 = .ok (.iload_n 2, 1) := by decide +kernel
theorem d_Lw_height_5 : decode b_Lw_height 5 = .ok (.invokevirtual 41, 3) := by decide +kernel
theorem d_Lw_height_8 : decode b_Lw_height 8 = .ok (.i2l, 1) := by decide +kernel
theorem d_Lw_height_9 : decode b_Lw_height 9 = .ok (.lastore, 1) := by decide +kernel
theorem d_Lw_height_10 : decode b_Lw_height 10 = .ok (.goto 7, 3) := by decide +kernel
theorem d_Lw_height_13 : decode b_Lw_height 13 = .ok (.astore 4, 2) := by decide +kernel
theorem d_Lw_height_15 : decode b_Lw_height 15 = .ok (.iconst 1, 1) := by decide +kernel
theorem d_Lw_height_16 : decode b_Lw_height 16 = .ok (.ireturn, 1) := by decide +kernel
theorem d_Lw_height_17 : decode b_Lw_height 17 = .ok (.iconst 0, 1) := by decide +kernel
theorem d_Lw_height_18 : decode b_Lw_height 18 = .ok (.ireturn, 1) := by decide +kernel
theorem d_Lw_save_0 : decode b_Lw_save 0 = .ok (.aload_n 2, 1) := by decide +kernel
theorem d_Lw_save_1 : decode b_Lw_save 1 = .ok (.iconst 0, 1) := by decide +kernel
theorem d_Lw_save_2 : decode b_Lw_save 2 = .ok (.aload_n 0, 1) := by decide +kernel
theorem d_Lw_save_3 : decode b_Lw_save 3 = .ok (.iload_n 1, 1) := by decide +kernel
theorem d_Lw_save_4 : decode b_Lw_save 4 = .ok (.invokevirtual 44, 3) := by decide +kernel
theorem d_Lw_save_7 : decode b_Lw_save 7 = .ok (.ifCond .eq 7, 3) := by decide +kernel
theorem d_Lw_save_10 : decode b_Lw_save 10 = .ok (.lconst 1, 1) := by decide +kernel
theorem d_Lw_save_11 : decode b_Lw_save 11 = .ok (.goto 4, 3) := by decide +kernel
theorem d_Lw_save_14 : decode b_Lw_save 14 = .ok (.lconst 0, 1) := by decide +kernel
theorem d_Lw_save_15 : decode b_Lw_save 15 = .ok (.lastore, 1) := by decide +kernel
theorem d_Lw_save_16 : decode b_Lw_save 16 = .ok (.goto 6, 3) := by decide +kernel
theorem d_Lw_save_19 : decode b_Lw_save 19 = .ok (.astore_n 3, 1) := by decide +kernel
theorem d_Lw_save_20 : decode b_Lw_save 20 = .ok (.iconst 1, 1) := by decide +kernel
theorem d_Lw_save_21 : decode b_Lw_save 21 = .ok (.ireturn, 1) := by decide +kernel
theorem d_Lw_save_22 : decode b_Lw_save 22 = .ok (.iconst 0, 1) := by decide +kernel
theorem d_Lw_save_23 : decode b_Lw_save 23 = .ok (.ireturn, 1) := by decide +kernel
theorem d_Lw_load_0 : decode b_Lw_load 0 = .ok (.aload_n 2, 1) := by decide +kernel
theorem d_Lw_load_1 : decode b_Lw_load 1 = .ok (.iconst 0, 1) := by decide +kernel
theorem d_Lw_load_2 : decode b_Lw_load 2 = .ok (.aload_n 0, 1) := by decide +kernel
theorem d_Lw_load_3 : decode b_Lw_load 3 = .ok (.iload_n 1, 1) := by decide +kernel
theorem d_Lw_load_4 : decode b_Lw_load 4 = .ok (.invokevirtual 48, 3) := by decide +kernel
theorem d_Lw_load_7 : decode b_Lw_load 7 = .ok (.i2l, 1) := by decide +kernel
theorem d_Lw_load_8 : decode b_Lw_load 8 = .ok (.lastore, 1) := by decide +kernel
theorem d_Lw_load_9 : decode b_Lw_load 9 = .ok (.goto 9, 3) := by decide +kernel
theorem d_Lw_load_12 : decode b_Lw_load 12 = .ok (.astore_n 3, 1) := by decide +kernel
theorem d_Lw_load_13 : decode b_Lw_load 13 = .ok (.iconst 1, 1) := by decide +kernel
theorem d_Lw_load_14 : decode b_Lw_load 14 = .ok (.ireturn, 1) := by decide +kernel
theorem d_Lw_load_15 : decode b_Lw_load 15 = .ok (.astore_n 3, 1) := by decide +kernel
theorem d_Lw_load_16 : decode b_Lw_load 16 = .ok (.iconst 2, 1) := by decide +kernel
theorem d_Lw_load_17 : decode b_Lw_load 17 = .ok (.ireturn, 1) := by decide +kernel
theorem d_Lw_load_18 : decode b_Lw_load 18 = .ok (.iconst 0, 1) := by decide +kernel
theorem d_Lw_load_19 : decode b_Lw_load 19 = .ok (.ireturn, 1) := by decide +kernel
theorem d_Lw_join_0 : decode b_Lw_join 0 = .ok (.aload_n 3, 1) := by decide +kernel
theorem d_Lw_join_1 : decode b_Lw_join 1 = .ok (.iconst 0, 1) := by decide +kernel
theorem d_Lw_join_2 : decode b_Lw_join 2 = .ok (.aload_n 0, 1) := by decide +kernel
theorem d_Lw_join_3 : decode b_Lw_join 3 = .ok (.iload_n 1, 1) := by decide +kernel
theorem d_Lw_join_4 : decode b_Lw_join 4 = .ok (.iload_n 2, 1) := by decide +kernel
theorem d_Lw_join_5 : decode b_Lw_join 5 = .ok (.invokevirtual 53, 3) := by decide +kernel
theorem d_Lw_join_8 : decode b_Lw_join 8 = .ok (.i2l, 1) := by decide +kernel
theorem d_Lw_join_9 : decode b_Lw_join 9 = .ok (.lastore, 1) := by decide +kernel
theorem d_Lw_join_10 : decode b_Lw_join 10 = .ok (.goto 15, 3) := by decide +kernel
theorem d_Lw_join_13 : decode b_Lw_join 13 = .ok (.astore 4, 2) := by decide +kernel
theorem d_Lw_join_15 : decode b_Lw_join 15 = .ok (.iconst 1, 1) := by decide +kernel
theorem d_Lw_join_16 : decode b_Lw_join 16 = .ok (.ireturn, 1) := by decide +kernel
theorem d_Lw_join_17 : decode b_Lw_join 17 = .ok (.astore 4, 2) := by decide +kernel
theorem d_Lw_join_19 : decode b_Lw_join 19 = .ok (.iconst 2, 1) := by decide +kernel
theorem d_Lw_join_20 : decode b_Lw_join 20 = .ok (.ireturn, 1) := by decide +kernel
theorem d_Lw_join_21 : decode b_Lw_join 21 = .ok (.astore 4, 2) := by decide +kernel
theorem d_Lw_join_23 : decode b_Lw_join 23 = .ok (.iconst 3, 1) := by decide +kernel
theorem d_Lw_join_24 : decode b_Lw_join 24 = .ok (.ireturn, 1) := by decide +kernel
theorem d_Lw_join_25 : decode b_Lw_join 25 = .ok (.iconst 0, 1) := by decide +kernel
theorem d_Lw_join_26 : decode b_Lw_join 26 = .ok (.ireturn, 1) := by decide +kernel
theorem d_Lw_joinThrow_0 : decode b_Lw_joinThrow 0 = .ok (.aload_n 2, 1) := by decide +kernel
theorem d_Lw_joinThrow_1 : decode b_Lw_joinThrow 1 = .ok (.iconst 0, 1) := by decide +kernel
theorem d_Lw_joinThrow_2 : decode b_Lw_joinThrow 2 = .ok (.aload_n 0, 1) := by decide +kernel
theorem d_Lw_joinThrow_3 : decode b_Lw_joinThrow 3 = .ok (.iload_n 1, 1) := by decide +kernel
theorem d_Lw_joinThrow_4 : decode b_Lw_joinThrow 4 = .ok (.invokevirtual 56, 3) := by decide +kernel
theorem d_Lw_joinThrow_7 : decode b_Lw_joinThrow 7 = .ok (.i2l, 1) := by decide +kernel
theorem d_Lw_joinThrow_8 : decode b_Lw_joinThrow 8 = .ok (.lastore, 1) := by decide +kernel
theorem d_Lw_joinThrow_9 : decode b_Lw_joinThrow 9 = .ok (.goto 6, 3) := by decide +kernel
theorem d_Lw_joinThrow_12 : decode b_Lw_joinThrow 12 = .ok (.astore_n 3, 1) := by decide +kernel
theorem d_Lw_joinThrow_13 : decode b_Lw_joinThrow 13 = .ok (.iconst 1, 1) := by decide +kernel
theorem d_Lw_joinThrow_14 : decode b_Lw_joinThrow 14 = .ok (.ireturn, 1) := by decide +kernel
theorem d_Lw_joinThrow_15 : decode b_Lw_joinThrow 15 = .ok (.iconst 0, 1) := by decide +kernel
theorem d_Lw_joinThrow_16 : decode b_Lw_joinThrow 16 = .ok (.ireturn, 1) := by decide +kernel
theorem d_Lw_joinAt_0 : decode b_Lw_joinAt 0 = .ok (.aload_n 2, 1) := by decide +kernel
theorem d_Lw_joinAt_1 : decode b_Lw_joinAt 1 = .ok (.iconst 0, 1) := by decide +kernel
theorem d_Lw_joinAt_2 : decode b_Lw_joinAt 2 = .ok (.aload_n 0, 1) := by decide +kernel
theorem d_Lw_joinAt_3 : decode b_Lw_joinAt 3 = .ok (.iload_n 1, 1) := by decide +kernel
theorem d_Lw_joinAt_4 : decode b_Lw_joinAt 4 = .ok (.invokevirtual 59, 3) := by decide +kernel
theorem d_Lw_joinAt_7 : decode b_Lw_joinAt 7 = .ok (.i2l, 1) := by decide +kernel
theorem d_Lw_joinAt_8 : decode b_Lw_joinAt 8 = .ok (.lastore, 1) := by decide +kernel
theorem d_Lw_joinAt_9 : decode b_Lw_joinAt 9 = .ok (.goto 6, 3) := by decide +kernel
theorem d_Lw_joinAt_12 : decode b_Lw_joinAt 12 = .ok (.astore_n 3, 1) := by decide +kernel
theorem d_Lw_joinAt_13 : decode b_Lw_joinAt 13 = .ok (.iconst 1, 1) := by decide +kernel
theorem d_Lw_joinAt_14 : decode b_Lw_joinAt 14 = .ok (.ireturn, 1) := by decide +kernel
theorem d_Lw_joinAt_15 : decode b_Lw_joinAt 15 = .ok (.iconst 0, 1) := by decide +kernel
theorem d_Lw_joinAt_16 : decode b_Lw_joinAt 16 = .ok (.ireturn, 1) := by decide +kernel
theorem d_Lw_countValid_0 : decode b_Lw_countValid 0 = .ok (.aload_n 3, 1) := by decide +kernel
theorem d_Lw_countValid_1 : decode b_Lw_countValid 1 = .ok (.iconst 0, 1) := by decide +kernel
theorem d_Lw_countValid_2 : decode b_Lw_countValid 2 = .ok (.aload_n 0, 1) := by decide +kernel
theorem d_Lw_countValid_3 : decode b_Lw_countValid 3 = .ok (.iload_n 1, 1) := by decide +kernel
theorem d_Lw_countValid_4 : decode b_Lw_countValid 4 = .ok (.iload_n 2, 1) := by decide +kernel
theorem d_Lw_countValid_5 : decode b_Lw_countValid 5 = .ok (.invokevirtual 62, 3) := by decide +kernel
theorem d_Lw_countValid_8 : decode b_Lw_countValid 8 = .ok (.i2l, 1) := by decide +kernel
theorem d_Lw_countValid_9 : decode b_Lw_countValid 9 = .ok (.lastore, 1) := by decide +kernel
theorem d_Lw_countValid_10 : decode b_Lw_countValid 10 = .ok (.goto 7, 3) := by decide +kernel
theorem d_Lw_countValid_13 : decode b_Lw_countValid 13 = .ok (.astore 4, 2) := by decide +kernel
theorem d_Lw_countValid_15 : decode b_Lw_countValid 15 = .ok (.iconst 1, 1) := by decide +kernel
theorem d_Lw_countValid_16 : decode b_Lw_countValid 16 = .ok (.ireturn, 1) := by decide +kernel
theorem d_Lw_countValid_17 : decode b_Lw_countValid 17 = .ok (.iconst 0, 1) := by decide +kernel
theorem d_Lw_countValid_18 : decode b_Lw_countValid 18 = .ok (.ireturn, 1) := by decide +kernel
theorem d_Lw_cycle_0 : decode b_Lw_cycle 0 = .ok (.aload_n 3, 1) := by decide +kernel
theorem d_Lw_cycle_1 : decode b_Lw_cycle 1 = .ok (.iconst 0, 1) := by decide +kernel
theorem d_Lw_cycle_2 : decode b_Lw_cycle 2 = .ok (.aload_n 0, 1) := by decide +kernel
theorem d_Lw_cycle_3 : decode b_Lw_cycle 3 = .ok (.iload_n 1, 1) := by decide +kernel
theorem d_Lw_cycle_4 : decode b_Lw_cycle 4 = .ok (.iload_n 2, 1) := by decide +kernel
theorem d_Lw_cycle_5 : decode b_Lw_cycle 5 = .ok (.invokevirtual 65, 3) := by decide +kernel
theorem d_Lw_cycle_8 : decode b_Lw_cycle 8 = .ok (.i2l, 1) := by decide +kernel
theorem d_Lw_cycle_9 : decode b_Lw_cycle 9 = .ok (.lastore, 1) := by decide +kernel
theorem d_Lw_cycle_10 : decode b_Lw_cycle 10 = .ok (.goto 11, 3) := by decide +kernel
theorem d_Lw_cycle_13 : decode b_Lw_cycle 13 = .ok (.astore 4, 2) := by decide +kernel
theorem d_Lw_cycle_15 : decode b_Lw_cycle 15 = .ok (.iconst 1, 1) := by decide +kernel
theorem d_Lw_cycle_16 : decode b_Lw_cycle 16 = .ok (.ireturn, 1) := by decide +kernel
theorem d_Lw_cycle_17 : decode b_Lw_cycle 17 = .ok (.astore 4, 2) := by decide +kernel
theorem d_Lw_cycle_19 : decode b_Lw_cycle 19 = .ok (.iconst 2, 1) := by decide +kernel
theorem d_Lw_cycle_20 : decode b_Lw_cycle 20 = .ok (.ireturn, 1) := by decide +kernel
theorem d_Lw_cycle_21 : decode b_Lw_cycle 21 = .ok (.iconst 0, 1) := by decide +kernel
theorem d_Lw_cycle_22 : decode b_Lw_cycle 22 = .ok (.ireturn, 1) := by decide +kernel
theorem d_Lw_show_0 : decode b_Lw_show 0 = .ok (.aload_n 1, 1) := by decide +kernel
theorem d_Lw_show_1 : decode b_Lw_show 1 = .ok (.iconst 0, 1) := by decide +kernel
theorem d_Lw_show_2 : decode b_Lw_show 2 = .ok (.aload_n 0, 1) := by decide +kernel
theorem d_Lw_show_3 : decode b_Lw_show 3 = .ok (.invokevirtual 68, 3) := by decide +kernel
theorem d_Lw_show_6 : decode b_Lw_show 6 = .ok (.i2l, 1) := by decide +kernel
theorem d_Lw_show_7 : decode b_Lw_show 7 = .ok (.lastore, 1) := by decide +kernel
theorem d_Lw_show_8 : decode b_Lw_show 8 = .ok (.goto 6, 3) := by decide +kernel
theorem d_Lw_show_11 : decode b_Lw_show 11 = .ok (.astore_n 2, 1) := by decide +kernel
theorem d_Lw_show_12 : decode b_Lw_show 12 = .ok (.iconst 1, 1) := by decide +kernel
theorem d_Lw_show_13 : decode b_Lw_show 13 = .ok (.ireturn, 1) := by decide +kernel
theorem d_Lw_show_14 : decode b_Lw_show 14 = .ok (.iconst 0, 1) := by decide +kernel
theorem d_Lw_show_15 : decode b_Lw_show 15 = .ok (.ireturn, 1) := by decide +kernel
theorem d_Lw_run_0 : decode b_Lw_run 0 = .ok (.aload_n 2, 1) := by decide +kernel
theorem d_Lw_run_1 : decode b_Lw_run 1 = .ok (.iconst 0, 1) := by decide +kernel
theorem d_Lw_run_2 : decode b_Lw_run 2 = .ok (.aload_n 0, 1) := by decide +kernel
theorem d_Lw_run_3 : decode b_Lw_run 3 = .ok (.iload_n 1, 1) := by decide +kernel
theorem d_Lw_run_4 : decode b_Lw_run 4 = .ok (.invokevirtual 71, 3) := by decide +kernel
theorem d_Lw_run_7 : decode b_Lw_run 7 = .ok (.i2l, 1) := by decide +kernel
theorem d_Lw_run_8 : decode b_Lw_run 8 = .ok (.lastore, 1) := by decide +kernel
theorem d_Lw_run_9 : decode b_Lw_run 9 = .ok (.goto 9, 3) := by decide +kernel
theorem d_Lw_run_12 : decode b_Lw_run 12 = .ok (.astore_n 3, 1) := by decide +kernel
theorem d_Lw_run_13 : decode b_Lw_run 13 = .ok (.iconst 1, 1) := by decide +kernel
theorem d_Lw_run_14 : decode b_Lw_run 14 = .ok (.ireturn, 1) := by decide +kernel
theorem d_Lw_run_15 : decode b_Lw_run 15 = .ok (.astore_n 3, 1) := by decide +kernel
theorem d_Lw_run_16 : decode b_Lw_run 16 = .ok (.iconst 2, 1) := by decide +kernel
theorem d_Lw_run_17 : decode b_Lw_run 17 = .ok (.ireturn, 1) := by decide +kernel
theorem d_Lw_run_18 : decode b_Lw_run 18 = .ok (.iconst 0, 1) := by decide +kernel
theorem d_Lw_run_19 : decode b_Lw_run 19 = .ok (.ireturn, 1) := by decide +kernel
theorem d_Lw_ball_0 : decode b_Lw_ball 0 = .ok (.aload_n 2, 1) := by decide +kernel
theorem d_Lw_ball_1 : decode b_Lw_ball 1 = .ok (.iconst 0, 1) := by decide +kernel
theorem d_Lw_ball_2 : decode b_Lw_ball 2 = .ok (.aload_n 0, 1) := by decide +kernel
theorem d_Lw_ball_3 : decode b_Lw_ball 3 = .ok (.iload_n 1, 1) := by decide +kernel
theorem d_Lw_ball_4 : decode b_Lw_ball 4 = .ok (.invokevirtual 74, 3) := by decide +kernel
theorem d_Lw_ball_7 : decode b_Lw_ball 7 = .ok (.i2l, 1) := by decide +kernel
theorem d_Lw_ball_8 : decode b_Lw_ball 8 = .ok (.lastore, 1) := by decide +kernel
theorem d_Lw_ball_9 : decode b_Lw_ball 9 = .ok (.goto 6, 3) := by decide +kernel
theorem d_Lw_ball_12 : decode b_Lw_ball 12 = .ok (.astore_n 3, 1) := by decide +kernel
theorem d_Lw_ball_13 : decode b_Lw_ball 13 = .ok (.iconst 1, 1) := by decide +kernel
theorem d_Lw_ball_14 : decode b_Lw_ball 14 = .ok (.ireturn, 1) := by decide +kernel
theorem d_Lw_ball_15 : decode b_Lw_ball 15 = .ok (.iconst 0, 1) := by decide +kernel
theorem d_Lw_ball_16 : decode b_Lw_ball 16 = .ok (.ireturn, 1) := by decide +kernel
theorem d_Lw_hand_0 : decode b_Lw_hand 0 = .ok (.aload_n 2, 1) := by decide +kernel
theorem d_Lw_hand_1 : decode b_Lw_hand 1 = .ok (.iconst 0, 1) := by decide +kernel
theorem d_Lw_hand_2 : decode b_Lw_hand 2 = .ok (.aload_n 0, 1) := by decide +kernel
theorem d_Lw_hand_3 : decode b_Lw_hand 3 = .ok (.iload_n 1, 1) := by decide +kernel
theorem d_Lw_hand_4 : decode b_Lw_hand 4 = .ok (.invokevirtual 77, 3) := by decide +kernel
theorem d_Lw_hand_7 : decode b_Lw_hand 7 = .ok (.i2l, 1) := by decide +kernel
theorem d_Lw_hand_8 : decode b_Lw_hand 8 = .ok (.lastore, 1) := by decide +kernel
theorem d_Lw_hand_9 : decode b_Lw_hand 9 = .ok (.goto 6, 3) := by decide +kernel
theorem d_Lw_hand_12 : decode b_Lw_hand 12 = .ok (.astore_n 3, 1) := by decide +kernel
theorem d_Lw_hand_13 : decode b_Lw_hand 13 = .ok (.iconst 1, 1) := by decide +kernel
theorem d_Lw_hand_14 : decode b_Lw_hand 14 = .ok (.ireturn, 1) := by decide +kernel
theorem d_Lw_hand_15 : decode b_Lw_hand 15 = .ok (.iconst 0, 1) := by decide +kernel
theorem d_Lw_hand_16 : decode b_Lw_hand 16 = .ok (.ireturn, 1) := by decide +kernel
theorem d_Lw_floor_0 : decode b_Lw_floor 0 = .ok (.aload_n 2, 1) := by decide +kernel
theorem d_Lw_floor_1 : decode b_Lw_floor 1 = .ok (.iconst 0, 1) := by decide +kernel
theorem d_Lw_floor_2 : decode b_Lw_floor 2 = .ok (.aload_n 0, 1) := by decide +kernel
theorem d_Lw_floor_3 : decode b_Lw_floor 3 = .ok (.iload_n 1, 1) := by decide +kernel
theorem d_Lw_floor_4 : decode b_Lw_floor 4 = .ok (.invokevirtual 80, 3) := by decide +kernel
theorem d_Lw_floor_7 : decode b_Lw_floor 7 = .ok (.i2l, 1) := by decide +kernel
theorem d_Lw_floor_8 : decode b_Lw_floor 8 = .ok (.lastore, 1) := by decide +kernel
theorem d_Lw_floor_9 : decode b_Lw_floor 9 = .ok (.goto 9, 3) := by decide +kernel
theorem d_Lw_floor_12 : decode b_Lw_floor 12 = .ok (.astore_n 3, 1) := by decide +kernel
theorem d_Lw_floor_13 : decode b_Lw_floor 13 = .ok (.iconst 1, 1) := by decide +kernel
theorem d_Lw_floor_14 : decode b_Lw_floor 14 = .ok (.ireturn, 1) := by decide +kernel
theorem d_Lw_floor_15 : decode b_Lw_floor 15 = .ok (.astore_n 3, 1) := by decide +kernel
theorem d_Lw_floor_16 : decode b_Lw_floor 16 = .ok (.iconst 2, 1) := by decide +kernel
theorem d_Lw_floor_17 : decode b_Lw_floor 17 = .ok (.ireturn, 1) := by decide +kernel
theorem d_Lw_floor_18 : decode b_Lw_floor 18 = .ok (.iconst 0, 1) := by decide +kernel
theorem d_Lw_floor_19 : decode b_Lw_floor 19 = .ok (.ireturn, 1) := by decide +kernel
theorem d_Lw_law_0 : decode b_Lw_law 0 = .ok (.new 8, 3) := by decide +kernel
theorem d_Lw_law_3 : decode b_Lw_law 3 = .ok (.dup, 1) := by decide +kernel
theorem d_Lw_law_4 : decode b_Lw_law 4 = .ok (.invokespecial 83, 3) := by decide +kernel
theorem d_Lw_law_7 : decode b_Lw_law 7 = .ok (.astore_n 1, 1) := by decide +kernel
theorem d_Lw_law_8 : decode b_Lw_law 8 = .ok (.new 84, 3) := by decide +kernel
theorem d_Lw_law_11 : decode b_Lw_law 11 = .ok (.dup, 1) := by decide +kernel
theorem d_Lw_law_12 : decode b_Lw_law 12 = .ok (.invokespecial 86, 3) := by decide +kernel
theorem d_Lw_law_15 : decode b_Lw_law 15 = .ok (.astore_n 2, 1) := by decide +kernel
theorem d_Lw_law_16 : decode b_Lw_law 16 = .ok (.iconst 1, 1) := by decide +kernel
theorem d_Lw_law_17 : decode b_Lw_law 17 = .ok (.newarray .long, 2) := by decide +kernel
theorem d_Lw_law_19 : decode b_Lw_law 19 = .ok (.astore_n 3, 1) := by decide +kernel
theorem d_Lw_law_20 : decode b_Lw_law 20 = .ok (.iconst 0, 1) := by decide +kernel
theorem d_Lw_law_21 : decode b_Lw_law 21 = .ok (.istore 4, 2) := by decide +kernel
theorem d_Lw_law_23 : decode b_Lw_law 23 = .ok (.iload 4, 2) := by decide +kernel
theorem d_Lw_law_25 : decode b_Lw_law 25 = .ok (.aload_n 0, 1) := by decide +kernel
theorem d_Lw_law_26 : decode b_Lw_law 26 = .ok (.arraylength, 1) := by decide +kernel
theorem d_Lw_law_27 : decode b_Lw_law 27 = .ok (.iconst 4, 1) := by decide +kernel
theorem d_Lw_law_28 : decode b_Lw_law 28 = .ok (.isub, 1) := by decide +kernel
theorem d_Lw_law_29 : decode b_Lw_law 29 = .ok (.if_icmp .gt 1382, 3) := by decide +kernel
theorem d_Lw_law_32 : decode b_Lw_law 32 = .ok (.aload_n 0, 1) := by decide +kernel
theorem d_Lw_law_33 : decode b_Lw_law 33 = .ok (.iload 4, 2) := by decide +kernel
theorem d_Lw_law_35 : decode b_Lw_law 35 = .ok (.iaload, 1) := by decide +kernel
theorem d_Lw_law_36 : decode b_Lw_law 36 = .ok (.bipush 31, 2) := by decide +kernel
theorem d_Lw_law_38 : decode b_Lw_law 38 = .ok (.iand, 1) := by decide +kernel
theorem d_Lw_law_39 : decode b_Lw_law 39 = .ok (.tableswitch 1366 0 22 #[105, 173, 269, 337, 350, 363, 407, 463, 538, 582, 650, 713, 769, 837, 893, 949, 1017, 1085, 1129, 1185, 1241, 1297, 1310], 105) := by decide +kernel
theorem d_Lw_law_144 : decode b_Lw_law 144 = .ok (.aload_n 1, 1) := by decide +kernel
theorem d_Lw_law_145 : decode b_Lw_law 145 = .ok (.aload_n 0, 1) := by decide +kernel
theorem d_Lw_law_146 : decode b_Lw_law 146 = .ok (.iload 4, 2) := by decide +kernel
theorem d_Lw_law_148 : decode b_Lw_law 148 = .ok (.iconst 1, 1) := by decide +kernel
theorem d_Lw_law_149 : decode b_Lw_law 149 = .ok (.iadd, 1) := by decide +kernel
theorem d_Lw_law_150 : decode b_Lw_law 150 = .ok (.iaload, 1) := by decide +kernel
theorem d_Lw_law_151 : decode b_Lw_law 151 = .ok (.aload_n 0, 1) := by decide +kernel
theorem d_Lw_law_152 : decode b_Lw_law 152 = .ok (.iload 4, 2) := by decide +kernel
theorem d_Lw_law_154 : decode b_Lw_law 154 = .ok (.iconst 2, 1) := by decide +kernel
theorem d_Lw_law_155 : decode b_Lw_law 155 = .ok (.iadd, 1) := by decide +kernel
theorem d_Lw_law_156 : decode b_Lw_law 156 = .ok (.iaload, 1) := by decide +kernel
theorem d_Lw_law_157 : decode b_Lw_law 157 = .ok (.aload_n 3, 1) := by decide +kernel
theorem d_Lw_law_158 : decode b_Lw_law 158 = .ok (.invokestatic 87, 3) := by decide +kernel
theorem d_Lw_law_161 : decode b_Lw_law 161 = .ok (.istore 5, 2) := by decide +kernel
theorem d_Lw_law_163 : decode b_Lw_law 163 = .ok (.aload_n 2, 1) := by decide +kernel
theorem d_Lw_law_164 : decode b_Lw_law 164 = .ok (.aload_n 0, 1) := by decide +kernel
theorem d_Lw_law_165 : decode b_Lw_law 165 = .ok (.iload 4, 2) := by decide +kernel
theorem d_Lw_law_167 : decode b_Lw_law 167 = .ok (.iconst 1, 1) := by decide +kernel
theorem d_Lw_law_168 : decode b_Lw_law 168 = .ok (.iadd, 1) := by decide +kernel
theorem d_Lw_law_169 : decode b_Lw_law 169 = .ok (.iaload, 1) := by decide +kernel
theorem d_Lw_law_170 : decode b_Lw_law 170 = .ok (.aload_n 0, 1) := by decide +kernel
theorem d_Lw_law_171 : decode b_Lw_law 171 = .ok (.iload 4, 2) := by decide +kernel
theorem d_Lw_law_173 : decode b_Lw_law 173 = .ok (.iconst 2, 1) := by decide +kernel
theorem d_Lw_law_174 : decode b_Lw_law 174 = .ok (.iadd, 1) := by decide +kernel
theorem d_Lw_law_175 : decode b_Lw_law 175 = .ok (.iaload, 1) := by decide +kernel
theorem d_Lw_law_176 : decode b_Lw_law 176 = .ok (.invokevirtual 92, 3) := by decide +kernel
theorem d_Lw_law_179 : decode b_Lw_law 179 = .ok (.istore 6, 2) := by decide +kernel
theorem d_Lw_law_181 : decode b_Lw_law 181 = .ok (.aload_n 2, 1) := by decide +kernel
theorem d_Lw_law_182 : decode b_Lw_law 182 = .ok (.invokevirtual 93, 3) := by decide +kernel
theorem d_Lw_law_185 : decode b_Lw_law 185 = .ok (.iload 5, 2) := by decide +kernel
theorem d_Lw_law_187 : decode b_Lw_law 187 = .ok (.if_icmp .eq 5, 3) := by decide +kernel
theorem d_Lw_law_190 : decode b_Lw_law 190 = .ok (.iconst 0, 1) := by decide +kernel
theorem d_Lw_law_191 : decode b_Lw_law 191 = .ok (.ireturn, 1) := by decide +kernel
theorem d_Lw_law_192 : decode b_Lw_law 192 = .ok (.iload 5, 2) := by decide +kernel
theorem d_Lw_law_194 : decode b_Lw_law 194 = .ok (.ifCond .ne 15, 3) := by decide +kernel
theorem d_Lw_law_197 : decode b_Lw_law 197 = .ok (.aload_n 3, 1) := by decide +kernel
theorem d_Lw_law_198 : decode b_Lw_law 198 = .ok (.iconst 0, 1) := by decide +kernel
theorem d_Lw_law_199 : decode b_Lw_law 199 = .ok (.laload, 1) := by decide +kernel
theorem d_Lw_law_200 : decode b_Lw_law 200 = .ok (.iload 6, 2) := by decide +kernel
theorem d_Lw_law_202 : decode b_Lw_law 202 = .ok (.i2l, 1) := by decide +kernel
theorem d_Lw_law_203 : decode b_Lw_law 203 = .ok (.lcmp, 1) := by decide +kernel
theorem d_Lw_law_204 : decode b_Lw_law 204 = .ok (.ifCond .eq 5, 3) := by decide +kernel
theorem d_Lw_law_207 : decode b_Lw_law 207 = .ok (.iconst 0, 1) := by decide +kernel
theorem d_Lw_law_208 : decode b_Lw_law 208 = .ok (.ireturn, 1) := by decide +kernel
theorem d_Lw_law_209 : decode b_Lw_law 209 = .ok (.goto 1196, 3) := by decide +kernel
theorem d_Lw_law_212 : decode b_Lw_law 212 = .ok (.aload_n 1, 1) := by decide +kernel
theorem d_Lw_law_213 : decode b_Lw_law 213 = .ok (.aload_n 0, 1) := by decide +kernel
theorem d_Lw_law_214 : decode b_Lw_law 214 = .ok (.iload 4, 2) := by decide +kernel
theorem d_Lw_law_216 : decode b_Lw_law 216 = .ok (.iconst 1, 1) := by decide +kernel
theorem d_Lw_law_217 : decode b_Lw_law 217 = .ok (.iadd, 1) := by decide +kernel
theorem d_Lw_law_218 : decode b_Lw_law 218 = .ok (.iaload, 1) := by decide +kernel
theorem d_Lw_law_219 : decode b_Lw_law 219 = .ok (.aload_n 0, 1) := by decide +kernel
theorem d_Lw_law_220 : decode b_Lw_law 220 = .ok (.iload 4, 2) := by decide +kernel
theorem d_Lw_law_222 : decode b_Lw_law 222 = .ok (.iconst 2, 1) := by decide +kernel
theorem d_Lw_law_223 : decode b_Lw_law 223 = .ok (.iadd, 1) := by decide +kernel
theorem d_Lw_law_224 : decode b_Lw_law 224 = .ok (.iaload, 1) := by decide +kernel
theorem d_Lw_law_225 : decode b_Lw_law 225 = .ok (.aload_n 0, 1) := by decide +kernel
theorem d_Lw_law_226 : decode b_Lw_law 226 = .ok (.iload 4, 2) := by decide +kernel
theorem d_Lw_law_228 : decode b_Lw_law 228 = .ok (.iconst 3, 1) := by decide +kernel
theorem d_Lw_law_229 : decode b_Lw_law 229 = .ok (.iadd, 1) := by decide +kernel
theorem d_Lw_law_230 : decode b_Lw_law 230 = .ok (.iaload, 1) := by decide +kernel
theorem d_Lw_law_231 : decode b_Lw_law 231 = .ok (.ifCond .eq 7, 3) := by decide +kernel
theorem d_Lw_law_234 : decode b_Lw_law 234 = .ok (.iconst 1, 1) := by decide +kernel
theorem d_Lw_law_235 : decode b_Lw_law 235 = .ok (.goto 4, 3) := by decide +kernel
theorem d_Lw_law_238 : decode b_Lw_law 238 = .ok (.iconst 0, 1) := by decide +kernel
theorem d_Lw_law_239 : decode b_Lw_law 239 = .ok (.aload_n 3, 1) := by decide +kernel
theorem d_Lw_law_240 : decode b_Lw_law 240 = .ok (.invokestatic 96, 3) := by decide +kernel
theorem d_Lw_law_243 : decode b_Lw_law 243 = .ok (.istore 5, 2) := by decide +kernel
theorem d_Lw_law_245 : decode b_Lw_law 245 = .ok (.aload_n 2, 1) := by decide +kernel
theorem d_Lw_law_246 : decode b_Lw_law 246 = .ok (.aload_n 0, 1) := by decide +kernel
theorem d_Lw_law_247 : decode b_Lw_law 247 = .ok (.iload 4, 2) := by decide +kernel
theorem d_Lw_law_249 : decode b_Lw_law 249 = .ok (.iconst 1, 1) := by decide +kernel
theorem d_Lw_law_250 : decode b_Lw_law 250 = .ok (.iadd, 1) := by decide +kernel
theorem d_Lw_law_251 : decode b_Lw_law 251 = .ok (.iaload, 1) := by decide +kernel
theorem d_Lw_law_252 : decode b_Lw_law 252 = .ok (.aload_n 0, 1) := by decide +kernel
theorem d_Lw_law_253 : decode b_Lw_law 253 = .ok (.iload 4, 2) := by decide +kernel
theorem d_Lw_law_255 : decode b_Lw_law 255 = .ok (.iconst 2, 1) := by decide +kernel
theorem d_Lw_law_256 : decode b_Lw_law 256 = .ok (.iadd, 1) := by decide +kernel
theorem d_Lw_law_257 : decode b_Lw_law 257 = .ok (.iaload, 1) := by decide +kernel
theorem d_Lw_law_258 : decode b_Lw_law 258 = .ok (.aload_n 0, 1) := by decide +kernel
theorem d_Lw_law_259 : decode b_Lw_law 259 = .ok (.iload 4, 2) := by decide +kernel
theorem d_Lw_law_261 : decode b_Lw_law 261 = .ok (.iconst 3, 1) := by decide +kernel
theorem d_Lw_law_262 : decode b_Lw_law 262 = .ok (.iadd, 1) := by decide +kernel
theorem d_Lw_law_263 : decode b_Lw_law 263 = .ok (.iaload, 1) := by decide +kernel
theorem d_Lw_law_264 : decode b_Lw_law 264 = .ok (.ifCond .eq 7, 3) := by decide +kernel
theorem d_Lw_law_267 : decode b_Lw_law 267 = .ok (.iconst 1, 1) := by decide +kernel
theorem d_Lw_law_268 : decode b_Lw_law 268 = .ok (.goto 4, 3) := by decide +kernel
theorem d_Lw_law_271 : decode b_Lw_law 271 = .ok (.iconst 0, 1) := by decide +kernel
theorem d_Lw_law_272 : decode b_Lw_law 272 = .ok (.invokevirtual 99, 3) := by decide +kernel
theorem d_Lw_law_275 : decode b_Lw_law 275 = .ok (.istore 6, 2) := by decide +kernel
theorem d_Lw_law_277 : decode b_Lw_law 277 = .ok (.aload_n 2, 1) := by decide +kernel
theorem d_Lw_law_278 : decode b_Lw_law 278 = .ok (.invokevirtual 93, 3) := by decide +kernel
theorem d_Lw_law_281 : decode b_Lw_law 281 = .ok (.iload 5, 2) := by decide +kernel
theorem d_Lw_law_283 : decode b_Lw_law 283 = .ok (.if_icmp .eq 5, 3) := by decide +kernel
theorem d_Lw_law_286 : decode b_Lw_law 286 = .ok (.iconst 0, 1) := by decide +kernel
theorem d_Lw_law_287 : decode b_Lw_law 287 = .ok (.ireturn, 1) := by decide +kernel
theorem d_Lw_law_288 : decode b_Lw_law 288 = .ok (.iload 5, 2) := by decide +kernel
theorem d_Lw_law_290 : decode b_Lw_law 290 = .ok (.ifCond .ne 15, 3) := by decide +kernel
theorem d_Lw_law_293 : decode b_Lw_law 293 = .ok (.aload_n 3, 1) := by decide +kernel
theorem d_Lw_law_294 : decode b_Lw_law 294 = .ok (.iconst 0, 1) := by decide +kernel
theorem d_Lw_law_295 : decode b_Lw_law 295 = .ok (.laload, 1) := by decide +kernel
theorem d_Lw_law_296 : decode b_Lw_law 296 = .ok (.iload 6, 2) := by decide +kernel
theorem d_Lw_law_298 : decode b_Lw_law 298 = .ok (.i2l, 1) := by decide +kernel
theorem d_Lw_law_299 : decode b_Lw_law 299 = .ok (.lcmp, 1) := by decide +kernel
theorem d_Lw_law_300 : decode b_Lw_law 300 = .ok (.ifCond .eq 5, 3) := by decide +kernel
theorem d_Lw_law_303 : decode b_Lw_law 303 = .ok (.iconst 0, 1) := by decide +kernel
theorem d_Lw_law_304 : decode b_Lw_law 304 = .ok (.ireturn, 1) := by decide +kernel
theorem d_Lw_law_305 : decode b_Lw_law 305 = .ok (.goto 1100, 3) := by decide +kernel
theorem d_Lw_law_308 : decode b_Lw_law 308 = .ok (.aload_n 1, 1) := by decide +kernel
theorem d_Lw_law_309 : decode b_Lw_law 309 = .ok (.aload_n 0, 1) := by decide +kernel
theorem d_Lw_law_310 : decode b_Lw_law 310 = .ok (.iload 4, 2) := by decide +kernel
theorem d_Lw_law_312 : decode b_Lw_law 312 = .ok (.iconst 1, 1) := by decide +kernel
theorem d_Lw_law_313 : decode b_Lw_law 313 = .ok (.iadd, 1) := by decide +kernel
theorem d_Lw_law_314 : decode b_Lw_law 314 = .ok (.iaload, 1) := by decide +kernel
theorem d_Lw_law_315 : decode b_Lw_law 315 = .ok (.aload_n 0, 1) := by decide +kernel
theorem d_Lw_law_316 : decode b_Lw_law 316 = .ok (.iload 4, 2) := by decide +kernel
theorem d_Lw_law_318 : decode b_Lw_law 318 = .ok (.iconst 2, 1) := by decide +kernel
theorem d_Lw_law_319 : decode b_Lw_law 319 = .ok (.iadd, 1) := by decide +kernel
theorem d_Lw_law_320 : decode b_Lw_law 320 = .ok (.iaload, 1) := by decide +kernel
theorem d_Lw_law_321 : decode b_Lw_law 321 = .ok (.aload_n 3, 1) := by decide +kernel
theorem d_Lw_law_322 : decode b_Lw_law 322 = .ok (.invokestatic 100, 3) := by decide +kernel
theorem d_Lw_law_325 : decode b_Lw_law 325 = .ok (.istore 5, 2) := by decide +kernel
theorem d_Lw_law_327 : decode b_Lw_law 327 = .ok (.aload_n 2, 1) := by decide +kernel
theorem d_Lw_law_328 : decode b_Lw_law 328 = .ok (.aload_n 0, 1) := by decide +kernel
theorem d_Lw_law_329 : decode b_Lw_law 329 = .ok (.iload 4, 2) := by decide +kernel
theorem d_Lw_law_331 : decode b_Lw_law 331 = .ok (.iconst 1, 1) := by decide +kernel
theorem d_Lw_law_332 : decode b_Lw_law 332 = .ok (.iadd, 1) := by decide +kernel
theorem d_Lw_law_333 : decode b_Lw_law 333 = .ok (.iaload, 1) := by decide +kernel
theorem d_Lw_law_334 : decode b_Lw_law 334 = .ok (.aload_n 0, 1) := by decide +kernel
theorem d_Lw_law_335 : decode b_Lw_law 335 = .ok (.iload 4, 2) := by decide +kernel
theorem d_Lw_law_337 : decode b_Lw_law 337 = .ok (.iconst 2, 1) := by decide +kernel
theorem d_Lw_law_338 : decode b_Lw_law 338 = .ok (.iadd, 1) := by decide +kernel
theorem d_Lw_law_339 : decode b_Lw_law 339 = .ok (.iaload, 1) := by decide +kernel
theorem d_Lw_law_340 : decode b_Lw_law 340 = .ok (.invokevirtual 102, 3) := by decide +kernel
theorem d_Lw_law_343 : decode b_Lw_law 343 = .ok (.istore 6, 2) := by decide +kernel
theorem d_Lw_law_345 : decode b_Lw_law 345 = .ok (.aload_n 2, 1) := by decide +kernel
theorem d_Lw_law_346 : decode b_Lw_law 346 = .ok (.invokevirtual 93, 3) := by decide +kernel
theorem d_Lw_law_349 : decode b_Lw_law 349 = .ok (.iload 5, 2) := by decide +kernel
theorem d_Lw_law_351 : decode b_Lw_law 351 = .ok (.if_icmp .eq 5, 3) := by decide +kernel
theorem d_Lw_law_354 : decode b_Lw_law 354 = .ok (.iconst 0, 1) := by decide +kernel
theorem d_Lw_law_355 : decode b_Lw_law 355 = .ok (.ireturn, 1) := by decide +kernel
theorem d_Lw_law_356 : decode b_Lw_law 356 = .ok (.iload 5, 2) := by decide +kernel
theorem d_Lw_law_358 : decode b_Lw_law 358 = .ok (.ifCond .ne 15, 3) := by decide +kernel
theorem d_Lw_law_361 : decode b_Lw_law 361 = .ok (.aload_n 3, 1) := by decide +kernel
theorem d_Lw_law_362 : decode b_Lw_law 362 = .ok (.iconst 0, 1) := by decide +kernel
theorem d_Lw_law_363 : decode b_Lw_law 363 = .ok (.laload, 1) := by decide +kernel
theorem d_Lw_law_364 : decode b_Lw_law 364 = .ok (.iload 6, 2) := by decide +kernel
theorem d_Lw_law_366 : decode b_Lw_law 366 = .ok (.i2l, 1) := by decide +kernel
theorem d_Lw_law_367 : decode b_Lw_law 367 = .ok (.lcmp, 1) := by decide +kernel
theorem d_Lw_law_368 : decode b_Lw_law 368 = .ok (.ifCond .eq 5, 3) := by decide +kernel
theorem d_Lw_law_371 : decode b_Lw_law 371 = .ok (.iconst 0, 1) := by decide +kernel
theorem d_Lw_law_372 : decode b_Lw_law 372 = .ok (.ireturn, 1) := by decide +kernel
theorem d_Lw_law_373 : decode b_Lw_law 373 = .ok (.goto 1032, 3) := by decide +kernel
theorem d_Lw_law_376 : decode b_Lw_law 376 = .ok (.aload_n 1, 1) := by decide +kernel
theorem d_Lw_law_377 : decode b_Lw_law 377 = .ok (.invokevirtual 103, 3) := by decide +kernel
theorem d_Lw_law_380 : decode b_Lw_law 380 = .ok (.aload_n 2, 1) := by decide +kernel
theorem d_Lw_law_381 : decode b_Lw_law 381 = .ok (.invokevirtual 107, 3) := by decide +kernel
theorem d_Lw_law_384 : decode b_Lw_law 384 = .ok (.if_icmp .eq 1021, 3) := by decide +kernel
theorem d_Lw_law_387 : decode b_Lw_law 387 = .ok (.iconst 0, 1) := by decide +kernel
theorem d_Lw_law_388 : decode b_Lw_law 388 = .ok (.ireturn, 1) := by decide +kernel
theorem d_Lw_law_389 : decode b_Lw_law 389 = .ok (.aload_n 1, 1) := by decide +kernel
theorem d_Lw_law_390 : decode b_Lw_law 390 = .ok (.invokevirtual 108, 3) := by decide +kernel
theorem d_Lw_law_393 : decode b_Lw_law 393 = .ok (.aload_n 2, 1) := by decide +kernel
theorem d_Lw_law_394 : decode b_Lw_law 394 = .ok (.invokevirtual 111, 3) := by decide +kernel
theorem d_Lw_law_397 : decode b_Lw_law 397 = .ok (.if_icmp .eq 1008, 3) := by decide +kernel
theorem d_Lw_law_400 : decode b_Lw_law 400 = .ok (.iconst 0, 1) := by decide +kernel
theorem d_Lw_law_401 : decode b_Lw_law 401 = .ok (.ireturn, 1) := by decide +kernel
theorem d_Lw_law_402 : decode b_Lw_law 402 = .ok (.aload_n 1, 1) := by decide +kernel
theorem d_Lw_law_403 : decode b_Lw_law 403 = .ok (.aload_n 3, 1) := by decide +kernel
theorem d_Lw_law_404 : decode b_Lw_law 404 = .ok (.invokestatic 112, 3) := by decide +kernel
theorem d_Lw_law_407 : decode b_Lw_law 407 = .ok (.istore 5, 2) := by decide +kernel
theorem d_Lw_law_409 : decode b_Lw_law 409 = .ok (.aload_n 2, 1) := by decide +kernel
theorem d_Lw_law_410 : decode b_Lw_law 410 = .ok (.invokevirtual 115, 3) := by decide +kernel
theorem d_Lw_law_413 : decode b_Lw_law 413 = .ok (.istore 6, 2) := by decide +kernel
theorem d_Lw_law_415 : decode b_Lw_law 415 = .ok (.aload_n 2, 1) := by decide +kernel
theorem d_Lw_law_416 : decode b_Lw_law 416 = .ok (.invokevirtual 93, 3) := by decide +kernel
theorem d_Lw_law_419 : decode b_Lw_law 419 = .ok (.iload 5, 2) := by decide +kernel
theorem d_Lw_law_421 : decode b_Lw_law 421 = .ok (.if_icmp .eq 5, 3) := by decide +kernel
theorem d_Lw_law_424 : decode b_Lw_law 424 = .ok (.iconst 0, 1) := by decide +kernel
theorem d_Lw_law_425 : decode b_Lw_law 425 = .ok (.ireturn, 1) := by decide +kernel
theorem d_Lw_law_426 : decode b_Lw_law 426 = .ok (.iload 5, 2) := by decide +kernel
theorem d_Lw_law_428 : decode b_Lw_law 428 = .ok (.ifCond .ne 15, 3) := by decide +kernel
theorem d_Lw_law_431 : decode b_Lw_law 431 = .ok (.aload_n 3, 1) := by decide +kernel
theorem d_Lw_law_432 : decode b_Lw_law 432 = .ok (.iconst 0, 1) := by decide +kernel
theorem d_Lw_law_433 : decode b_Lw_law 433 = .ok (.laload, 1) := by decide +kernel
theorem d_Lw_law_434 : decode b_Lw_law 434 = .ok (.iload 6, 2) := by decide +kernel
theorem d_Lw_law_436 : decode b_Lw_law 436 = .ok (.i2l, 1) := by decide +kernel
theorem d_Lw_law_437 : decode b_Lw_law 437 = .ok (.lcmp, 1) := by decide +kernel
theorem d_Lw_law_438 : decode b_Lw_law 438 = .ok (.ifCond .eq 5, 3) := by decide +kernel
theorem d_Lw_law_441 : decode b_Lw_law 441 = .ok (.iconst 0, 1) := by decide +kernel
theorem d_Lw_law_442 : decode b_Lw_law 442 = .ok (.ireturn, 1) := by decide +kernel
theorem d_Lw_law_443 : decode b_Lw_law 443 = .ok (.goto 962, 3) := by decide +kernel
theorem d_Lw_law_446 : decode b_Lw_law 446 = .ok (.aload_n 1, 1) := by decide +kernel
theorem d_Lw_law_447 : decode b_Lw_law 447 = .ok (.aload_n 0, 1) := by decide +kernel
theorem d_Lw_law_448 : decode b_Lw_law 448 = .ok (.iload 4, 2) := by decide +kernel
theorem d_Lw_law_450 : decode b_Lw_law 450 = .ok (.iconst 1, 1) := by decide +kernel
theorem d_Lw_law_451 : decode b_Lw_law 451 = .ok (.iadd, 1) := by decide +kernel
theorem d_Lw_law_452 : decode b_Lw_law 452 = .ok (.iaload, 1) := by decide +kernel
theorem d_Lw_law_453 : decode b_Lw_law 453 = .ok (.aload_n 3, 1) := by decide +kernel
theorem d_Lw_law_454 : decode b_Lw_law 454 = .ok (.invokestatic 116, 3) := by decide +kernel
theorem d_Lw_law_457 : decode b_Lw_law 457 = .ok (.istore 5, 2) := by decide +kernel
theorem d_Lw_law_459 : decode b_Lw_law 459 = .ok (.aload_n 2, 1) := by decide +kernel
theorem d_Lw_law_460 : decode b_Lw_law 460 = .ok (.aload_n 0, 1) := by decide +kernel
theorem d_Lw_law_461 : decode b_Lw_law 461 = .ok (.iload 4, 2) := by decide +kernel
theorem d_Lw_law_463 : decode b_Lw_law 463 = .ok (.iconst 1, 1) := by decide +kernel
theorem d_Lw_law_464 : decode b_Lw_law 464 = .ok (.iadd, 1) := by decide +kernel
theorem d_Lw_law_465 : decode b_Lw_law 465 = .ok (.iaload, 1) := by decide +kernel
theorem d_Lw_law_466 : decode b_Lw_law 466 = .ok (.invokevirtual 119, 3) := by decide +kernel
theorem d_Lw_law_469 : decode b_Lw_law 469 = .ok (.istore 6, 2) := by decide +kernel
theorem d_Lw_law_471 : decode b_Lw_law 471 = .ok (.aload_n 2, 1) := by decide +kernel
theorem d_Lw_law_472 : decode b_Lw_law 472 = .ok (.invokevirtual 93, 3) := by decide +kernel
theorem d_Lw_law_475 : decode b_Lw_law 475 = .ok (.iload 5, 2) := by decide +kernel
theorem d_Lw_law_477 : decode b_Lw_law 477 = .ok (.if_icmp .eq 5, 3) := by decide +kernel
theorem d_Lw_law_480 : decode b_Lw_law 480 = .ok (.iconst 0, 1) := by decide +kernel
theorem d_Lw_law_481 : decode b_Lw_law 481 = .ok (.ireturn, 1) := by decide +kernel
theorem d_Lw_law_482 : decode b_Lw_law 482 = .ok (.iload 5, 2) := by decide +kernel
theorem d_Lw_law_484 : decode b_Lw_law 484 = .ok (.ifCond .ne 15, 3) := by decide +kernel
theorem d_Lw_law_487 : decode b_Lw_law 487 = .ok (.aload_n 3, 1) := by decide +kernel
theorem d_Lw_law_488 : decode b_Lw_law 488 = .ok (.iconst 0, 1) := by decide +kernel
theorem d_Lw_law_489 : decode b_Lw_law 489 = .ok (.laload, 1) := by decide +kernel
theorem d_Lw_law_490 : decode b_Lw_law 490 = .ok (.iload 6, 2) := by decide +kernel
theorem d_Lw_law_492 : decode b_Lw_law 492 = .ok (.i2l, 1) := by decide +kernel
theorem d_Lw_law_493 : decode b_Lw_law 493 = .ok (.lcmp, 1) := by decide +kernel
theorem d_Lw_law_494 : decode b_Lw_law 494 = .ok (.ifCond .eq 5, 3) := by decide +kernel
theorem d_Lw_law_497 : decode b_Lw_law 497 = .ok (.iconst 0, 1) := by decide +kernel
theorem d_Lw_law_498 : decode b_Lw_law 498 = .ok (.ireturn, 1) := by decide +kernel
theorem d_Lw_law_499 : decode b_Lw_law 499 = .ok (.goto 906, 3) := by decide +kernel
theorem d_Lw_law_502 : decode b_Lw_law 502 = .ok (.aload_n 1, 1) := by decide +kernel
theorem d_Lw_law_503 : decode b_Lw_law 503 = .ok (.aload_n 0, 1) := by decide +kernel
theorem d_Lw_law_504 : decode b_Lw_law 504 = .ok (.iload 4, 2) := by decide +kernel
theorem d_Lw_law_506 : decode b_Lw_law 506 = .ok (.iconst 1, 1) := by decide +kernel
theorem d_Lw_law_507 : decode b_Lw_law 507 = .ok (.iadd, 1) := by decide +kernel
theorem d_Lw_law_508 : decode b_Lw_law 508 = .ok (.iaload, 1) := by decide +kernel
theorem d_Lw_law_509 : decode b_Lw_law 509 = .ok (.aload_n 0, 1) := by decide +kernel
theorem d_Lw_law_510 : decode b_Lw_law 510 = .ok (.iload 4, 2) := by decide +kernel
theorem d_Lw_law_512 : decode b_Lw_law 512 = .ok (.iconst 2, 1) := by decide +kernel
theorem d_Lw_law_513 : decode b_Lw_law 513 = .ok (.iadd, 1) := by decide +kernel
theorem d_Lw_law_514 : decode b_Lw_law 514 = .ok (.iaload, 1) := by decide +kernel
theorem d_Lw_law_515 : decode b_Lw_law 515 = .ok (.aload_n 3, 1) := by decide +kernel
theorem d_Lw_law_516 : decode b_Lw_law 516 = .ok (.invokestatic 120, 3) := by decide +kernel
theorem d_Lw_law_519 : decode b_Lw_law 519 = .ok (.istore 5, 2) := by decide +kernel
theorem d_Lw_law_521 : decode b_Lw_law 521 = .ok (.aload_n 2, 1) := by decide +kernel
theorem d_Lw_law_522 : decode b_Lw_law 522 = .ok (.aload_n 0, 1) := by decide +kernel
theorem d_Lw_law_523 : decode b_Lw_law 523 = .ok (.iload 4, 2) := by decide +kernel
theorem d_Lw_law_525 : decode b_Lw_law 525 = .ok (.iconst 1, 1) := by decide +kernel
theorem d_Lw_law_526 : decode b_Lw_law 526 = .ok (.iadd, 1) := by decide +kernel
theorem d_Lw_law_527 : decode b_Lw_law 527 = .ok (.iaload, 1) := by decide +kernel
theorem d_Lw_law_528 : decode b_Lw_law 528 = .ok (.aload_n 0, 1) := by decide +kernel
theorem d_Lw_law_529 : decode b_Lw_law 529 = .ok (.iload 4, 2) := by decide +kernel
theorem d_Lw_law_531 : decode b_Lw_law 531 = .ok (.iconst 2, 1) := by decide +kernel
theorem d_Lw_law_532 : decode b_Lw_law 532 = .ok (.iadd, 1) := by decide +kernel
theorem d_Lw_law_533 : decode b_Lw_law 533 = .ok (.iaload, 1) := by decide +kernel
theorem d_Lw_law_534 : decode b_Lw_law 534 = .ok (.invokevirtual 122, 3) := by decide +kernel
theorem d_Lw_law_537 : decode b_Lw_law 537 = .ok (.istore 6, 2) := by decide +kernel
theorem d_Lw_law_539 : decode b_Lw_law 539 = .ok (.aload_n 2, 1) := by decide +kernel
theorem d_Lw_law_540 : decode b_Lw_law 540 = .ok (.invokevirtual 93, 3) := by decide +kernel
theorem d_Lw_law_543 : decode b_Lw_law 543 = .ok (.iload 5, 2) := by decide +kernel
theorem d_Lw_law_545 : decode b_Lw_law 545 = .ok (.if_icmp .eq 5, 3) := by decide +kernel
theorem d_Lw_law_548 : decode b_Lw_law 548 = .ok (.iconst 0, 1) := by decide +kernel
theorem d_Lw_law_549 : decode b_Lw_law 549 = .ok (.ireturn, 1) := by decide +kernel
theorem d_Lw_law_550 : decode b_Lw_law 550 = .ok (.iload 5, 2) := by decide +kernel
theorem d_Lw_law_552 : decode b_Lw_law 552 = .ok (.ifCond .ne 22, 3) := by decide +kernel
theorem d_Lw_law_555 : decode b_Lw_law 555 = .ok (.aload_n 3, 1) := by decide +kernel
theorem d_Lw_law_556 : decode b_Lw_law 556 = .ok (.iconst 0, 1) := by decide +kernel
theorem d_Lw_law_557 : decode b_Lw_law 557 = .ok (.laload, 1) := by decide +kernel
theorem d_Lw_law_558 : decode b_Lw_law 558 = .ok (.iload 6, 2) := by decide +kernel
theorem d_Lw_law_560 : decode b_Lw_law 560 = .ok (.ifCond .eq 7, 3) := by decide +kernel
theorem d_Lw_law_563 : decode b_Lw_law 563 = .ok (.lconst 1, 1) := by decide +kernel
theorem d_Lw_law_564 : decode b_Lw_law 564 = .ok (.goto 4, 3) := by decide +kernel
theorem d_Lw_law_567 : decode b_Lw_law 567 = .ok (.lconst 0, 1) := by decide +kernel
theorem d_Lw_law_568 : decode b_Lw_law 568 = .ok (.lcmp, 1) := by decide +kernel
theorem d_Lw_law_569 : decode b_Lw_law 569 = .ok (.ifCond .eq 5, 3) := by decide +kernel
theorem d_Lw_law_572 : decode b_Lw_law 572 = .ok (.iconst 0, 1) := by decide +kernel
theorem d_Lw_law_573 : decode b_Lw_law 573 = .ok (.ireturn, 1) := by decide +kernel
theorem d_Lw_law_574 : decode b_Lw_law 574 = .ok (.goto 831, 3) := by decide +kernel
theorem d_Lw_law_577 : decode b_Lw_law 577 = .ok (.aload_n 1, 1) := by decide +kernel
theorem d_Lw_law_578 : decode b_Lw_law 578 = .ok (.aload_n 3, 1) := by decide +kernel
theorem d_Lw_law_579 : decode b_Lw_law 579 = .ok (.invokestatic 123, 3) := by decide +kernel
theorem d_Lw_law_582 : decode b_Lw_law 582 = .ok (.istore 5, 2) := by decide +kernel
theorem d_Lw_law_584 : decode b_Lw_law 584 = .ok (.aload_n 2, 1) := by decide +kernel
theorem d_Lw_law_585 : decode b_Lw_law 585 = .ok (.invokevirtual 125, 3) := by decide +kernel
theorem d_Lw_law_588 : decode b_Lw_law 588 = .ok (.istore 6, 2) := by decide +kernel
theorem d_Lw_law_590 : decode b_Lw_law 590 = .ok (.aload_n 2, 1) := by decide +kernel
theorem d_Lw_law_591 : decode b_Lw_law 591 = .ok (.invokevirtual 93, 3) := by decide +kernel
theorem d_Lw_law_594 : decode b_Lw_law 594 = .ok (.iload 5, 2) := by decide +kernel
theorem d_Lw_law_596 : decode b_Lw_law 596 = .ok (.if_icmp .eq 5, 3) := by decide +kernel
theorem d_Lw_law_599 : decode b_Lw_law 599 = .ok (.iconst 0, 1) := by decide +kernel
theorem d_Lw_law_600 : decode b_Lw_law 600 = .ok (.ireturn, 1) := by decide +kernel
theorem d_Lw_law_601 : decode b_Lw_law 601 = .ok (.iload 5, 2) := by decide +kernel
theorem d_Lw_law_603 : decode b_Lw_law 603 = .ok (.ifCond .ne 15, 3) := by decide +kernel
theorem d_Lw_law_606 : decode b_Lw_law 606 = .ok (.aload_n 3, 1) := by decide +kernel
theorem d_Lw_law_607 : decode b_Lw_law 607 = .ok (.iconst 0, 1) := by decide +kernel
theorem d_Lw_law_608 : decode b_Lw_law 608 = .ok (.laload, 1) := by decide +kernel
theorem d_Lw_law_609 : decode b_Lw_law 609 = .ok (.iload 6, 2) := by decide +kernel
theorem d_Lw_law_611 : decode b_Lw_law 611 = .ok (.i2l, 1) := by decide +kernel
theorem d_Lw_law_612 : decode b_Lw_law 612 = .ok (.lcmp, 1) := by decide +kernel
theorem d_Lw_law_613 : decode b_Lw_law 613 = .ok (.ifCond .eq 5, 3) := by decide +kernel
theorem d_Lw_law_616 : decode b_Lw_law 616 = .ok (.iconst 0, 1) := by decide +kernel
theorem d_Lw_law_617 : decode b_Lw_law 617 = .ok (.ireturn, 1) := by decide +kernel
theorem d_Lw_law_618 : decode b_Lw_law 618 = .ok (.goto 787, 3) := by decide +kernel
theorem d_Lw_law_621 : decode b_Lw_law 621 = .ok (.aload_n 1, 1) := by decide +kernel
theorem d_Lw_law_622 : decode b_Lw_law 622 = .ok (.aload_n 0, 1) := by decide +kernel
theorem d_Lw_law_623 : decode b_Lw_law 623 = .ok (.iload 4, 2) := by decide +kernel
theorem d_Lw_law_625 : decode b_Lw_law 625 = .ok (.iconst 1, 1) := by decide +kernel
theorem d_Lw_law_626 : decode b_Lw_law 626 = .ok (.iadd, 1) := by decide +kernel
theorem d_Lw_law_627 : decode b_Lw_law 627 = .ok (.iaload, 1) := by decide +kernel
theorem d_Lw_law_628 : decode b_Lw_law 628 = .ok (.aload_n 0, 1) := by decide +kernel
theorem d_Lw_law_629 : decode b_Lw_law 629 = .ok (.iload 4, 2) := by decide +kernel
theorem d_Lw_law_631 : decode b_Lw_law 631 = .ok (.iconst 2, 1) := by decide +kernel
theorem d_Lw_law_632 : decode b_Lw_law 632 = .ok (.iadd, 1) := by decide +kernel
theorem d_Lw_law_633 : decode b_Lw_law 633 = .ok (.iaload, 1) := by decide +kernel
theorem d_Lw_law_634 : decode b_Lw_law 634 = .ok (.aload_n 3, 1) := by decide +kernel
theorem d_Lw_law_635 : decode b_Lw_law 635 = .ok (.invokestatic 126, 3) := by decide +kernel
theorem d_Lw_law_638 : decode b_Lw_law 638 = .ok (.istore 5, 2) := by decide +kernel
theorem d_Lw_law_640 : decode b_Lw_law 640 = .ok (.aload_n 2, 1) := by decide +kernel
theorem d_Lw_law_641 : decode b_Lw_law 641 = .ok (.aload_n 0, 1) := by decide +kernel
theorem d_Lw_law_642 : decode b_Lw_law 642 = .ok (.iload 4, 2) := by decide +kernel
theorem d_Lw_law_644 : decode b_Lw_law 644 = .ok (.iconst 1, 1) := by decide +kernel
theorem d_Lw_law_645 : decode b_Lw_law 645 = .ok (.iadd, 1) := by decide +kernel
theorem d_Lw_law_646 : decode b_Lw_law 646 = .ok (.iaload, 1) := by decide +kernel
theorem d_Lw_law_647 : decode b_Lw_law 647 = .ok (.aload_n 0, 1) := by decide +kernel
theorem d_Lw_law_648 : decode b_Lw_law 648 = .ok (.iload 4, 2) := by decide +kernel
theorem d_Lw_law_650 : decode b_Lw_law 650 = .ok (.iconst 2, 1) := by decide +kernel
theorem d_Lw_law_651 : decode b_Lw_law 651 = .ok (.iadd, 1) := by decide +kernel
theorem d_Lw_law_652 : decode b_Lw_law 652 = .ok (.iaload, 1) := by decide +kernel
theorem d_Lw_law_653 : decode b_Lw_law 653 = .ok (.invokevirtual 128, 3) := by decide +kernel
theorem d_Lw_law_656 : decode b_Lw_law 656 = .ok (.istore 6, 2) := by decide +kernel
theorem d_Lw_law_658 : decode b_Lw_law 658 = .ok (.aload_n 2, 1) := by decide +kernel
theorem d_Lw_law_659 : decode b_Lw_law 659 = .ok (.invokevirtual 93, 3) := by decide +kernel
theorem d_Lw_law_662 : decode b_Lw_law 662 = .ok (.iload 5, 2) := by decide +kernel
theorem d_Lw_law_664 : decode b_Lw_law 664 = .ok (.if_icmp .eq 5, 3) := by decide +kernel
theorem d_Lw_law_667 : decode b_Lw_law 667 = .ok (.iconst 0, 1) := by decide +kernel
theorem d_Lw_law_668 : decode b_Lw_law 668 = .ok (.ireturn, 1) := by decide +kernel
theorem d_Lw_law_669 : decode b_Lw_law 669 = .ok (.iload 5, 2) := by decide +kernel
theorem d_Lw_law_671 : decode b_Lw_law 671 = .ok (.ifCond .ne 15, 3) := by decide +kernel
theorem d_Lw_law_674 : decode b_Lw_law 674 = .ok (.aload_n 3, 1) := by decide +kernel
theorem d_Lw_law_675 : decode b_Lw_law 675 = .ok (.iconst 0, 1) := by decide +kernel
theorem d_Lw_law_676 : decode b_Lw_law 676 = .ok (.laload, 1) := by decide +kernel
theorem d_Lw_law_677 : decode b_Lw_law 677 = .ok (.iload 6, 2) := by decide +kernel
theorem d_Lw_law_679 : decode b_Lw_law 679 = .ok (.i2l, 1) := by decide +kernel
theorem d_Lw_law_680 : decode b_Lw_law 680 = .ok (.lcmp, 1) := by decide +kernel
theorem d_Lw_law_681 : decode b_Lw_law 681 = .ok (.ifCond .eq 5, 3) := by decide +kernel
theorem d_Lw_law_684 : decode b_Lw_law 684 = .ok (.iconst 0, 1) := by decide +kernel
theorem d_Lw_law_685 : decode b_Lw_law 685 = .ok (.ireturn, 1) := by decide +kernel
theorem d_Lw_law_686 : decode b_Lw_law 686 = .ok (.goto 719, 3) := by decide +kernel
theorem d_Lw_law_689 : decode b_Lw_law 689 = .ok (.aload_n 1, 1) := by decide +kernel
theorem d_Lw_law_690 : decode b_Lw_law 690 = .ok (.aload_n 0, 1) := by decide +kernel
theorem d_Lw_law_691 : decode b_Lw_law 691 = .ok (.iload 4, 2) := by decide +kernel
theorem d_Lw_law_693 : decode b_Lw_law 693 = .ok (.iconst 1, 1) := by decide +kernel
theorem d_Lw_law_694 : decode b_Lw_law 694 = .ok (.iadd, 1) := by decide +kernel
theorem d_Lw_law_695 : decode b_Lw_law 695 = .ok (.iaload, 1) := by decide +kernel
theorem d_Lw_law_696 : decode b_Lw_law 696 = .ok (.aload_n 3, 1) := by decide +kernel
theorem d_Lw_law_697 : decode b_Lw_law 697 = .ok (.invokestatic 129, 3) := by decide +kernel
theorem d_Lw_law_700 : decode b_Lw_law 700 = .ok (.istore 5, 2) := by decide +kernel
theorem d_Lw_law_702 : decode b_Lw_law 702 = .ok (.aload_n 2, 1) := by decide +kernel
theorem d_Lw_law_703 : decode b_Lw_law 703 = .ok (.aload_n 0, 1) := by decide +kernel
theorem d_Lw_law_704 : decode b_Lw_law 704 = .ok (.iload 4, 2) := by decide +kernel
theorem d_Lw_law_706 : decode b_Lw_law 706 = .ok (.iconst 1, 1) := by decide +kernel
theorem d_Lw_law_707 : decode b_Lw_law 707 = .ok (.iadd, 1) := by decide +kernel
theorem d_Lw_law_708 : decode b_Lw_law 708 = .ok (.iaload, 1) := by decide +kernel
theorem d_Lw_law_709 : decode b_Lw_law 709 = .ok (.invokevirtual 131, 3) := by decide +kernel
theorem d_Lw_law_712 : decode b_Lw_law 712 = .ok (.istore 6, 2) := by decide +kernel
theorem d_Lw_law_714 : decode b_Lw_law 714 = .ok (.aload_n 2, 1) := by decide +kernel
theorem d_Lw_law_715 : decode b_Lw_law 715 = .ok (.invokevirtual 93, 3) := by decide +kernel
theorem d_Lw_law_718 : decode b_Lw_law 718 = .ok (.iload 5, 2) := by decide +kernel
theorem d_Lw_law_720 : decode b_Lw_law 720 = .ok (.if_icmp .eq 5, 3) := by decide +kernel
theorem d_Lw_law_723 : decode b_Lw_law 723 = .ok (.iconst 0, 1) := by decide +kernel
theorem d_Lw_law_724 : decode b_Lw_law 724 = .ok (.ireturn, 1) := by decide +kernel
theorem d_Lw_law_725 : decode b_Lw_law 725 = .ok (.iload 5, 2) := by decide +kernel
theorem d_Lw_law_727 : decode b_Lw_law 727 = .ok (.ifCond .ne 22, 3) := by decide +kernel
