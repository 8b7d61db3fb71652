theorem d_Cn_init_0 : decode b_Cn_init 0 = .ok (.aload_n 0, 1) := by decide +kernel
theorem d_Cn_init_1 : decode b_Cn_init 1 = .ok (.invokespecial 3, 3) := by decide +kernel
theorem d_Cn_init_4 : decode b_Cn_init 4 = .ok (.aload_n 0, 1) := by decide +kernel
theorem d_Cn_init_5 : decode b_Cn_init 5 = .ok (.sipush 3520, 3) := by decide +kernel
theorem d_Cn_init_8 : decode b_Cn_init 8 = .ok (.newarray .int, 2) := by decide +kernel
theorem d_Cn_init_10 : decode b_Cn_init 10 = .ok (.putfield 11, 3) := by decide +kernel
theorem d_Cn_init_13 : decode b_Cn_init 13 = .ok (.return_, 1) := by decide +kernel
theorem d_Cn_countDrafts_0 : decode b_Cn_countDrafts 0 = .ok (.iconst 1, 1) := by decide +kernel
theorem d_Cn_countDrafts_1 : decode b_Cn_countDrafts 1 = .ok (.iload_n 1, 1) := by decide +kernel
theorem d_Cn_countDrafts_2 : decode b_Cn_countDrafts 2 = .ok (.ishl, 1) := by decide +kernel
theorem d_Cn_countDrafts_3 : decode b_Cn_countDrafts 3 = .ok (.iconst 1, 1) := by decide +kernel
theorem d_Cn_countDrafts_4 : decode b_Cn_countDrafts 4 = .ok (.isub, 1) := by decide +kernel
theorem d_Cn_countDrafts_5 : decode b_Cn_countDrafts 5 = .ok (.istore_n 3, 1) := by decide +kernel
theorem d_Cn_countDrafts_6 : decode b_Cn_countDrafts 6 = .ok (.aload_n 0, 1) := by decide +kernel
theorem d_Cn_countDrafts_7 : decode b_Cn_countDrafts 7 = .ok (.getfield 11, 3) := by decide +kernel
theorem d_Cn_countDrafts_10 : decode b_Cn_countDrafts 10 = .ok (.iconst 0, 1) := by decide +kernel
theorem d_Cn_countDrafts_11 : decode b_Cn_countDrafts 11 = .ok (.invokestatic 15, 3) := by decide +kernel
theorem d_Cn_countDrafts_14 : decode b_Cn_countDrafts 14 = .ok (.aload_n 0, 1) := by decide +kernel
theorem d_Cn_countDrafts_15 : decode b_Cn_countDrafts 15 = .ok (.getfield 11, 3) := by decide +kernel
theorem d_Cn_countDrafts_18 : decode b_Cn_countDrafts 18 = .ok (.iconst 0, 1) := by decide +kernel
theorem d_Cn_countDrafts_19 : decode b_Cn_countDrafts 19 = .ok (.iconst 1, 1) := by decide +kernel
theorem d_Cn_countDrafts_20 : decode b_Cn_countDrafts 20 = .ok (.iastore, 1) := by decide +kernel
theorem d_Cn_countDrafts_21 : decode b_Cn_countDrafts 21 = .ok (.iconst 0, 1) := by decide +kernel
theorem d_Cn_countDrafts_22 : decode b_Cn_countDrafts 22 = .ok (.istore 4, 2) := by decide +kernel
theorem d_Cn_countDrafts_24 : decode b_Cn_countDrafts 24 = .ok (.iload 4, 2) := by decide +kernel
theorem d_Cn_countDrafts_26 : decode b_Cn_countDrafts 26 = .ok (.iload_n 3, 1) := by decide +kernel
theorem d_Cn_countDrafts_27 : decode b_Cn_countDrafts 27 = .ok (.if_icmp .ge 16, 3) := by decide +kernel
theorem d_Cn_countDrafts_30 : decode b_Cn_countDrafts 30 = .ok (.aload_n 0, 1) := by decide +kernel
theorem d_Cn_countDrafts_31 : decode b_Cn_countDrafts 31 = .ok (.iload 4, 2) := by decide +kernel
theorem d_Cn_countDrafts_33 : decode b_Cn_countDrafts 33 = .ok (.iload_n 1, 1) := by decide +kernel
theorem d_Cn_countDrafts_34 : decode b_Cn_countDrafts 34 = .ok (.invokevirtual 21, 3) := by decide +kernel
theorem d_Cn_countDrafts_37 : decode b_Cn_countDrafts 37 = .ok (.iinc 4 1, 3) := by decide +kernel
theorem d_Cn_countDrafts_40 : decode b_Cn_countDrafts 40 = .ok (.goto (-16), 3) := by decide +kernel
theorem d_Cn_countDrafts_43 : decode b_Cn_countDrafts 43 = .ok (.aload_n 0, 1) := by decide +kernel
theorem d_Cn_countDrafts_44 : decode b_Cn_countDrafts 44 = .ok (.getfield 11, 3) := by decide +kernel
theorem d_Cn_countDrafts_47 : decode b_Cn_countDrafts 47 = .ok (.iload_n 3, 1) := by decide +kernel
theorem d_Cn_countDrafts_48 : decode b_Cn_countDrafts 48 = .ok (.bipush 55, 2) := by decide +kernel
theorem d_Cn_countDrafts_50 : decode b_Cn_countDrafts 50 = .ok (.imul, 1) := by decide +kernel
theorem d_Cn_countDrafts_51 : decode b_Cn_countDrafts 51 = .ok (.iload_n 1, 1) := by decide +kernel
theorem d_Cn_countDrafts_52 : decode b_Cn_countDrafts 52 = .ok (.iload_n 2, 1) := by decide +kernel
theorem d_Cn_countDrafts_53 : decode b_Cn_countDrafts 53 = .ok (.imul, 1) := by decide +kernel
theorem d_Cn_countDrafts_54 : decode b_Cn_countDrafts 54 = .ok (.iadd, 1) := by decide +kernel
theorem d_Cn_countDrafts_55 : decode b_Cn_countDrafts 55 = .ok (.iaload, 1) := by decide +kernel
theorem d_Cn_countDrafts_56 : decode b_Cn_countDrafts 56 = .ok (.ireturn, 1) := by decide +kernel
theorem d_Cn_throwNext_0 : decode b_Cn_throwNext 0 = .ok (.iload_n 1, 1) := by decide +kernel
theorem d_Cn_throwNext_1 : decode b_Cn_throwNext 1 = .ok (.invokestatic 25, 3) := by decide +kernel
theorem d_Cn_throwNext_4 : decode b_Cn_throwNext 4 = .ok (.istore_n 3, 1) := by decide +kernel
theorem d_Cn_throwNext_5 : decode b_Cn_throwNext 5 = .ok (.iconst 0, 1) := by decide +kernel
theorem d_Cn_throwNext_6 : decode b_Cn_throwNext 6 = .ok (.istore 4, 2) := by decide +kernel
theorem d_Cn_throwNext_8 : decode b_Cn_throwNext 8 = .ok (.iload 4, 2) := by decide +kernel
theorem d_Cn_throwNext_10 : decode b_Cn_throwNext 10 = .ok (.bipush 9, 2) := by decide +kernel
theorem d_Cn_throwNext_12 : decode b_Cn_throwNext 12 = .ok (.if_icmp .gt 39, 3) := by decide +kernel
theorem d_Cn_throwNext_15 : decode b_Cn_throwNext 15 = .ok (.iconst 1, 1) := by decide +kernel
theorem d_Cn_throwNext_16 : decode b_Cn_throwNext 16 = .ok (.iload_n 3, 1) := by decide +kernel
theorem d_Cn_throwNext_17 : decode b_Cn_throwNext 17 = .ok (.iload 4, 2) := by decide +kernel
theorem d_Cn_throwNext_19 : decode b_Cn_throwNext 19 = .ok (.iadd, 1) := by decide +kernel
theorem d_Cn_throwNext_20 : decode b_Cn_throwNext 20 = .ok (.iload_n 2, 1) := by decide +kernel
theorem d_Cn_throwNext_21 : decode b_Cn_throwNext 21 = .ok (.invokestatic 31, 3) := by decide +kernel
theorem d_Cn_throwNext_24 : decode b_Cn_throwNext 24 = .ok (.ishl, 1) := by decide +kernel
theorem d_Cn_throwNext_25 : decode b_Cn_throwNext 25 = .ok (.istore 5, 2) := by decide +kernel
theorem d_Cn_throwNext_27 : decode b_Cn_throwNext 27 = .ok (.iload_n 1, 1) := by decide +kernel
theorem d_Cn_throwNext_28 : decode b_Cn_throwNext 28 = .ok (.iload 5, 2) := by decide +kernel
theorem d_Cn_throwNext_30 : decode b_Cn_throwNext 30 = .ok (.iand, 1) := by decide +kernel
theorem d_Cn_throwNext_31 : decode b_Cn_throwNext 31 = .ok (.ifCond .ne 14, 3) := by decide +kernel
theorem d_Cn_throwNext_34 : decode b_Cn_throwNext 34 = .ok (.aload_n 0, 1) := by decide +kernel
theorem d_Cn_throwNext_35 : decode b_Cn_throwNext 35 = .ok (.iload_n 1, 1) := by decide +kernel
theorem d_Cn_throwNext_36 : decode b_Cn_throwNext 36 = .ok (.iload_n 1, 1) := by decide +kernel
theorem d_Cn_throwNext_37 : decode b_Cn_throwNext 37 = .ok (.iload 5, 2) := by decide +kernel
theorem d_Cn_throwNext_39 : decode b_Cn_throwNext 39 = .ok (.ior, 1) := by decide +kernel
theorem d_Cn_throwNext_40 : decode b_Cn_throwNext 40 = .ok (.iload 4, 2) := by decide +kernel
theorem d_Cn_throwNext_42 : decode b_Cn_throwNext 42 = .ok (.invokevirtual 35, 3) := by decide +kernel
theorem d_Cn_throwNext_45 : decode b_Cn_throwNext 45 = .ok (.iinc 4 1, 3) := by decide +kernel
theorem d_Cn_throwNext_48 : decode b_Cn_throwNext 48 = .ok (.goto (-40), 3) := by decide +kernel
theorem d_Cn_throwNext_51 : decode b_Cn_throwNext 51 = .ok (.return_, 1) := by decide +kernel
theorem d_Cn_addRows_0 : decode b_Cn_addRows 0 = .ok (.iload_n 3, 1) := by decide +kernel
theorem d_Cn_addRows_1 : decode b_Cn_addRows 1 = .ok (.istore 4, 2) := by decide +kernel
theorem d_Cn_addRows_3 : decode b_Cn_addRows 3 = .ok (.iload 4, 2) := by decide +kernel
theorem d_Cn_addRows_5 : decode b_Cn_addRows 5 = .ok (.bipush 55, 2) := by decide +kernel
theorem d_Cn_addRows_7 : decode b_Cn_addRows 7 = .ok (.if_icmp .ge 38, 3) := by decide +kernel
theorem d_Cn_addRows_10 : decode b_Cn_addRows 10 = .ok (.aload_n 0, 1) := by decide +kernel
theorem d_Cn_addRows_11 : decode b_Cn_addRows 11 = .ok (.getfield 11, 3) := by decide +kernel
theorem d_Cn_addRows_14 : decode b_Cn_addRows 14 = .ok (.iload_n 2, 1) := by decide +kernel
theorem d_Cn_addRows_15 : decode b_Cn_addRows 15 = .ok (.bipush 55, 2) := by decide +kernel
theorem d_Cn_addRows_17 : decode b_Cn_addRows 17 = .ok (.imul, 1) := by decide +kernel
theorem d_Cn_addRows_18 : decode b_Cn_addRows 18 = .ok (.iload 4, 2) := by decide +kernel
theorem d_Cn_addRows_20 : decode b_Cn_addRows 20 = .ok (.iadd, 1) := by decide +kernel
theorem d_Cn_addRows_21 : decode b_Cn_addRows 21 = .ok (.dup2, 1) := by decide +kernel
theorem d_Cn_addRows_22 : decode b_Cn_addRows 22 = .ok (.iaload, 1) := by decide +kernel
theorem d_Cn_addRows_23 : decode b_Cn_addRows 23 = .ok (.aload_n 0, 1) := by decide +kernel
theorem d_Cn_addRows_24 : decode b_Cn_addRows 24 = .ok (.getfield 11, 3) := by decide +kernel
theorem d_Cn_addRows_27 : decode b_Cn_addRows 27 = .ok (.iload_n 1, 1) := by decide +kernel
theorem d_Cn_addRows_28 : decode b_Cn_addRows 28 = .ok (.bipush 55, 2) := by decide +kernel
theorem d_Cn_addRows_30 : decode b_Cn_addRows 30 = .ok (.imul, 1) := by decide +kernel
theorem d_Cn_addRows_31 : decode b_Cn_addRows 31 = .ok (.iload 4, 2) := by decide +kernel
theorem d_Cn_addRows_33 : decode b_Cn_addRows 33 = .ok (.iadd, 1) := by decide +kernel
theorem d_Cn_addRows_34 : decode b_Cn_addRows 34 = .ok (.iload_n 3, 1) := by decide +kernel
theorem d_Cn_addRows_35 : decode b_Cn_addRows 35 = .ok (.isub, 1) := by decide +kernel
theorem d_Cn_addRows_36 : decode b_Cn_addRows 36 = .ok (.iaload, 1) := by decide +kernel
theorem d_Cn_addRows_37 : decode b_Cn_addRows 37 = .ok (.iadd, 1) := by decide +kernel
theorem d_Cn_addRows_38 : decode b_Cn_addRows 38 = .ok (.iastore, 1) := by decide +kernel
theorem d_Cn_addRows_39 : decode b_Cn_addRows 39 = .ok (.iinc 4 1, 3) := by decide +kernel
theorem d_Cn_addRows_42 : decode b_Cn_addRows 42 = .ok (.goto (-39), 3) := by decide +kernel
theorem d_Cn_addRows_45 : decode b_Cn_addRows 45 = .ok (.return_, 1) := by decide +kernel
