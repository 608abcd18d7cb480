theorem d_HoldQueueModel_back_8 : decode c_HoldQueueModel_back 8 = .ok (.invokevirtual 108, 3) := by decide +kernel
theorem d_HoldQueueModel_back_11 : decode c_HoldQueueModel_back 11 = .ok (.ifCond .eq 12, 3) := by decide +kernel
theorem d_HoldQueueModel_back_14 : decode c_HoldQueueModel_back 14 = .ok (.iload_n 2, 1) := by decide +kernel
theorem d_HoldQueueModel_back_15 : decode c_HoldQueueModel_back 15 = .ok (.iconst 0, 1) := by decide +kernel
theorem d_HoldQueueModel_back_16 : decode c_HoldQueueModel_back 16 = .ok (.iconst 5, 1) := by decide +kernel
theorem d_HoldQueueModel_back_17 : decode c_HoldQueueModel_back 17 = .ok (.invokestatic 64, 3) := by decide +kernel
theorem d_HoldQueueModel_back_20 : decode c_HoldQueueModel_back 20 = .ok (.ifCond .ne 5, 3) := by decide +kernel
theorem d_HoldQueueModel_back_23 : decode c_HoldQueueModel_back 23 = .ok (.iconst (-1), 1) := by decide +kernel
theorem d_HoldQueueModel_back_24 : decode c_HoldQueueModel_back 24 = .ok (.ireturn, 1) := by decide +kernel
theorem d_HoldQueueModel_back_25 : decode c_HoldQueueModel_back 25 = .ok (.aload_n 0, 1) := by decide +kernel
theorem d_HoldQueueModel_back_26 : decode c_HoldQueueModel_back 26 = .ok (.getfield 30, 3) := by decide +kernel
theorem d_HoldQueueModel_back_29 : decode c_HoldQueueModel_back 29 = .ok (.iload_n 1, 1) := by decide +kernel
theorem d_HoldQueueModel_back_30 : decode c_HoldQueueModel_back 30 = .ok (.iload_n 2, 1) := by decide +kernel
theorem d_HoldQueueModel_back_31 : decode c_HoldQueueModel_back 31 = .ok (.iastore, 1) := by decide +kernel
theorem d_HoldQueueModel_back_32 : decode c_HoldQueueModel_back 32 = .ok (.aload_n 0, 1) := by decide +kernel
theorem d_HoldQueueModel_back_33 : decode c_HoldQueueModel_back 33 = .ok (.iload_n 1, 1) := by decide +kernel
theorem d_HoldQueueModel_back_34 : decode c_HoldQueueModel_back 34 = .ok (.invokevirtual 99, 3) := by decide +kernel
theorem d_HoldQueueModel_back_37 : decode c_HoldQueueModel_back 37 = .ok (.ireturn, 1) := by decide +kernel
theorem d_HoldQueueModel_arrive_0 : decode c_HoldQueueModel_arrive 0 = .ok (.aload_n 0, 1) := by decide +kernel
theorem d_HoldQueueModel_arrive_1 : decode c_HoldQueueModel_arrive 1 = .ok (.iconst 0, 1) := by decide +kernel
theorem d_HoldQueueModel_arrive_2 : decode c_HoldQueueModel_arrive 2 = .ok (.putfield 61, 3) := by decide +kernel
theorem d_HoldQueueModel_arrive_5 : decode c_HoldQueueModel_arrive 5 = .ok (.aload_n 0, 1) := by decide +kernel
theorem d_HoldQueueModel_arrive_6 : decode c_HoldQueueModel_arrive 6 = .ok (.iload_n 1, 1) := by decide +kernel
theorem d_HoldQueueModel_arrive_7 : decode c_HoldQueueModel_arrive 7 = .ok (.iconst 2, 1) := by decide +kernel
theorem d_HoldQueueModel_arrive_8 : decode c_HoldQueueModel_arrive 8 = .ok (.invokevirtual 108, 3) := by decide +kernel
theorem d_HoldQueueModel_arrive_11 : decode c_HoldQueueModel_arrive 11 = .ok (.ifCond .ne 5, 3) := by decide +kernel
theorem d_HoldQueueModel_arrive_14 : decode c_HoldQueueModel_arrive 14 = .ok (.iconst (-1), 1) := by decide +kernel
theorem d_HoldQueueModel_arrive_15 : decode c_HoldQueueModel_arrive 15 = .ok (.ireturn, 1) := by decide +kernel
theorem d_HoldQueueModel_arrive_16 : decode c_HoldQueueModel_arrive 16 = .ok (.aload_n 0, 1) := by decide +kernel
theorem d_HoldQueueModel_arrive_17 : decode c_HoldQueueModel_arrive 17 = .ok (.getfield 33, 3) := by decide +kernel
theorem d_HoldQueueModel_arrive_20 : decode c_HoldQueueModel_arrive 20 = .ok (.iload_n 1, 1) := by decide +kernel
theorem d_HoldQueueModel_arrive_21 : decode c_HoldQueueModel_arrive 21 = .ok (.iaload, 1) := by decide +kernel
theorem d_HoldQueueModel_arrive_22 : decode c_HoldQueueModel_arrive 22 = .ok (.istore_n 2, 1) := by decide +kernel
theorem d_HoldQueueModel_arrive_23 : decode c_HoldQueueModel_arrive 23 = .ok (.iload_n 2, 1) := by decide +kernel
theorem d_HoldQueueModel_arrive_24 : decode c_HoldQueueModel_arrive 24 = .ok (.ifCond .le 11, 3) := by decide +kernel
theorem d_HoldQueueModel_arrive_27 : decode c_HoldQueueModel_arrive 27 = .ok (.aload_n 0, 1) := by decide +kernel
theorem d_HoldQueueModel_arrive_28 : decode c_HoldQueueModel_arrive 28 = .ok (.iload_n 1, 1) := by decide +kernel
theorem d_HoldQueueModel_arrive_29 : decode c_HoldQueueModel_arrive 29 = .ok (.iload_n 2, 1) := by decide +kernel
theorem d_HoldQueueModel_arrive_30 : decode c_HoldQueueModel_arrive 30 = .ok (.invokevirtual 89, 3) := by decide +kernel
theorem d_HoldQueueModel_arrive_33 : decode c_HoldQueueModel_arrive 33 = .ok (.iconst 1, 1) := by decide +kernel
theorem d_HoldQueueModel_arrive_34 : decode c_HoldQueueModel_arrive 34 = .ok (.ireturn, 1) := by decide +kernel
theorem d_HoldQueueModel_arrive_35 : decode c_HoldQueueModel_arrive 35 = .ok (.aload_n 0, 1) := by decide +kernel
theorem d_HoldQueueModel_arrive_36 : decode c_HoldQueueModel_arrive 36 = .ok (.iload_n 1, 1) := by decide +kernel
theorem d_HoldQueueModel_arrive_37 : decode c_HoldQueueModel_arrive 37 = .ok (.invokevirtual 99, 3) := by decide +kernel
theorem d_HoldQueueModel_arrive_40 : decode c_HoldQueueModel_arrive 40 = .ok (.pop, 1) := by decide +kernel
theorem d_HoldQueueModel_arrive_41 : decode c_HoldQueueModel_arrive 41 = .ok (.iconst 0, 1) := by decide +kernel
theorem d_HoldQueueModel_arrive_42 : decode c_HoldQueueModel_arrive 42 = .ok (.ireturn, 1) := by decide +kernel
theorem d_HoldQueueModel_pick_0 : decode c_HoldQueueModel_pick 0 = .ok (.aload_n 0, 1) := by decide +kernel
theorem d_HoldQueueModel_pick_1 : decode c_HoldQueueModel_pick 1 = .ok (.iconst 0, 1) := by decide +kernel
theorem d_HoldQueueModel_pick_2 : decode c_HoldQueueModel_pick 2 = .ok (.putfield 61, 3) := by decide +kernel
theorem d_HoldQueueModel_pick_5 : decode c_HoldQueueModel_pick 5 = .ok (.aload_n 0, 1) := by decide +kernel
theorem d_HoldQueueModel_pick_6 : decode c_HoldQueueModel_pick 6 = .ok (.iload_n 1, 1) := by decide +kernel
theorem d_HoldQueueModel_pick_7 : decode c_HoldQueueModel_pick 7 = .ok (.invokevirtual 102, 3) := by decide +kernel
theorem d_HoldQueueModel_pick_10 : decode c_HoldQueueModel_pick 10 = .ok (.ifCond .eq 13, 3) := by decide +kernel
theorem d_HoldQueueModel_pick_13 : decode c_HoldQueueModel_pick 13 = .ok (.aload_n 0, 1) := by decide +kernel
theorem d_HoldQueueModel_pick_14 : decode c_HoldQueueModel_pick 14 = .ok (.getfield 48, 3) := by decide +kernel
theorem d_HoldQueueModel_pick_17 : decode c_HoldQueueModel_pick 17 = .ok (.iload_n 1, 1) := by decide +kernel
theorem d_HoldQueueModel_pick_18 : decode c_HoldQueueModel_pick 18 = .ok (.iaload, 1) := by decide +kernel
theorem d_HoldQueueModel_pick_19 : decode c_HoldQueueModel_pick 19 = .ok (.iconst 2, 1) := by decide +kernel
theorem d_HoldQueueModel_pick_20 : decode c_HoldQueueModel_pick 20 = .ok (.if_icmp .eq 5, 3) := by decide +kernel
theorem d_HoldQueueModel_pick_23 : decode c_HoldQueueModel_pick 23 = .ok (.iconst 0, 1) := by decide +kernel
theorem d_HoldQueueModel_pick_24 : decode c_HoldQueueModel_pick 24 = .ok (.ireturn, 1) := by decide +kernel
theorem d_HoldQueueModel_pick_25 : decode c_HoldQueueModel_pick 25 = .ok (.aload_n 0, 1) := by decide +kernel
theorem d_HoldQueueModel_pick_26 : decode c_HoldQueueModel_pick 26 = .ok (.getfield 51, 3) := by decide +kernel
theorem d_HoldQueueModel_pick_29 : decode c_HoldQueueModel_pick 29 = .ok (.iload_n 1, 1) := by decide +kernel
theorem d_HoldQueueModel_pick_30 : decode c_HoldQueueModel_pick 30 = .ok (.iaload, 1) := by decide +kernel
theorem d_HoldQueueModel_pick_31 : decode c_HoldQueueModel_pick 31 = .ok (.istore_n 2, 1) := by decide +kernel
theorem d_HoldQueueModel_pick_32 : decode c_HoldQueueModel_pick 32 = .ok (.aload_n 0, 1) := by decide +kernel
theorem d_HoldQueueModel_pick_33 : decode c_HoldQueueModel_pick 33 = .ok (.getfield 48, 3) := by decide +kernel
theorem d_HoldQueueModel_pick_36 : decode c_HoldQueueModel_pick 36 = .ok (.iload_n 1, 1) := by decide +kernel
theorem d_HoldQueueModel_pick_37 : decode c_HoldQueueModel_pick 37 = .ok (.iconst 3, 1) := by decide +kernel
theorem d_HoldQueueModel_pick_38 : decode c_HoldQueueModel_pick 38 = .ok (.iastore, 1) := by decide +kernel
theorem d_HoldQueueModel_pick_39 : decode c_HoldQueueModel_pick 39 = .ok (.aload_n 0, 1) := by decide +kernel
theorem d_HoldQueueModel_pick_40 : decode c_HoldQueueModel_pick 40 = .ok (.getfield 51, 3) := by decide +kernel
theorem d_HoldQueueModel_pick_43 : decode c_HoldQueueModel_pick 43 = .ok (.iload_n 1, 1) := by decide +kernel
theorem d_HoldQueueModel_pick_44 : decode c_HoldQueueModel_pick 44 = .ok (.iconst 0, 1) := by decide +kernel
theorem d_HoldQueueModel_pick_45 : decode c_HoldQueueModel_pick 45 = .ok (.iastore, 1) := by decide +kernel
theorem d_HoldQueueModel_pick_46 : decode c_HoldQueueModel_pick 46 = .ok (.aload_n 0, 1) := by decide +kernel
theorem d_HoldQueueModel_pick_47 : decode c_HoldQueueModel_pick 47 = .ok (.getfield 27, 3) := by decide +kernel
theorem d_HoldQueueModel_pick_50 : decode c_HoldQueueModel_pick 50 = .ok (.iload_n 2, 1) := by decide +kernel
theorem d_HoldQueueModel_pick_51 : decode c_HoldQueueModel_pick 51 = .ok (.iconst 1, 1) := by decide +kernel
theorem d_HoldQueueModel_pick_52 : decode c_HoldQueueModel_pick 52 = .ok (.iastore, 1) := by decide +kernel
theorem d_HoldQueueModel_pick_53 : decode c_HoldQueueModel_pick 53 = .ok (.aload_n 0, 1) := by decide +kernel
theorem d_HoldQueueModel_pick_54 : decode c_HoldQueueModel_pick 54 = .ok (.getfield 33, 3) := by decide +kernel
theorem d_HoldQueueModel_pick_57 : decode c_HoldQueueModel_pick 57 = .ok (.iload_n 2, 1) := by decide +kernel
theorem d_HoldQueueModel_pick_58 : decode c_HoldQueueModel_pick 58 = .ok (.iconst 0, 1) := by decide +kernel
theorem d_HoldQueueModel_pick_59 : decode c_HoldQueueModel_pick 59 = .ok (.iastore, 1) := by decide +kernel
theorem d_HoldQueueModel_pick_60 : decode c_HoldQueueModel_pick 60 = .ok (.iload_n 2, 1) := by decide +kernel
theorem d_HoldQueueModel_pick_61 : decode c_HoldQueueModel_pick 61 = .ok (.ireturn, 1) := by decide +kernel
theorem d_HoldQueueModel_lend_0 : decode c_HoldQueueModel_lend 0 = .ok (.aload_n 0, 1) := by decide +kernel
theorem d_HoldQueueModel_lend_1 : decode c_HoldQueueModel_lend 1 = .ok (.iconst 0, 1) := by decide +kernel
theorem d_HoldQueueModel_lend_2 : decode c_HoldQueueModel_lend 2 = .ok (.putfield 61, 3) := by decide +kernel
theorem d_HoldQueueModel_lend_5 : decode c_HoldQueueModel_lend 5 = .ok (.aload_n 0, 1) := by decide +kernel
theorem d_HoldQueueModel_lend_6 : decode c_HoldQueueModel_lend 6 = .ok (.iload_n 1, 1) := by decide +kernel
theorem d_HoldQueueModel_lend_7 : decode c_HoldQueueModel_lend 7 = .ok (.iconst 0, 1) := by decide +kernel
theorem d_HoldQueueModel_lend_8 : decode c_HoldQueueModel_lend 8 = .ok (.invokevirtual 108, 3) := by decide +kernel
theorem d_HoldQueueModel_lend_11 : decode c_HoldQueueModel_lend 11 = .ok (.ifCond .ne 5, 3) := by decide +kernel
theorem d_HoldQueueModel_lend_14 : decode c_HoldQueueModel_lend 14 = .ok (.iconst 0, 1) := by decide +kernel
theorem d_HoldQueueModel_lend_15 : decode c_HoldQueueModel_lend 15 = .ok (.ireturn, 1) := by decide +kernel
theorem d_HoldQueueModel_lend_16 : decode c_HoldQueueModel_lend 16 = .ok (.aload_n 0, 1) := by decide +kernel
theorem d_HoldQueueModel_lend_17 : decode c_HoldQueueModel_lend 17 = .ok (.getfield 27, 3) := by decide +kernel
theorem d_HoldQueueModel_lend_20 : decode c_HoldQueueModel_lend 20 = .ok (.iload_n 1, 1) := by decide +kernel
theorem d_HoldQueueModel_lend_21 : decode c_HoldQueueModel_lend 21 = .ok (.iconst 1, 1) := by decide +kernel
theorem d_HoldQueueModel_lend_22 : decode c_HoldQueueModel_lend 22 = .ok (.iastore, 1) := by decide +kernel
theorem d_HoldQueueModel_lend_23 : decode c_HoldQueueModel_lend 23 = .ok (.iconst 1, 1) := by decide +kernel
theorem d_HoldQueueModel_lend_24 : decode c_HoldQueueModel_lend 24 = .ok (.ireturn, 1) := by decide +kernel
theorem d_HoldQueueModel_ends_0 : decode c_HoldQueueModel_ends 0 = .ok (.aload_n 0, 1) := by decide +kernel
theorem d_HoldQueueModel_ends_1 : decode c_HoldQueueModel_ends 1 = .ok (.getfield 51, 3) := by decide +kernel
theorem d_HoldQueueModel_ends_4 : decode c_HoldQueueModel_ends 4 = .ok (.iload_n 1, 1) := by decide +kernel
theorem d_HoldQueueModel_ends_5 : decode c_HoldQueueModel_ends 5 = .ok (.iaload, 1) := by decide +kernel
theorem d_HoldQueueModel_ends_6 : decode c_HoldQueueModel_ends 6 = .ok (.istore_n 3, 1) := by decide +kernel
theorem d_HoldQueueModel_ends_7 : decode c_HoldQueueModel_ends 7 = .ok (.aload_n 0, 1) := by decide +kernel
theorem d_HoldQueueModel_ends_8 : decode c_HoldQueueModel_ends 8 = .ok (.getfield 48, 3) := by decide +kernel
theorem d_HoldQueueModel_ends_11 : decode c_HoldQueueModel_ends 11 = .ok (.iload_n 1, 1) := by decide +kernel
theorem d_HoldQueueModel_ends_12 : decode c_HoldQueueModel_ends 12 = .ok (.iaload, 1) := by decide +kernel
theorem d_HoldQueueModel_ends_13 : decode c_HoldQueueModel_ends 13 = .ok (.iconst 2, 1) := by decide +kernel
theorem d_HoldQueueModel_ends_14 : decode c_HoldQueueModel_ends 14 = .ok (.if_icmp .ne 7, 3) := by decide +kernel
theorem d_HoldQueueModel_ends_17 : decode c_HoldQueueModel_ends 17 = .ok (.iconst 1, 1) := by decide +kernel
theorem d_HoldQueueModel_ends_18 : decode c_HoldQueueModel_ends 18 = .ok (.goto 4, 3) := by decide +kernel
theorem d_HoldQueueModel_ends_21 : decode c_HoldQueueModel_ends 21 = .ok (.iconst 0, 1) := by decide +kernel
theorem d_HoldQueueModel_ends_22 : decode c_HoldQueueModel_ends 22 = .ok (.istore 4, 2) := by decide +kernel
theorem d_HoldQueueModel_ends_24 : decode c_HoldQueueModel_ends 24 = .ok (.aload_n 0, 1) := by decide +kernel
theorem d_HoldQueueModel_ends_25 : decode c_HoldQueueModel_ends 25 = .ok (.getfield 48, 3) := by decide +kernel
theorem d_HoldQueueModel_ends_28 : decode c_HoldQueueModel_ends 28 = .ok (.iload_n 1, 1) := by decide +kernel
theorem d_HoldQueueModel_ends_29 : decode c_HoldQueueModel_ends 29 = .ok (.iload_n 2, 1) := by decide +kernel
theorem d_HoldQueueModel_ends_30 : decode c_HoldQueueModel_ends 30 = .ok (.iastore, 1) := by decide +kernel
theorem d_HoldQueueModel_ends_31 : decode c_HoldQueueModel_ends 31 = .ok (.aload_n 0, 1) := by decide +kernel
theorem d_HoldQueueModel_ends_32 : decode c_HoldQueueModel_ends 32 = .ok (.getfield 51, 3) := by decide +kernel
theorem d_HoldQueueModel_ends_35 : decode c_HoldQueueModel_ends 35 = .ok (.iload_n 1, 1) := by decide +kernel
theorem d_HoldQueueModel_ends_36 : decode c_HoldQueueModel_ends 36 = .ok (.iconst 0, 1) := by decide +kernel
theorem d_HoldQueueModel_ends_37 : decode c_HoldQueueModel_ends 37 = .ok (.iastore, 1) := by decide +kernel
theorem d_HoldQueueModel_ends_38 : decode c_HoldQueueModel_ends 38 = .ok (.iload_n 3, 1) := by decide +kernel
theorem d_HoldQueueModel_ends_39 : decode c_HoldQueueModel_ends 39 = .ok (.ifCond .le 10, 3) := by decide +kernel
theorem d_HoldQueueModel_ends_42 : decode c_HoldQueueModel_ends 42 = .ok (.aload_n 0, 1) := by decide +kernel
theorem d_HoldQueueModel_ends_43 : decode c_HoldQueueModel_ends 43 = .ok (.getfield 33, 3) := by decide +kernel
theorem d_HoldQueueModel_ends_46 : decode c_HoldQueueModel_ends 46 = .ok (.iload_n 3, 1) := by decide +kernel
theorem d_HoldQueueModel_ends_47 : decode c_HoldQueueModel_ends 47 = .ok (.iconst 0, 1) := by decide +kernel
theorem d_HoldQueueModel_ends_48 : decode c_HoldQueueModel_ends 48 = .ok (.iastore, 1) := by decide +kernel
theorem d_HoldQueueModel_ends_49 : decode c_HoldQueueModel_ends 49 = .ok (.iload 4, 2) := by decide +kernel
theorem d_HoldQueueModel_ends_51 : decode c_HoldQueueModel_ends 51 = .ok (.ifCond .eq 9, 3) := by decide +kernel
theorem d_HoldQueueModel_ends_54 : decode c_HoldQueueModel_ends 54 = .ok (.aload_n 0, 1) := by decide +kernel
theorem d_HoldQueueModel_ends_55 : decode c_HoldQueueModel_ends 55 = .ok (.iload_n 3, 1) := by decide +kernel
theorem d_HoldQueueModel_ends_56 : decode c_HoldQueueModel_ends 56 = .ok (.invokevirtual 99, 3) := by decide +kernel
theorem d_HoldQueueModel_ends_59 : decode c_HoldQueueModel_ends 59 = .ok (.pop, 1) := by decide +kernel
theorem d_HoldQueueModel_ends_60 : decode c_HoldQueueModel_ends 60 = .ok (.return_, 1) := by decide +kernel
theorem d_HoldQueueModel_cancel_0 : decode c_HoldQueueModel_cancel 0 = .ok (.aload_n 0, 1) := by decide +kernel
theorem d_HoldQueueModel_cancel_1 : decode c_HoldQueueModel_cancel 1 = .ok (.iconst 0, 1) := by decide +kernel
theorem d_HoldQueueModel_cancel_2 : decode c_HoldQueueModel_cancel 2 = .ok (.putfield 61, 3) := by decide +kernel
theorem d_HoldQueueModel_cancel_5 : decode c_HoldQueueModel_cancel 5 = .ok (.aload_n 0, 1) := by decide +kernel
theorem d_HoldQueueModel_cancel_6 : decode c_HoldQueueModel_cancel 6 = .ok (.iload_n 1, 1) := by decide +kernel
theorem d_HoldQueueModel_cancel_7 : decode c_HoldQueueModel_cancel 7 = .ok (.invokevirtual 102, 3) := by decide +kernel
theorem d_HoldQueueModel_cancel_10 : decode c_HoldQueueModel_cancel 10 = .ok (.ifCond .eq 11, 3) := by decide +kernel
theorem d_HoldQueueModel_cancel_13 : decode c_HoldQueueModel_cancel 13 = .ok (.aload_n 0, 1) := by decide +kernel
theorem d_HoldQueueModel_cancel_14 : decode c_HoldQueueModel_cancel 14 = .ok (.iload_n 1, 1) := by decide +kernel
theorem d_HoldQueueModel_cancel_15 : decode c_HoldQueueModel_cancel 15 = .ok (.invokevirtual 93, 3) := by decide +kernel
theorem d_HoldQueueModel_cancel_18 : decode c_HoldQueueModel_cancel 18 = .ok (.ifCond .ne 5, 3) := by decide +kernel
theorem d_HoldQueueModel_cancel_21 : decode c_HoldQueueModel_cancel 21 = .ok (.iconst 0, 1) := by decide +kernel
theorem d_HoldQueueModel_cancel_22 : decode c_HoldQueueModel_cancel 22 = .ok (.ireturn, 1) := by decide +kernel
theorem d_HoldQueueModel_cancel_23 : decode c_HoldQueueModel_cancel 23 = .ok (.aload_n 0, 1) := by decide +kernel
theorem d_HoldQueueModel_cancel_24 : decode c_HoldQueueModel_cancel 24 = .ok (.iload_n 1, 1) := by decide +kernel
theorem d_HoldQueueModel_cancel_25 : decode c_HoldQueueModel_cancel 25 = .ok (.iconst 5, 1) := by decide +kernel
theorem d_HoldQueueModel_cancel_26 : decode c_HoldQueueModel_cancel 26 = .ok (.invokevirtual 111, 3) := by decide +kernel
theorem d_HoldQueueModel_cancel_29 : decode c_HoldQueueModel_cancel 29 = .ok (.iconst 1, 1) := by decide +kernel
theorem d_HoldQueueModel_cancel_30 : decode c_HoldQueueModel_cancel 30 = .ok (.ireturn, 1) := by decide +kernel
theorem d_HoldQueueModel_tick_0 : decode c_HoldQueueModel_tick 0 = .ok (.aload_n 0, 1) := by decide +kernel
theorem d_HoldQueueModel_tick_1 : decode c_HoldQueueModel_tick 1 = .ok (.iconst 0, 1) := by decide +kernel
theorem d_HoldQueueModel_tick_2 : decode c_HoldQueueModel_tick 2 = .ok (.putfield 61, 3) := by decide +kernel
theorem d_HoldQueueModel_tick_5 : decode c_HoldQueueModel_tick 5 = .ok (.lload_n 1, 1) := by decide +kernel
theorem d_HoldQueueModel_tick_6 : decode c_HoldQueueModel_tick 6 = .ok (.aload_n 0, 1) := by decide +kernel
theorem d_HoldQueueModel_tick_7 : decode c_HoldQueueModel_tick 7 = .ok (.getfield 81, 3) := by decide +kernel
theorem d_HoldQueueModel_tick_10 : decode c_HoldQueueModel_tick 10 = .ok (.lcmp, 1) := by decide +kernel
theorem d_HoldQueueModel_tick_11 : decode c_HoldQueueModel_tick 11 = .ok (.ifCond .le 11, 3) := by decide +kernel
theorem d_HoldQueueModel_tick_14 : decode c_HoldQueueModel_tick 14 = .ok (.lload_n 1, 1) := by decide +kernel
theorem d_HoldQueueModel_tick_15 : decode c_HoldQueueModel_tick 15 = .ok (.ldc2_w 114, 3) := by decide +kernel
theorem d_HoldQueueModel_tick_18 : decode c_HoldQueueModel_tick 18 = .ok (.lcmp, 1) := by decide +kernel
theorem d_HoldQueueModel_tick_19 : decode c_HoldQueueModel_tick 19 = .ok (.ifCond .le 5, 3) := by decide +kernel
theorem d_HoldQueueModel_tick_22 : decode c_HoldQueueModel_tick 22 = .ok (.iconst (-1), 1) := by decide +kernel
theorem d_HoldQueueModel_tick_23 : decode c_HoldQueueModel_tick 23 = .ok (.ireturn, 1) := by decide +kernel
theorem d_HoldQueueModel_tick_24 : decode c_HoldQueueModel_tick 24 = .ok (.aload_n 0, 1) := by decide +kernel
theorem d_HoldQueueModel_tick_25 : decode c_HoldQueueModel_tick 25 = .ok (.lload_n 1, 1) := by decide +kernel
theorem d_HoldQueueModel_tick_26 : decode c_HoldQueueModel_tick 26 = .ok (.putfield 81, 3) := by decide +kernel
theorem d_HoldQueueModel_tick_29 : decode c_HoldQueueModel_tick 29 = .ok (.iconst 0, 1) := by decide +kernel
theorem d_HoldQueueModel_tick_30 : decode c_HoldQueueModel_tick 30 = .ok (.istore_n 3, 1) := by decide +kernel
theorem d_HoldQueueModel_tick_31 : decode c_HoldQueueModel_tick 31 = .ok (.iconst 1, 1) := by decide +kernel
theorem d_HoldQueueModel_tick_32 : decode c_HoldQueueModel_tick 32 = .ok (.istore 4, 2) := by decide +kernel
theorem d_HoldQueueModel_tick_34 : decode c_HoldQueueModel_tick 34 = .ok (.iload 4, 2) := by decide +kernel
theorem d_HoldQueueModel_tick_36 : decode c_HoldQueueModel_tick 36 = .ok (.aload_n 0, 1) := by decide +kernel
theorem d_HoldQueueModel_tick_37 : decode c_HoldQueueModel_tick 37 = .ok (.getfield 74, 3) := by decide +kernel
theorem d_HoldQueueModel_tick_40 : decode c_HoldQueueModel_tick 40 = .ok (.if_icmp .gt 45, 3) := by decide +kernel
theorem d_HoldQueueModel_tick_43 : decode c_HoldQueueModel_tick 43 = .ok (.aload_n 0, 1) := by decide +kernel
theorem d_HoldQueueModel_tick_44 : decode c_HoldQueueModel_tick 44 = .ok (.getfield 48, 3) := by decide +kernel
theorem d_HoldQueueModel_tick_47 : decode c_HoldQueueModel_tick 47 = .ok (.iload 4, 2) := by decide +kernel
theorem d_HoldQueueModel_tick_49 : decode c_HoldQueueModel_tick 49 = .ok (.iaload, 1) := by decide +kernel
theorem d_HoldQueueModel_tick_50 : decode c_HoldQueueModel_tick 50 = .ok (.iconst 2, 1) := by decide +kernel
theorem d_HoldQueueModel_tick_51 : decode c_HoldQueueModel_tick 51 = .ok (.if_icmp .ne 28, 3) := by decide +kernel
theorem d_HoldQueueModel_tick_54 : decode c_HoldQueueModel_tick 54 = .ok (.aload_n 0, 1) := by decide +kernel
theorem d_HoldQueueModel_tick_55 : decode c_HoldQueueModel_tick 55 = .ok (.getfield 58, 3) := by decide +kernel
theorem d_HoldQueueModel_tick_58 : decode c_HoldQueueModel_tick 58 = .ok (.iload 4, 2) := by decide +kernel
theorem d_HoldQueueModel_tick_60 : decode c_HoldQueueModel_tick 60 = .ok (.laload, 1) := by decide +kernel
theorem d_HoldQueueModel_tick_61 : decode c_HoldQueueModel_tick 61 = .ok (.aload_n 0, 1) := by decide +kernel
theorem d_HoldQueueModel_tick_62 : decode c_HoldQueueModel_tick 62 = .ok (.getfield 81, 3) := by decide +kernel
theorem d_HoldQueueModel_tick_65 : decode c_HoldQueueModel_tick 65 = .ok (.lcmp, 1) := by decide +kernel
theorem d_HoldQueueModel_tick_66 : decode c_HoldQueueModel_tick 66 = .ok (.ifCond .ge 13, 3) := by decide +kernel
theorem d_HoldQueueModel_tick_69 : decode c_HoldQueueModel_tick 69 = .ok (.aload_n 0, 1) := by decide +kernel
theorem d_HoldQueueModel_tick_70 : decode c_HoldQueueModel_tick 70 = .ok (.iload 4, 2) := by decide +kernel
theorem d_HoldQueueModel_tick_72 : decode c_HoldQueueModel_tick 72 = .ok (.iconst 4, 1) := by decide +kernel
theorem d_HoldQueueModel_tick_73 : decode c_HoldQueueModel_tick 73 = .ok (.invokevirtual 111, 3) := by decide +kernel
theorem d_HoldQueueModel_tick_76 : decode c_HoldQueueModel_tick 76 = .ok (.iinc 3 1, 3) := by decide +kernel
theorem d_HoldQueueModel_tick_79 : decode c_HoldQueueModel_tick 79 = .ok (.iinc 4 1, 3) := by decide +kernel
theorem d_HoldQueueModel_tick_82 : decode c_HoldQueueModel_tick 82 = .ok (.goto (-48), 3) := by decide +kernel
theorem d_HoldQueueModel_tick_85 : decode c_HoldQueueModel_tick 85 = .ok (.iload_n 3, 1) := by decide +kernel
theorem d_HoldQueueModel_tick_86 : decode c_HoldQueueModel_tick 86 = .ok (.ireturn, 1) := by decide +kernel
theorem d_HoldQueueModel_span_0 : decode c_HoldQueueModel_span 0 = .ok (.aload_n 0, 1) := by decide +kernel
theorem d_HoldQueueModel_span_1 : decode c_HoldQueueModel_span 1 = .ok (.iconst 0, 1) := by decide +kernel
theorem d_HoldQueueModel_span_2 : decode c_HoldQueueModel_span 2 = .ok (.putfield 61, 3) := by decide +kernel
theorem d_HoldQueueModel_span_5 : decode c_HoldQueueModel_span 5 = .ok (.iload_n 1, 1) := by decide +kernel
theorem d_HoldQueueModel_span_6 : decode c_HoldQueueModel_span 6 = .ok (.iconst 1, 1) := by decide +kernel
theorem d_HoldQueueModel_span_7 : decode c_HoldQueueModel_span 7 = .ok (.bipush 99, 2) := by decide +kernel
theorem d_HoldQueueModel_span_9 : decode c_HoldQueueModel_span 9 = .ok (.invokestatic 64, 3) := by decide +kernel
theorem d_HoldQueueModel_span_12 : decode c_HoldQueueModel_span 12 = .ok (.ifCond .ne 5, 3) := by decide +kernel
theorem d_HoldQueueModel_span_15 : decode c_HoldQueueModel_span 15 = .ok (.iconst (-1), 1) := by decide +kernel
theorem d_HoldQueueModel_span_16 : decode c_HoldQueueModel_span 16 = .ok (.ireturn, 1) := by decide +kernel
theorem d_HoldQueueModel_span_17 : decode c_HoldQueueModel_span 17 = .ok (.aload_n 0, 1) := by decide +kernel
theorem d_HoldQueueModel_span_18 : decode c_HoldQueueModel_span 18 = .ok (.getfield 20, 3) := by decide +kernel
theorem d_HoldQueueModel_span_21 : decode c_HoldQueueModel_span 21 = .ok (.istore_n 2, 1) := by decide +kernel
theorem d_HoldQueueModel_span_22 : decode c_HoldQueueModel_span 22 = .ok (.aload_n 0, 1) := by decide +kernel
theorem d_HoldQueueModel_span_23 : decode c_HoldQueueModel_span 23 = .ok (.iload_n 1, 1) := by decide +kernel
theorem d_HoldQueueModel_span_24 : decode c_HoldQueueModel_span 24 = .ok (.putfield 20, 3) := by decide +kernel
theorem d_HoldQueueModel_span_27 : decode c_HoldQueueModel_span 27 = .ok (.iload_n 2, 1) := by decide +kernel
theorem d_HoldQueueModel_span_28 : decode c_HoldQueueModel_span 28 = .ok (.ireturn, 1) := by decide +kernel
theorem d_HoldQueueModel_rank_0 : decode c_HoldQueueModel_rank 0 = .ok (.aload_n 0, 1) := by decide +kernel
theorem d_HoldQueueModel_rank_1 : decode c_HoldQueueModel_rank 1 = .ok (.iconst 0, 1) := by decide +kernel
theorem d_HoldQueueModel_rank_2 : decode c_HoldQueueModel_rank 2 = .ok (.putfield 61, 3) := by decide +kernel
theorem d_HoldQueueModel_rank_5 : decode c_HoldQueueModel_rank 5 = .ok (.aload_n 0, 1) := by decide +kernel
theorem d_HoldQueueModel_rank_6 : decode c_HoldQueueModel_rank 6 = .ok (.iload_n 1, 1) := by decide +kernel
theorem d_HoldQueueModel_rank_7 : decode c_HoldQueueModel_rank 7 = .ok (.invokevirtual 105, 3) := by decide +kernel
theorem d_HoldQueueModel_rank_10 : decode c_HoldQueueModel_rank 10 = .ok (.ifCond .ne 5, 3) := by decide +kernel
theorem d_HoldQueueModel_rank_13 : decode c_HoldQueueModel_rank 13 = .ok (.iconst (-1), 1) := by decide +kernel
theorem d_HoldQueueModel_rank_14 : decode c_HoldQueueModel_rank 14 = .ok (.ireturn, 1) := by decide +kernel
theorem d_HoldQueueModel_rank_15 : decode c_HoldQueueModel_rank 15 = .ok (.aload_n 0, 1) := by decide +kernel
theorem d_HoldQueueModel_rank_16 : decode c_HoldQueueModel_rank 16 = .ok (.getfield 45, 3) := by decide +kernel
theorem d_HoldQueueModel_rank_19 : decode c_HoldQueueModel_rank 19 = .ok (.iload_n 1, 1) := by decide +kernel
theorem d_HoldQueueModel_rank_20 : decode c_HoldQueueModel_rank 20 = .ok (.iload_n 2, 1) := by decide +kernel
theorem d_HoldQueueModel_rank_21 : decode c_HoldQueueModel_rank 21 = .ok (.iastore, 1) := by decide +kernel
theorem d_HoldQueueModel_rank_22 : decode c_HoldQueueModel_rank 22 = .ok (.aload_n 0, 1) := by decide +kernel
theorem d_HoldQueueModel_rank_23 : decode c_HoldQueueModel_rank 23 = .ok (.iload_n 1, 1) := by decide +kernel
theorem d_HoldQueueModel_rank_24 : decode c_HoldQueueModel_rank 24 = .ok (.invokevirtual 116, 3) := by decide +kernel
theorem d_HoldQueueModel_rank_27 : decode c_HoldQueueModel_rank 27 = .ok (.ireturn, 1) := by decide +kernel
theorem d_HoldQueueModel_order_0 : decode c_HoldQueueModel_order 0 = .ok (.aload_n 0, 1) := by decide +kernel
theorem d_HoldQueueModel_order_1 : decode c_HoldQueueModel_order 1 = .ok (.iconst 0, 1) := by decide +kernel
theorem d_HoldQueueModel_order_2 : decode c_HoldQueueModel_order 2 = .ok (.putfield 61, 3) := by decide +kernel
theorem d_HoldQueueModel_order_5 : decode c_HoldQueueModel_order 5 = .ok (.iconst 1, 1) := by decide +kernel
theorem d_HoldQueueModel_order_6 : decode c_HoldQueueModel_order 6 = .ok (.istore_n 3, 1) := by decide +kernel
theorem d_HoldQueueModel_order_7 : decode c_HoldQueueModel_order 7 = .ok (.iload_n 3, 1) := by decide +kernel
theorem d_HoldQueueModel_order_8 : decode c_HoldQueueModel_order 8 = .ok (.aload_n 0, 1) := by decide +kernel
theorem d_HoldQueueModel_order_9 : decode c_HoldQueueModel_order 9 = .ok (.getfield 74, 3) := by decide +kernel
theorem d_HoldQueueModel_order_12 : decode c_HoldQueueModel_order 12 = .ok (.if_icmp .gt 39, 3) := by decide +kernel
theorem d_HoldQueueModel_order_15 : decode c_HoldQueueModel_order 15 = .ok (.aload_n 0, 1) := by decide +kernel
theorem d_HoldQueueModel_order_16 : decode c_HoldQueueModel_order 16 = .ok (.getfield 48, 3) := by decide +kernel
theorem d_HoldQueueModel_order_19 : decode c_HoldQueueModel_order 19 = .ok (.iload_n 3, 1) := by decide +kernel
theorem d_HoldQueueModel_order_20 : decode c_HoldQueueModel_order 20 = .ok (.iaload, 1) := by decide +kernel
theorem d_HoldQueueModel_order_21 : decode c_HoldQueueModel_order 21 = .ok (.ifCond .ne 24, 3) := by decide +kernel
theorem d_HoldQueueModel_order_24 : decode c_HoldQueueModel_order 24 = .ok (.aload_n 0, 1) := by decide +kernel
theorem d_HoldQueueModel_order_25 : decode c_HoldQueueModel_order 25 = .ok (.getfield 39, 3) := by decide +kernel
theorem d_HoldQueueModel_order_28 : decode c_HoldQueueModel_order 28 = .ok (.iload_n 3, 1) := by decide +kernel
theorem d_HoldQueueModel_order_29 : decode c_HoldQueueModel_order 29 = .ok (.iaload, 1) := by decide +kernel
theorem d_HoldQueueModel_order_30 : decode c_HoldQueueModel_order 30 = .ok (.iload_n 1, 1) := by decide +kernel
theorem d_HoldQueueModel_order_31 : decode c_HoldQueueModel_order 31 = .ok (.if_icmp .ne 14, 3) := by decide +kernel
theorem d_HoldQueueModel_order_34 : decode c_HoldQueueModel_order 34 = .ok (.aload_n 0, 1) := by decide +kernel
theorem d_HoldQueueModel_order_35 : decode c_HoldQueueModel_order 35 = .ok (.iload_n 3, 1) := by decide +kernel
theorem d_HoldQueueModel_order_36 : decode c_HoldQueueModel_order 36 = .ok (.invokevirtual 116, 3) := by decide +kernel
theorem d_HoldQueueModel_order_39 : decode c_HoldQueueModel_order 39 = .ok (.iload_n 2, 1) := by decide +kernel
theorem d_HoldQueueModel_order_40 : decode c_HoldQueueModel_order 40 = .ok (.if_icmp .ne 5, 3) := by decide +kernel
theorem d_HoldQueueModel_order_43 : decode c_HoldQueueModel_order 43 = .ok (.iload_n 3, 1) := by decide +kernel
theorem d_HoldQueueModel_order_44 : decode c_HoldQueueModel_order 44 = .ok (.ireturn, 1) := by decide +kernel
theorem d_HoldQueueModel_order_45 : decode c_HoldQueueModel_order 45 = .ok (.iinc 3 1, 3) := by decide +kernel
theorem d_HoldQueueModel_order_48 : decode c_HoldQueueModel_order 48 = .ok (.goto (-41), 3) := by decide +kernel
theorem d_HoldQueueModel_order_51 : decode c_HoldQueueModel_order 51 = .ok (.iconst 0, 1) := by decide +kernel
theorem d_HoldQueueModel_order_52 : decode c_HoldQueueModel_order 52 = .ok (.ireturn, 1) := by decide +kernel
theorem d_HoldQueueModel_state_0 : decode c_HoldQueueModel_state 0 = .ok (.aload_n 0, 1) := by decide +kernel
theorem d_HoldQueueModel_state_1 : decode c_HoldQueueModel_state 1 = .ok (.iconst 0, 1) := by decide +kernel
theorem d_HoldQueueModel_state_2 : decode c_HoldQueueModel_state 2 = .ok (.putfield 61, 3) := by decide +kernel
theorem d_HoldQueueModel_state_5 : decode c_HoldQueueModel_state 5 = .ok (.aload_n 0, 1) := by decide +kernel
theorem d_HoldQueueModel_state_6 : decode c_HoldQueueModel_state 6 = .ok (.iload_n 1, 1) := by decide +kernel
theorem d_HoldQueueModel_state_7 : decode c_HoldQueueModel_state 7 = .ok (.invokevirtual 102, 3) := by decide +kernel
theorem d_HoldQueueModel_state_10 : decode c_HoldQueueModel_state 10 = .ok (.ifCond .ne 5, 3) := by decide +kernel
theorem d_HoldQueueModel_state_13 : decode c_HoldQueueModel_state 13 = .ok (.iconst (-1), 1) := by decide +kernel
theorem d_HoldQueueModel_state_14 : decode c_HoldQueueModel_state 14 = .ok (.ireturn, 1) := by decide +kernel
theorem d_HoldQueueModel_state_15 : decode c_HoldQueueModel_state 15 = .ok (.iload_n 2, 1) := by decide +kernel
theorem d_HoldQueueModel_state_16 : decode c_HoldQueueModel_state 16 = .ok (.tableswitch 61 0 2 #[28, 35, 42], 28) := by decide +kernel
theorem d_HoldQueueModel_state_44 : decode c_HoldQueueModel_state 44 = .ok (.aload_n 0, 1) := by decide +kernel
theorem d_HoldQueueModel_state_45 : decode c_HoldQueueModel_state 45 = .ok (.getfield 48, 3) := by decide +kernel
theorem d_HoldQueueModel_state_48 : decode c_HoldQueueModel_state 48 = .ok (.iload_n 1, 1) := by decide +kernel
theorem d_HoldQueueModel_state_49 : decode c_HoldQueueModel_state 49 = .ok (.iaload, 1) := by decide +kernel
theorem d_HoldQueueModel_state_50 : decode c_HoldQueueModel_state 50 = .ok (.ireturn, 1) := by decide +kernel
theorem d_HoldQueueModel_state_51 : decode c_HoldQueueModel_state 51 = .ok (.aload_n 0, 1) := by decide +kernel
theorem d_HoldQueueModel_state_52 : decode c_HoldQueueModel_state 52 = .ok (.getfield 51, 3) := by decide +kernel
theorem d_HoldQueueModel_state_55 : decode c_HoldQueueModel_state 55 = .ok (.iload_n 1, 1) := by decide +kernel
theorem d_HoldQueueModel_state_56 : decode c_HoldQueueModel_state 56 = .ok (.iaload, 1) := by decide +kernel
theorem d_HoldQueueModel_state_57 : decode c_HoldQueueModel_state 57 = .ok (.ireturn, 1) := by decide +kernel
theorem d_HoldQueueModel_state_58 : decode c_HoldQueueModel_state 58 = .ok (.aload_n 0, 1) := by decide +kernel
theorem d_HoldQueueModel_state_59 : decode c_HoldQueueModel_state 59 = .ok (.getfield 48, 3) := by decide +kernel
theorem d_HoldQueueModel_state_62 : decode c_HoldQueueModel_state 62 = .ok (.iload_n 1, 1) := by decide +kernel
theorem d_HoldQueueModel_state_63 : decode c_HoldQueueModel_state 63 = .ok (.iaload, 1) := by decide +kernel
theorem d_HoldQueueModel_state_64 : decode c_HoldQueueModel_state 64 = .ok (.ifCond .ne 11, 3) := by decide +kernel
theorem d_HoldQueueModel_state_67 : decode c_HoldQueueModel_state 67 = .ok (.aload_n 0, 1) := by decide +kernel
theorem d_HoldQueueModel_state_68 : decode c_HoldQueueModel_state 68 = .ok (.iload_n 1, 1) := by decide +kernel
theorem d_HoldQueueModel_state_69 : decode c_HoldQueueModel_state 69 = .ok (.invokevirtual 116, 3) := by decide +kernel
theorem d_HoldQueueModel_state_72 : decode c_HoldQueueModel_state 72 = .ok (.goto 4, 3) := by decide +kernel
theorem d_HoldQueueModel_state_75 : decode c_HoldQueueModel_state 75 = .ok (.iconst (-1), 1) := by decide +kernel
theorem d_HoldQueueModel_state_76 : decode c_HoldQueueModel_state 76 = .ok (.ireturn, 1) := by decide +kernel
theorem d_HoldQueueModel_state_77 : decode c_HoldQueueModel_state 77 = .ok (.iconst (-1), 1) := by decide +kernel
theorem d_HoldQueueModel_state_78 : decode c_HoldQueueModel_state 78 = .ok (.ireturn, 1) := by decide +kernel
theorem d_HoldQueueModel_where_0 : decode c_HoldQueueModel_where 0 = .ok (.aload_n 0, 1) := by decide +kernel
theorem d_HoldQueueModel_where_1 : decode c_HoldQueueModel_where 1 = .ok (.iconst 0, 1) := by decide +kernel
theorem d_HoldQueueModel_where_2 : decode c_HoldQueueModel_where 2 = .ok (.putfield 61, 3) := by decide +kernel
theorem d_HoldQueueModel_where_5 : decode c_HoldQueueModel_where 5 = .ok (.iload_n 1, 1) := by decide +kernel
theorem d_HoldQueueModel_where_6 : decode c_HoldQueueModel_where 6 = .ok (.iconst 1, 1) := by decide +kernel
theorem d_HoldQueueModel_where_7 : decode c_HoldQueueModel_where 7 = .ok (.aload_n 0, 1) := by decide +kernel
theorem d_HoldQueueModel_where_8 : decode c_HoldQueueModel_where 8 = .ok (.getfield 71, 3) := by decide +kernel
theorem d_HoldQueueModel_where_11 : decode c_HoldQueueModel_where 11 = .ok (.invokestatic 64, 3) := by decide +kernel
theorem d_HoldQueueModel_where_14 : decode c_HoldQueueModel_where 14 = .ok (.ifCond .ne 5, 3) := by decide +kernel
theorem d_HoldQueueModel_where_17 : decode c_HoldQueueModel_where 17 = .ok (.iconst (-1), 1) := by decide +kernel
theorem d_HoldQueueModel_where_18 : decode c_HoldQueueModel_where 18 = .ok (.ireturn, 1) := by decide +kernel
theorem d_HoldQueueModel_where_19 : decode c_HoldQueueModel_where 19 = .ok (.iload_n 2, 1) := by decide +kernel
theorem d_HoldQueueModel_where_20 : decode c_HoldQueueModel_where 20 = .ok (.tableswitch 49 0 2 #[28, 35, 42], 28) := by decide +kernel
theorem d_HoldQueueModel_where_48 : decode c_HoldQueueModel_where 48 = .ok (.aload_n 0, 1) := by decide +kernel
theorem d_HoldQueueModel_where_49 : decode c_HoldQueueModel_where 49 = .ok (.getfield 27, 3) := by decide +kernel
theorem d_HoldQueueModel_where_52 : decode c_HoldQueueModel_where 52 = .ok (.iload_n 1, 1) := by decide +kernel
theorem d_HoldQueueModel_where_53 : decode c_HoldQueueModel_where 53 = .ok (.iaload, 1) := by decide +kernel
theorem d_HoldQueueModel_where_54 : decode c_HoldQueueModel_where 54 = .ok (.ireturn, 1) := by decide +kernel
theorem d_HoldQueueModel_where_55 : decode c_HoldQueueModel_where 55 = .ok (.aload_n 0, 1) := by decide +kernel
theorem d_HoldQueueModel_where_56 : decode c_HoldQueueModel_where 56 = .ok (.getfield 30, 3) := by decide +kernel
theorem d_HoldQueueModel_where_59 : decode c_HoldQueueModel_where 59 = .ok (.iload_n 1, 1) := by decide +kernel
theorem d_HoldQueueModel_where_60 : decode c_HoldQueueModel_where 60 = .ok (.iaload, 1) := by decide +kernel
theorem d_HoldQueueModel_where_61 : decode c_HoldQueueModel_where 61 = .ok (.ireturn, 1) := by decide +kernel
theorem d_HoldQueueModel_where_62 : decode c_HoldQueueModel_where 62 = .ok (.aload_n 0, 1) := by decide +kernel
theorem d_HoldQueueModel_where_63 : decode c_HoldQueueModel_where 63 = .ok (.getfield 33, 3) := by decide +kernel
theorem d_HoldQueueModel_where_66 : decode c_HoldQueueModel_where 66 = .ok (.iload_n 1, 1) := by decide +kernel
theorem d_HoldQueueModel_where_67 : decode c_HoldQueueModel_where 67 = .ok (.iaload, 1) := by decide +kernel
theorem d_HoldQueueModel_where_68 : decode c_HoldQueueModel_where 68 = .ok (.ireturn, 1) := by decide +kernel
theorem d_HoldQueueModel_where_69 : decode c_HoldQueueModel_where 69 = .ok (.iconst (-1), 1) := by decide +kernel
theorem d_HoldQueueModel_where_70 : decode c_HoldQueueModel_where 70 = .ok (.ireturn, 1) := by decide +kernel
theorem d_java_util_Arrays_fill_0 : decode c_java_util_Arrays_fill 0 = .ok (.iconst 0, 1) := by decide +kernel
theorem d_java_util_Arrays_fill_1 : decode c_java_util_Arrays_fill 1 = .ok (.istore_n 2, 1) := by decide +kernel
theorem d_java_util_Arrays_fill_2 : decode c_java_util_Arrays_fill 2 = .ok (.aload_n 0, 1) := by decide +kernel
theorem d_java_util_Arrays_fill_3 : decode c_java_util_Arrays_fill 3 = .ok (.arraylength, 1) := by decide +kernel
theorem d_java_util_Arrays_fill_4 : decode c_java_util_Arrays_fill 4 = .ok (.istore_n 3, 1) := by decide +kernel
theorem d_java_util_Arrays_fill_5 : decode c_java_util_Arrays_fill 5 = .ok (.iload_n 2, 1) := by decide +kernel
theorem d_java_util_Arrays_fill_6 : decode c_java_util_Arrays_fill 6 = .ok (.iload_n 3, 1) := by decide +kernel
theorem d_java_util_Arrays_fill_7 : decode c_java_util_Arrays_fill 7 = .ok (.if_icmp .ge 13, 3) := by decide +kernel
theorem d_java_util_Arrays_fill_10 : decode c_java_util_Arrays_fill 10 = .ok (.aload_n 0, 1) := by decide +kernel
theorem d_java_util_Arrays_fill_11 : decode c_java_util_Arrays_fill 11 = .ok (.iload_n 2, 1) := by decide +kernel
theorem d_java_util_Arrays_fill_12 : decode c_java_util_Arrays_fill 12 = .ok (.iload_n 1, 1) := by decide +kernel
theorem d_java_util_Arrays_fill_13 : decode c_java_util_Arrays_fill 13 = .ok (.iastore, 1) := by decide +kernel
theorem d_java_util_Arrays_fill_14 : decode c_java_util_Arrays_fill 14 = .ok (.iinc 2 1, 3) := by decide +kernel
theorem d_java_util_Arrays_fill_17 : decode c_java_util_Arrays_fill 17 = .ok (.goto (-12), 3) := by decide +kernel
theorem d_java_util_Arrays_fill_20 : decode c_java_util_Arrays_fill 20 = .ok (.return_, 1) := by decide +kernel
theorem d_HoldQueueLaw_law_0 : decode c_HoldQueueLaw_law 0 = .ok (.new 7, 3) := by decide +kernel
theorem d_HoldQueueLaw_law_3 : decode c_HoldQueueLaw_law 3 = .ok (.dup, 1) := by decide +kernel
theorem d_HoldQueueLaw_law_4 : decode c_HoldQueueLaw_law 4 = .ok (.invokespecial 9, 3) := by decide +kernel
theorem d_HoldQueueLaw_law_7 : decode c_HoldQueueLaw_law 7 = .ok (.astore_n 1, 1) := by decide +kernel
theorem d_HoldQueueLaw_law_8 : decode c_HoldQueueLaw_law 8 = .ok (.new 10, 3) := by decide +kernel
theorem d_HoldQueueLaw_law_11 : decode c_HoldQueueLaw_law 11 = .ok (.dup, 1) := by decide +kernel
theorem d_HoldQueueLaw_law_12 : decode c_HoldQueueLaw_law 12 = .ok (.invokespecial 12, 3) := by decide +kernel
theorem d_HoldQueueLaw_law_15 : decode c_HoldQueueLaw_law 15 = .ok (.astore_n 2, 1) := by decide +kernel
theorem d_HoldQueueLaw_law_16 : decode c_HoldQueueLaw_law 16 = .ok (.iconst 0, 1) := by decide +kernel
theorem d_HoldQueueLaw_law_17 : decode c_HoldQueueLaw_law 17 = .ok (.istore_n 3, 1) := by decide +kernel
theorem d_HoldQueueLaw_law_18 : decode c_HoldQueueLaw_law 18 = .ok (.iload_n 3, 1) := by decide +kernel
theorem d_HoldQueueLaw_law_19 : decode c_HoldQueueLaw_law 19 = .ok (.aload_n 0, 1) := by decide +kernel
theorem d_HoldQueueLaw_law_20 : decode c_HoldQueueLaw_law 20 = .ok (.arraylength, 1) := by decide +kernel
theorem d_HoldQueueLaw_law_21 : decode c_HoldQueueLaw_law 21 = .ok (.iconst 5, 1) := by decide +kernel
theorem d_HoldQueueLaw_law_22 : decode c_HoldQueueLaw_law 22 = .ok (.isub, 1) := by decide +kernel
theorem d_HoldQueueLaw_law_23 : decode c_HoldQueueLaw_law 23 = .ok (.if_icmp .gt 686, 3) := by decide +kernel
theorem d_HoldQueueLaw_law_26 : decode c_HoldQueueLaw_law 26 = .ok (.aload_n 0, 1) := by decide +kernel
theorem d_HoldQueueLaw_law_27 : decode c_HoldQueueLaw_law 27 = .ok (.iload_n 3, 1) := by decide +kernel
theorem d_HoldQueueLaw_law_28 : decode c_HoldQueueLaw_law 28 = .ok (.iaload, 1) := by decide +kernel
theorem d_HoldQueueLaw_law_29 : decode c_HoldQueueLaw_law 29 = .ok (.bipush 31, 2) := by decide +kernel
theorem d_HoldQueueLaw_law_31 : decode c_HoldQueueLaw_law 31 = .ok (.iand, 1) := by decide +kernel
theorem d_HoldQueueLaw_law_32 : decode c_HoldQueueLaw_law 32 = .ok (.tableswitch 671 0 16 #[84, 107, 140, 189, 242, 275, 338, 371, 394, 417, 440, 463, 516, 539, 572, 605, 638], 84) := by decide +kernel
theorem d_HoldQueueLaw_law_116 : decode c_HoldQueueLaw_law 116 = .ok (.aload_n 1, 1) := by decide +kernel
theorem d_HoldQueueLaw_law_117 : decode c_HoldQueueLaw_law 117 = .ok (.aload_n 0, 1) := by decide +kernel
theorem d_HoldQueueLaw_law_118 : decode c_HoldQueueLaw_law 118 = .ok (.iload_n 3, 1) := by decide +kernel
theorem d_HoldQueueLaw_law_119 : decode c_HoldQueueLaw_law 119 = .ok (.iconst 1, 1) := by decide +kernel
theorem d_HoldQueueLaw_law_120 : decode c_HoldQueueLaw_law 120 = .ok (.iadd, 1) := by decide +kernel
theorem d_HoldQueueLaw_law_121 : decode c_HoldQueueLaw_law 121 = .ok (.iaload, 1) := by decide +kernel
theorem d_HoldQueueLaw_law_122 : decode c_HoldQueueLaw_law 122 = .ok (.invokevirtual 13, 3) := by decide +kernel
theorem d_HoldQueueLaw_law_125 : decode c_HoldQueueLaw_law 125 = .ok (.pop, 1) := by decide +kernel
theorem d_HoldQueueLaw_law_126 : decode c_HoldQueueLaw_law 126 = .ok (.aload_n 2, 1) := by decide +kernel
theorem d_HoldQueueLaw_law_127 : decode c_HoldQueueLaw_law 127 = .ok (.aload_n 0, 1) := by decide +kernel
theorem d_HoldQueueLaw_law_128 : decode c_HoldQueueLaw_law 128 = .ok (.iload_n 3, 1) := by decide +kernel
theorem d_HoldQueueLaw_law_129 : decode c_HoldQueueLaw_law 129 = .ok (.iconst 1, 1) := by decide +kernel
theorem d_HoldQueueLaw_law_130 : decode c_HoldQueueLaw_law 130 = .ok (.iadd, 1) := by decide +kernel
theorem d_HoldQueueLaw_law_131 : decode c_HoldQueueLaw_law 131 = .ok (.iaload, 1) := by decide +kernel
theorem d_HoldQueueLaw_law_132 : decode c_HoldQueueLaw_law 132 = .ok (.invokevirtual 17, 3) := by decide +kernel
theorem d_HoldQueueLaw_law_135 : decode c_HoldQueueLaw_law 135 = .ok (.pop, 1) := by decide +kernel
theorem d_HoldQueueLaw_law_136 : decode c_HoldQueueLaw_law 136 = .ok (.goto 567, 3) := by decide +kernel
theorem d_HoldQueueLaw_law_139 : decode c_HoldQueueLaw_law 139 = .ok (.aload_n 1, 1) := by decide +kernel
theorem d_HoldQueueLaw_law_140 : decode c_HoldQueueLaw_law 140 = .ok (.aload_n 0, 1) := by decide +kernel
theorem d_HoldQueueLaw_law_141 : decode c_HoldQueueLaw_law 141 = .ok (.iload_n 3, 1) := by decide +kernel
theorem d_HoldQueueLaw_law_142 : decode c_HoldQueueLaw_law 142 = .ok (.iconst 1, 1) := by decide +kernel
theorem d_HoldQueueLaw_law_143 : decode c_HoldQueueLaw_law 143 = .ok (.iadd, 1) := by decide +kernel
theorem d_HoldQueueLaw_law_144 : decode c_HoldQueueLaw_law 144 = .ok (.iaload, 1) := by decide +kernel
theorem d_HoldQueueLaw_law_145 : decode c_HoldQueueLaw_law 145 = .ok (.aload_n 0, 1) := by decide +kernel
theorem d_HoldQueueLaw_law_146 : decode c_HoldQueueLaw_law 146 = .ok (.iload_n 3, 1) := by decide +kernel
theorem d_HoldQueueLaw_law_147 : decode c_HoldQueueLaw_law 147 = .ok (.iconst 2, 1) := by decide +kernel
theorem d_HoldQueueLaw_law_148 : decode c_HoldQueueLaw_law 148 = .ok (.iadd, 1) := by decide +kernel
theorem d_HoldQueueLaw_law_149 : decode c_HoldQueueLaw_law 149 = .ok (.iaload, 1) := by decide +kernel
theorem d_HoldQueueLaw_law_150 : decode c_HoldQueueLaw_law 150 = .ok (.invokevirtual 18, 3) := by decide +kernel
theorem d_HoldQueueLaw_law_153 : decode c_HoldQueueLaw_law 153 = .ok (.pop, 1) := by decide +kernel
theorem d_HoldQueueLaw_law_154 : decode c_HoldQueueLaw_law 154 = .ok (.aload_n 2, 1) := by decide +kernel
theorem d_HoldQueueLaw_law_155 : decode c_HoldQueueLaw_law 155 = .ok (.aload_n 0, 1) := by decide +kernel
theorem d_HoldQueueLaw_law_156 : decode c_HoldQueueLaw_law 156 = .ok (.iload_n 3, 1) := by decide +kernel
theorem d_HoldQueueLaw_law_157 : decode c_HoldQueueLaw_law 157 = .ok (.iconst 1, 1) := by decide +kernel
theorem d_HoldQueueLaw_law_158 : decode c_HoldQueueLaw_law 158 = .ok (.iadd, 1) := by decide +kernel
theorem d_HoldQueueLaw_law_159 : decode c_HoldQueueLaw_law 159 = .ok (.iaload, 1) := by decide +kernel
theorem d_HoldQueueLaw_law_160 : decode c_HoldQueueLaw_law 160 = .ok (.aload_n 0, 1) := by decide +kernel
theorem d_HoldQueueLaw_law_161 : decode c_HoldQueueLaw_law 161 = .ok (.iload_n 3, 1) := by decide +kernel
theorem d_HoldQueueLaw_law_162 : decode c_HoldQueueLaw_law 162 = .ok (.iconst 2, 1) := by decide +kernel
theorem d_HoldQueueLaw_law_163 : decode c_HoldQueueLaw_law 163 = .ok (.iadd, 1) := by decide +kernel
theorem d_HoldQueueLaw_law_164 : decode c_HoldQueueLaw_law 164 = .ok (.iaload, 1) := by decide +kernel
theorem d_HoldQueueLaw_law_165 : decode c_HoldQueueLaw_law 165 = .ok (.invokevirtual 22, 3) := by decide +kernel
theorem d_HoldQueueLaw_law_168 : decode c_HoldQueueLaw_law 168 = .ok (.pop, 1) := by decide +kernel
theorem d_HoldQueueLaw_law_169 : decode c_HoldQueueLaw_law 169 = .ok (.goto 534, 3) := by decide +kernel
theorem d_HoldQueueLaw_law_172 : decode c_HoldQueueLaw_law 172 = .ok (.aload_n 1, 1) := by decide +kernel
