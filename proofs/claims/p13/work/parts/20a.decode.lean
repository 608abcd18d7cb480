theorem d_HoldQueue_init_0 : decode c_HoldQueue_init 0 = .ok (.aload_n 0, 1) := by decide +kernel
theorem d_HoldQueue_init_1 : decode c_HoldQueue_init 1 = .ok (.invokespecial 1, 3) := by decide +kernel
theorem d_HoldQueue_init_4 : decode c_HoldQueue_init 4 = .ok (.aload_n 0, 1) := by decide +kernel
theorem d_HoldQueue_init_5 : decode c_HoldQueue_init 5 = .ok (.bipush 31, 2) := by decide +kernel
theorem d_HoldQueue_init_7 : decode c_HoldQueue_init 7 = .ok (.newarray .int, 2) := by decide +kernel
theorem d_HoldQueue_init_9 : decode c_HoldQueue_init 9 = .ok (.putfield 9, 3) := by decide +kernel
theorem d_HoldQueue_init_12 : decode c_HoldQueue_init 12 = .ok (.aload_n 0, 1) := by decide +kernel
theorem d_HoldQueue_init_13 : decode c_HoldQueue_init 13 = .ok (.iconst 0, 1) := by decide +kernel
theorem d_HoldQueue_init_14 : decode c_HoldQueue_init 14 = .ok (.putfield 13, 3) := by decide +kernel
theorem d_HoldQueue_init_17 : decode c_HoldQueue_init 17 = .ok (.aload_n 0, 1) := by decide +kernel
theorem d_HoldQueue_init_18 : decode c_HoldQueue_init 18 = .ok (.iconst 4, 1) := by decide +kernel
theorem d_HoldQueue_init_19 : decode c_HoldQueue_init 19 = .ok (.newarray .boolean, 2) := by decide +kernel
theorem d_HoldQueue_init_21 : decode c_HoldQueue_init 21 = .ok (.putfield 17, 3) := by decide +kernel
theorem d_HoldQueue_init_24 : decode c_HoldQueue_init 24 = .ok (.aload_n 0, 1) := by decide +kernel
theorem d_HoldQueue_init_25 : decode c_HoldQueue_init 25 = .ok (.bipush 40, 2) := by decide +kernel
theorem d_HoldQueue_init_27 : decode c_HoldQueue_init 27 = .ok (.newarray .int, 2) := by decide +kernel
theorem d_HoldQueue_init_29 : decode c_HoldQueue_init 29 = .ok (.putfield 21, 3) := by decide +kernel
theorem d_HoldQueue_init_32 : decode c_HoldQueue_init 32 = .ok (.aload_n 0, 1) := by decide +kernel
theorem d_HoldQueue_init_33 : decode c_HoldQueue_init 33 = .ok (.new 24, 3) := by decide +kernel
theorem d_HoldQueue_init_36 : decode c_HoldQueue_init 36 = .ok (.dup, 1) := by decide +kernel
theorem d_HoldQueue_init_37 : decode c_HoldQueue_init 37 = .ok (.invokespecial 26, 3) := by decide +kernel
theorem d_HoldQueue_init_40 : decode c_HoldQueue_init 40 = .ok (.putfield 27, 3) := by decide +kernel
theorem d_HoldQueue_init_43 : decode c_HoldQueue_init 43 = .ok (.aload_n 0, 1) := by decide +kernel
theorem d_HoldQueue_init_44 : decode c_HoldQueue_init 44 = .ok (.new 31, 3) := by decide +kernel
theorem d_HoldQueue_init_47 : decode c_HoldQueue_init 47 = .ok (.dup, 1) := by decide +kernel
theorem d_HoldQueue_init_48 : decode c_HoldQueue_init 48 = .ok (.invokespecial 33, 3) := by decide +kernel
theorem d_HoldQueue_init_51 : decode c_HoldQueue_init 51 = .ok (.putfield 34, 3) := by decide +kernel
theorem d_HoldQueue_init_54 : decode c_HoldQueue_init 54 = .ok (.aload_n 0, 1) := by decide +kernel
theorem d_HoldQueue_init_55 : decode c_HoldQueue_init 55 = .ok (.lconst 0, 1) := by decide +kernel
theorem d_HoldQueue_init_56 : decode c_HoldQueue_init 56 = .ok (.putfield 38, 3) := by decide +kernel
theorem d_HoldQueue_init_59 : decode c_HoldQueue_init 59 = .ok (.aload_n 0, 1) := by decide +kernel
theorem d_HoldQueue_init_60 : decode c_HoldQueue_init 60 = .ok (.bipush 7, 2) := by decide +kernel
theorem d_HoldQueue_init_62 : decode c_HoldQueue_init 62 = .ok (.putfield 42, 3) := by decide +kernel
theorem d_HoldQueue_init_65 : decode c_HoldQueue_init 65 = .ok (.aload_n 0, 1) := by decide +kernel
theorem d_HoldQueue_init_66 : decode c_HoldQueue_init 66 = .ok (.getfield 21, 3) := by decide +kernel
theorem d_HoldQueue_init_69 : decode c_HoldQueue_init 69 = .ok (.iconst 3, 1) := by decide +kernel
theorem d_HoldQueue_init_70 : decode c_HoldQueue_init 70 = .ok (.invokestatic 45, 3) := by decide +kernel
theorem d_HoldQueue_init_73 : decode c_HoldQueue_init 73 = .ok (.return_, 1) := by decide +kernel
theorem d_HoldQueue_record_0 : decode c_HoldQueue_record 0 = .ok (.iload_n 1, 1) := by decide +kernel
theorem d_HoldQueue_record_1 : decode c_HoldQueue_record 1 = .ok (.invokestatic 51, 3) := by decide +kernel
theorem d_HoldQueue_record_4 : decode c_HoldQueue_record 4 = .ok (.ifCond .eq 12, 3) := by decide +kernel
theorem d_HoldQueue_record_7 : decode c_HoldQueue_record 7 = .ok (.aload_n 0, 1) := by decide +kernel
theorem d_HoldQueue_record_8 : decode c_HoldQueue_record 8 = .ok (.getfield 13, 3) := by decide +kernel
theorem d_HoldQueue_record_11 : decode c_HoldQueue_record 11 = .ok (.bipush 30, 2) := by decide +kernel
theorem d_HoldQueue_record_13 : decode c_HoldQueue_record 13 = .ok (.if_icmp .lt 5, 3) := by decide +kernel
theorem d_HoldQueue_record_16 : decode c_HoldQueue_record 16 = .ok (.iconst 0, 1) := by decide +kernel
theorem d_HoldQueue_record_17 : decode c_HoldQueue_record 17 = .ok (.ireturn, 1) := by decide +kernel
theorem d_HoldQueue_record_18 : decode c_HoldQueue_record 18 = .ok (.aload_n 0, 1) := by decide +kernel
theorem d_HoldQueue_record_19 : decode c_HoldQueue_record 19 = .ok (.dup, 1) := by decide +kernel
theorem d_HoldQueue_record_20 : decode c_HoldQueue_record 20 = .ok (.getfield 13, 3) := by decide +kernel
theorem d_HoldQueue_record_23 : decode c_HoldQueue_record 23 = .ok (.iconst 1, 1) := by decide +kernel
theorem d_HoldQueue_record_24 : decode c_HoldQueue_record 24 = .ok (.iadd, 1) := by decide +kernel
theorem d_HoldQueue_record_25 : decode c_HoldQueue_record 25 = .ok (.putfield 13, 3) := by decide +kernel
theorem d_HoldQueue_record_28 : decode c_HoldQueue_record 28 = .ok (.aload_n 0, 1) := by decide +kernel
theorem d_HoldQueue_record_29 : decode c_HoldQueue_record 29 = .ok (.getfield 9, 3) := by decide +kernel
theorem d_HoldQueue_record_32 : decode c_HoldQueue_record 32 = .ok (.aload_n 0, 1) := by decide +kernel
theorem d_HoldQueue_record_33 : decode c_HoldQueue_record 33 = .ok (.getfield 13, 3) := by decide +kernel
theorem d_HoldQueue_record_36 : decode c_HoldQueue_record 36 = .ok (.iload_n 1, 1) := by decide +kernel
theorem d_HoldQueue_record_37 : decode c_HoldQueue_record 37 = .ok (.iastore, 1) := by decide +kernel
theorem d_HoldQueue_record_38 : decode c_HoldQueue_record 38 = .ok (.aload_n 0, 1) := by decide +kernel
theorem d_HoldQueue_record_39 : decode c_HoldQueue_record 39 = .ok (.getfield 13, 3) := by decide +kernel
theorem d_HoldQueue_record_42 : decode c_HoldQueue_record 42 = .ok (.ireturn, 1) := by decide +kernel
theorem d_HoldQueue_copy_0 : decode c_HoldQueue_copy 0 = .ok (.aload_n 0, 1) := by decide +kernel
theorem d_HoldQueue_copy_1 : decode c_HoldQueue_copy 1 = .ok (.iload_n 1, 1) := by decide +kernel
theorem d_HoldQueue_copy_2 : decode c_HoldQueue_copy 2 = .ok (.invokevirtual 55, 3) := by decide +kernel
theorem d_HoldQueue_copy_5 : decode c_HoldQueue_copy 5 = .ok (.ifCond .eq 20, 3) := by decide +kernel
theorem d_HoldQueue_copy_8 : decode c_HoldQueue_copy 8 = .ok (.iload_n 2, 1) := by decide +kernel
theorem d_HoldQueue_copy_9 : decode c_HoldQueue_copy 9 = .ok (.invokestatic 58, 3) := by decide +kernel
theorem d_HoldQueue_copy_12 : decode c_HoldQueue_copy 12 = .ok (.ifCond .eq 13, 3) := by decide +kernel
theorem d_HoldQueue_copy_15 : decode c_HoldQueue_copy 15 = .ok (.aload_n 0, 1) := by decide +kernel
theorem d_HoldQueue_copy_16 : decode c_HoldQueue_copy 16 = .ok (.getfield 27, 3) := by decide +kernel
theorem d_HoldQueue_copy_19 : decode c_HoldQueue_copy 19 = .ok (.invokevirtual 61, 3) := by decide +kernel
theorem d_HoldQueue_copy_22 : decode c_HoldQueue_copy 22 = .ok (.ifCond .eq 5, 3) := by decide +kernel
theorem d_HoldQueue_copy_25 : decode c_HoldQueue_copy 25 = .ok (.iconst 0, 1) := by decide +kernel
theorem d_HoldQueue_copy_26 : decode c_HoldQueue_copy 26 = .ok (.ireturn, 1) := by decide +kernel
theorem d_HoldQueue_copy_27 : decode c_HoldQueue_copy 27 = .ok (.aload_n 0, 1) := by decide +kernel
theorem d_HoldQueue_copy_28 : decode c_HoldQueue_copy 28 = .ok (.getfield 27, 3) := by decide +kernel
theorem d_HoldQueue_copy_31 : decode c_HoldQueue_copy 31 = .ok (.iload_n 1, 1) := by decide +kernel
theorem d_HoldQueue_copy_32 : decode c_HoldQueue_copy 32 = .ok (.iload_n 2, 1) := by decide +kernel
theorem d_HoldQueue_copy_33 : decode c_HoldQueue_copy 33 = .ok (.invokevirtual 65, 3) := by decide +kernel
theorem d_HoldQueue_copy_36 : decode c_HoldQueue_copy 36 = .ok (.ireturn, 1) := by decide +kernel
theorem d_HoldQueue_bar_0 : decode c_HoldQueue_bar 0 = .ok (.iload_n 1, 1) := by decide +kernel
theorem d_HoldQueue_bar_1 : decode c_HoldQueue_bar 1 = .ok (.invokestatic 51, 3) := by decide +kernel
theorem d_HoldQueue_bar_4 : decode c_HoldQueue_bar 4 = .ok (.ifCond .ne 5, 3) := by decide +kernel
theorem d_HoldQueue_bar_7 : decode c_HoldQueue_bar 7 = .ok (.iconst 0, 1) := by decide +kernel
theorem d_HoldQueue_bar_8 : decode c_HoldQueue_bar 8 = .ok (.ireturn, 1) := by decide +kernel
theorem d_HoldQueue_bar_9 : decode c_HoldQueue_bar 9 = .ok (.aload_n 0, 1) := by decide +kernel
theorem d_HoldQueue_bar_10 : decode c_HoldQueue_bar 10 = .ok (.getfield 17, 3) := by decide +kernel
theorem d_HoldQueue_bar_13 : decode c_HoldQueue_bar 13 = .ok (.iload_n 1, 1) := by decide +kernel
theorem d_HoldQueue_bar_14 : decode c_HoldQueue_bar 14 = .ok (.baload, 1) := by decide +kernel
theorem d_HoldQueue_bar_15 : decode c_HoldQueue_bar 15 = .ok (.istore_n 3, 1) := by decide +kernel
theorem d_HoldQueue_bar_16 : decode c_HoldQueue_bar 16 = .ok (.aload_n 0, 1) := by decide +kernel
theorem d_HoldQueue_bar_17 : decode c_HoldQueue_bar 17 = .ok (.getfield 17, 3) := by decide +kernel
theorem d_HoldQueue_bar_20 : decode c_HoldQueue_bar 20 = .ok (.iload_n 1, 1) := by decide +kernel
theorem d_HoldQueue_bar_21 : decode c_HoldQueue_bar 21 = .ok (.iload_n 2, 1) := by decide +kernel
theorem d_HoldQueue_bar_22 : decode c_HoldQueue_bar 22 = .ok (.bastore, 1) := by decide +kernel
theorem d_HoldQueue_bar_23 : decode c_HoldQueue_bar 23 = .ok (.iload_n 3, 1) := by decide +kernel
theorem d_HoldQueue_bar_24 : decode c_HoldQueue_bar 24 = .ok (.ireturn, 1) := by decide +kernel
theorem d_HoldQueue_hold_0 : decode c_HoldQueue_hold 0 = .ok (.iload_n 1, 1) := by decide +kernel
theorem d_HoldQueue_hold_1 : decode c_HoldQueue_hold 1 = .ok (.invokestatic 69, 3) := by decide +kernel
theorem d_HoldQueue_hold_4 : decode c_HoldQueue_hold 4 = .ok (.ifCond .eq 18, 3) := by decide +kernel
theorem d_HoldQueue_hold_7 : decode c_HoldQueue_hold 7 = .ok (.aload_n 0, 1) := by decide +kernel
theorem d_HoldQueue_hold_8 : decode c_HoldQueue_hold 8 = .ok (.iload_n 2, 1) := by decide +kernel
theorem d_HoldQueue_hold_9 : decode c_HoldQueue_hold 9 = .ok (.invokevirtual 55, 3) := by decide +kernel
theorem d_HoldQueue_hold_12 : decode c_HoldQueue_hold 12 = .ok (.ifCond .eq 10, 3) := by decide +kernel
theorem d_HoldQueue_hold_15 : decode c_HoldQueue_hold 15 = .ok (.iload_n 3, 1) := by decide +kernel
theorem d_HoldQueue_hold_16 : decode c_HoldQueue_hold 16 = .ok (.invokestatic 58, 3) := by decide +kernel
theorem d_HoldQueue_hold_19 : decode c_HoldQueue_hold 19 = .ok (.ifCond .ne 5, 3) := by decide +kernel
theorem d_HoldQueue_hold_22 : decode c_HoldQueue_hold 22 = .ok (.iconst 0, 1) := by decide +kernel
theorem d_HoldQueue_hold_23 : decode c_HoldQueue_hold 23 = .ok (.ireturn, 1) := by decide +kernel
theorem d_HoldQueue_hold_24 : decode c_HoldQueue_hold 24 = .ok (.aload_n 0, 1) := by decide +kernel
theorem d_HoldQueue_hold_25 : decode c_HoldQueue_hold 25 = .ok (.getfield 17, 3) := by decide +kernel
theorem d_HoldQueue_hold_28 : decode c_HoldQueue_hold 28 = .ok (.aload_n 0, 1) := by decide +kernel
theorem d_HoldQueue_hold_29 : decode c_HoldQueue_hold 29 = .ok (.getfield 9, 3) := by decide +kernel
theorem d_HoldQueue_hold_32 : decode c_HoldQueue_hold 32 = .ok (.iload_n 2, 1) := by decide +kernel
theorem d_HoldQueue_hold_33 : decode c_HoldQueue_hold 33 = .ok (.iaload, 1) := by decide +kernel
theorem d_HoldQueue_hold_34 : decode c_HoldQueue_hold 34 = .ok (.baload, 1) := by decide +kernel
theorem d_HoldQueue_hold_35 : decode c_HoldQueue_hold 35 = .ok (.ifCond .ne 25, 3) := by decide +kernel
theorem d_HoldQueue_hold_38 : decode c_HoldQueue_hold 38 = .ok (.aload_n 0, 1) := by decide +kernel
theorem d_HoldQueue_hold_39 : decode c_HoldQueue_hold 39 = .ok (.getfield 34, 3) := by decide +kernel
theorem d_HoldQueue_hold_42 : decode c_HoldQueue_hold 42 = .ok (.iload_n 1, 1) := by decide +kernel
theorem d_HoldQueue_hold_43 : decode c_HoldQueue_hold 43 = .ok (.iload_n 2, 1) := by decide +kernel
theorem d_HoldQueue_hold_44 : decode c_HoldQueue_hold 44 = .ok (.invokevirtual 72, 3) := by decide +kernel
theorem d_HoldQueue_hold_47 : decode c_HoldQueue_hold 47 = .ok (.ifCond .ne 13, 3) := by decide +kernel
theorem d_HoldQueue_hold_50 : decode c_HoldQueue_hold 50 = .ok (.aload_n 0, 1) := by decide +kernel
theorem d_HoldQueue_hold_51 : decode c_HoldQueue_hold 51 = .ok (.getfield 34, 3) := by decide +kernel
theorem d_HoldQueue_hold_54 : decode c_HoldQueue_hold 54 = .ok (.invokevirtual 76, 3) := by decide +kernel
theorem d_HoldQueue_hold_57 : decode c_HoldQueue_hold 57 = .ok (.ifCond .eq 5, 3) := by decide +kernel
theorem d_HoldQueue_hold_60 : decode c_HoldQueue_hold 60 = .ok (.iconst 0, 1) := by decide +kernel
theorem d_HoldQueue_hold_61 : decode c_HoldQueue_hold 61 = .ok (.ireturn, 1) := by decide +kernel
theorem d_HoldQueue_hold_62 : decode c_HoldQueue_hold 62 = .ok (.aload_n 0, 1) := by decide +kernel
theorem d_HoldQueue_hold_63 : decode c_HoldQueue_hold 63 = .ok (.getfield 34, 3) := by decide +kernel
theorem d_HoldQueue_hold_66 : decode c_HoldQueue_hold 66 = .ok (.iload_n 1, 1) := by decide +kernel
theorem d_HoldQueue_hold_67 : decode c_HoldQueue_hold 67 = .ok (.invokevirtual 77, 3) := by decide +kernel
theorem d_HoldQueue_hold_70 : decode c_HoldQueue_hold 70 = .ok (.aload_n 0, 1) := by decide +kernel
theorem d_HoldQueue_hold_71 : decode c_HoldQueue_hold 71 = .ok (.getfield 21, 3) := by decide +kernel
theorem d_HoldQueue_hold_74 : decode c_HoldQueue_hold 74 = .ok (.iload_n 1, 1) := by decide +kernel
theorem d_HoldQueue_hold_75 : decode c_HoldQueue_hold 75 = .ok (.iaload, 1) := by decide +kernel
theorem d_HoldQueue_hold_76 : decode c_HoldQueue_hold 76 = .ok (.if_icmp .lt 5, 3) := by decide +kernel
theorem d_HoldQueue_hold_79 : decode c_HoldQueue_hold 79 = .ok (.iconst (-1), 1) := by decide +kernel
theorem d_HoldQueue_hold_80 : decode c_HoldQueue_hold 80 = .ok (.ireturn, 1) := by decide +kernel
theorem d_HoldQueue_hold_81 : decode c_HoldQueue_hold 81 = .ok (.aload_n 0, 1) := by decide +kernel
theorem d_HoldQueue_hold_82 : decode c_HoldQueue_hold 82 = .ok (.getfield 34, 3) := by decide +kernel
theorem d_HoldQueue_hold_85 : decode c_HoldQueue_hold 85 = .ok (.iload_n 1, 1) := by decide +kernel
theorem d_HoldQueue_hold_86 : decode c_HoldQueue_hold 86 = .ok (.iload_n 2, 1) := by decide +kernel
theorem d_HoldQueue_hold_87 : decode c_HoldQueue_hold 87 = .ok (.iload_n 3, 1) := by decide +kernel
theorem d_HoldQueue_hold_88 : decode c_HoldQueue_hold 88 = .ok (.iload 4, 2) := by decide +kernel
theorem d_HoldQueue_hold_90 : decode c_HoldQueue_hold 90 = .ok (.invokevirtual 81, 3) := by decide +kernel
theorem d_HoldQueue_hold_93 : decode c_HoldQueue_hold 93 = .ok (.istore 5, 2) := by decide +kernel
theorem d_HoldQueue_hold_95 : decode c_HoldQueue_hold 95 = .ok (.aload_n 0, 1) := by decide +kernel
theorem d_HoldQueue_hold_96 : decode c_HoldQueue_hold 96 = .ok (.getfield 27, 3) := by decide +kernel
theorem d_HoldQueue_hold_99 : decode c_HoldQueue_hold 99 = .ok (.iload_n 2, 1) := by decide +kernel
theorem d_HoldQueue_hold_100 : decode c_HoldQueue_hold 100 = .ok (.invokevirtual 84, 3) := by decide +kernel
theorem d_HoldQueue_hold_103 : decode c_HoldQueue_hold 103 = .ok (.istore 6, 2) := by decide +kernel
theorem d_HoldQueue_hold_105 : decode c_HoldQueue_hold 105 = .ok (.iload 6, 2) := by decide +kernel
theorem d_HoldQueue_hold_107 : decode c_HoldQueue_hold 107 = .ok (.ifCond .eq 10, 3) := by decide +kernel
theorem d_HoldQueue_hold_110 : decode c_HoldQueue_hold 110 = .ok (.aload_n 0, 1) := by decide +kernel
theorem d_HoldQueue_hold_111 : decode c_HoldQueue_hold 111 = .ok (.iload 6, 2) := by decide +kernel
theorem d_HoldQueue_hold_113 : decode c_HoldQueue_hold 113 = .ok (.invokevirtual 87, 3) := by decide +kernel
theorem d_HoldQueue_hold_116 : decode c_HoldQueue_hold 116 = .ok (.pop, 1) := by decide +kernel
theorem d_HoldQueue_hold_117 : decode c_HoldQueue_hold 117 = .ok (.iload 5, 2) := by decide +kernel
theorem d_HoldQueue_hold_119 : decode c_HoldQueue_hold 119 = .ok (.ireturn, 1) := by decide +kernel
theorem d_HoldQueue_most_0 : decode c_HoldQueue_most 0 = .ok (.iload_n 1, 1) := by decide +kernel
theorem d_HoldQueue_most_1 : decode c_HoldQueue_most 1 = .ok (.invokestatic 69, 3) := by decide +kernel
theorem d_HoldQueue_most_4 : decode c_HoldQueue_most 4 = .ok (.ifCond .eq 13, 3) := by decide +kernel
theorem d_HoldQueue_most_7 : decode c_HoldQueue_most 7 = .ok (.iload_n 2, 1) := by decide +kernel
theorem d_HoldQueue_most_8 : decode c_HoldQueue_most 8 = .ok (.ifCond .lt 9, 3) := by decide +kernel
theorem d_HoldQueue_most_11 : decode c_HoldQueue_most 11 = .ok (.iload_n 2, 1) := by decide +kernel
theorem d_HoldQueue_most_12 : decode c_HoldQueue_most 12 = .ok (.bipush 20, 2) := by decide +kernel
theorem d_HoldQueue_most_14 : decode c_HoldQueue_most 14 = .ok (.if_icmp .le 5, 3) := by decide +kernel
theorem d_HoldQueue_most_17 : decode c_HoldQueue_most 17 = .ok (.iconst (-1), 1) := by decide +kernel
theorem d_HoldQueue_most_18 : decode c_HoldQueue_most 18 = .ok (.ireturn, 1) := by decide +kernel
theorem d_HoldQueue_most_19 : decode c_HoldQueue_most 19 = .ok (.aload_n 0, 1) := by decide +kernel
theorem d_HoldQueue_most_20 : decode c_HoldQueue_most 20 = .ok (.getfield 21, 3) := by decide +kernel
theorem d_HoldQueue_most_23 : decode c_HoldQueue_most 23 = .ok (.iload_n 1, 1) := by decide +kernel
theorem d_HoldQueue_most_24 : decode c_HoldQueue_most 24 = .ok (.iaload, 1) := by decide +kernel
theorem d_HoldQueue_most_25 : decode c_HoldQueue_most 25 = .ok (.istore_n 3, 1) := by decide +kernel
theorem d_HoldQueue_most_26 : decode c_HoldQueue_most 26 = .ok (.aload_n 0, 1) := by decide +kernel
theorem d_HoldQueue_most_27 : decode c_HoldQueue_most 27 = .ok (.getfield 21, 3) := by decide +kernel
theorem d_HoldQueue_most_30 : decode c_HoldQueue_most 30 = .ok (.iload_n 1, 1) := by decide +kernel
theorem d_HoldQueue_most_31 : decode c_HoldQueue_most 31 = .ok (.iload_n 2, 1) := by decide +kernel
theorem d_HoldQueue_most_32 : decode c_HoldQueue_most 32 = .ok (.iastore, 1) := by decide +kernel
theorem d_HoldQueue_most_33 : decode c_HoldQueue_most 33 = .ok (.iload_n 3, 1) := by decide +kernel
theorem d_HoldQueue_most_34 : decode c_HoldQueue_most 34 = .ok (.ireturn, 1) := by decide +kernel
theorem d_HoldQueue_suspend_0 : decode c_HoldQueue_suspend 0 = .ok (.aload_n 0, 1) := by decide +kernel
theorem d_HoldQueue_suspend_1 : decode c_HoldQueue_suspend 1 = .ok (.getfield 34, 3) := by decide +kernel
theorem d_HoldQueue_suspend_4 : decode c_HoldQueue_suspend 4 = .ok (.iload_n 1, 1) := by decide +kernel
theorem d_HoldQueue_suspend_5 : decode c_HoldQueue_suspend 5 = .ok (.iconst 0, 1) := by decide +kernel
theorem d_HoldQueue_suspend_6 : decode c_HoldQueue_suspend 6 = .ok (.invokevirtual 90, 3) := by decide +kernel
theorem d_HoldQueue_suspend_9 : decode c_HoldQueue_suspend 9 = .ok (.ifCond .ne 5, 3) := by decide +kernel
theorem d_HoldQueue_suspend_12 : decode c_HoldQueue_suspend 12 = .ok (.iconst 0, 1) := by decide +kernel
theorem d_HoldQueue_suspend_13 : decode c_HoldQueue_suspend 13 = .ok (.ireturn, 1) := by decide +kernel
theorem d_HoldQueue_suspend_14 : decode c_HoldQueue_suspend 14 = .ok (.aload_n 0, 1) := by decide +kernel
theorem d_HoldQueue_suspend_15 : decode c_HoldQueue_suspend 15 = .ok (.getfield 34, 3) := by decide +kernel
theorem d_HoldQueue_suspend_18 : decode c_HoldQueue_suspend 18 = .ok (.getfield 93, 3) := by decide +kernel
theorem d_HoldQueue_suspend_21 : decode c_HoldQueue_suspend 21 = .ok (.iload_n 1, 1) := by decide +kernel
theorem d_HoldQueue_suspend_22 : decode c_HoldQueue_suspend 22 = .ok (.lload_n 2, 1) := by decide +kernel
theorem d_HoldQueue_suspend_23 : decode c_HoldQueue_suspend 23 = .ok (.lastore, 1) := by decide +kernel
theorem d_HoldQueue_suspend_24 : decode c_HoldQueue_suspend 24 = .ok (.iconst 1, 1) := by decide +kernel
theorem d_HoldQueue_suspend_25 : decode c_HoldQueue_suspend 25 = .ok (.ireturn, 1) := by decide +kernel
theorem d_HoldQueue_back_0 : decode c_HoldQueue_back 0 = .ok (.aload_n 0, 1) := by decide +kernel
theorem d_HoldQueue_back_1 : decode c_HoldQueue_back 1 = .ok (.getfield 27, 3) := by decide +kernel
theorem d_HoldQueue_back_4 : decode c_HoldQueue_back 4 = .ok (.iload_n 1, 1) := by decide +kernel
theorem d_HoldQueue_back_5 : decode c_HoldQueue_back 5 = .ok (.iconst 1, 1) := by decide +kernel
theorem d_HoldQueue_back_6 : decode c_HoldQueue_back 6 = .ok (.invokevirtual 97, 3) := by decide +kernel
theorem d_HoldQueue_back_9 : decode c_HoldQueue_back 9 = .ok (.ifCond .eq 10, 3) := by decide +kernel
theorem d_HoldQueue_back_12 : decode c_HoldQueue_back 12 = .ok (.iload_n 2, 1) := by decide +kernel
theorem d_HoldQueue_back_13 : decode c_HoldQueue_back 13 = .ok (.invokestatic 58, 3) := by decide +kernel
theorem d_HoldQueue_back_16 : decode c_HoldQueue_back 16 = .ok (.ifCond .ne 5, 3) := by decide +kernel
theorem d_HoldQueue_back_19 : decode c_HoldQueue_back 19 = .ok (.iconst (-1), 1) := by decide +kernel
theorem d_HoldQueue_back_20 : decode c_HoldQueue_back 20 = .ok (.ireturn, 1) := by decide +kernel
theorem d_HoldQueue_back_21 : decode c_HoldQueue_back 21 = .ok (.aload_n 0, 1) := by decide +kernel
theorem d_HoldQueue_back_22 : decode c_HoldQueue_back 22 = .ok (.getfield 27, 3) := by decide +kernel
theorem d_HoldQueue_back_25 : decode c_HoldQueue_back 25 = .ok (.getfield 98, 3) := by decide +kernel
theorem d_HoldQueue_back_28 : decode c_HoldQueue_back 28 = .ok (.iload_n 1, 1) := by decide +kernel
theorem d_HoldQueue_back_29 : decode c_HoldQueue_back 29 = .ok (.iload_n 2, 1) := by decide +kernel
theorem d_HoldQueue_back_30 : decode c_HoldQueue_back 30 = .ok (.iastore, 1) := by decide +kernel
theorem d_HoldQueue_back_31 : decode c_HoldQueue_back 31 = .ok (.aload_n 0, 1) := by decide +kernel
theorem d_HoldQueue_back_32 : decode c_HoldQueue_back 32 = .ok (.iload_n 1, 1) := by decide +kernel
theorem d_HoldQueue_back_33 : decode c_HoldQueue_back 33 = .ok (.invokevirtual 87, 3) := by decide +kernel
theorem d_HoldQueue_back_36 : decode c_HoldQueue_back 36 = .ok (.ireturn, 1) := by decide +kernel
theorem d_HoldQueue_arrive_0 : decode c_HoldQueue_arrive 0 = .ok (.aload_n 0, 1) := by decide +kernel
theorem d_HoldQueue_arrive_1 : decode c_HoldQueue_arrive 1 = .ok (.getfield 27, 3) := by decide +kernel
theorem d_HoldQueue_arrive_4 : decode c_HoldQueue_arrive 4 = .ok (.iload_n 1, 1) := by decide +kernel
theorem d_HoldQueue_arrive_5 : decode c_HoldQueue_arrive 5 = .ok (.iconst 2, 1) := by decide +kernel
theorem d_HoldQueue_arrive_6 : decode c_HoldQueue_arrive 6 = .ok (.invokevirtual 97, 3) := by decide +kernel
theorem d_HoldQueue_arrive_9 : decode c_HoldQueue_arrive 9 = .ok (.ifCond .ne 5, 3) := by decide +kernel
theorem d_HoldQueue_arrive_12 : decode c_HoldQueue_arrive 12 = .ok (.iconst (-1), 1) := by decide +kernel
theorem d_HoldQueue_arrive_13 : decode c_HoldQueue_arrive 13 = .ok (.ireturn, 1) := by decide +kernel
theorem d_HoldQueue_arrive_14 : decode c_HoldQueue_arrive 14 = .ok (.aload_n 0, 1) := by decide +kernel
theorem d_HoldQueue_arrive_15 : decode c_HoldQueue_arrive 15 = .ok (.getfield 27, 3) := by decide +kernel
theorem d_HoldQueue_arrive_18 : decode c_HoldQueue_arrive 18 = .ok (.getfield 101, 3) := by decide +kernel
theorem d_HoldQueue_arrive_21 : decode c_HoldQueue_arrive 21 = .ok (.iload_n 1, 1) := by decide +kernel
theorem d_HoldQueue_arrive_22 : decode c_HoldQueue_arrive 22 = .ok (.iaload, 1) := by decide +kernel
theorem d_HoldQueue_arrive_23 : decode c_HoldQueue_arrive 23 = .ok (.istore_n 2, 1) := by decide +kernel
theorem d_HoldQueue_arrive_24 : decode c_HoldQueue_arrive 24 = .ok (.aload_n 0, 1) := by decide +kernel
theorem d_HoldQueue_arrive_25 : decode c_HoldQueue_arrive 25 = .ok (.getfield 34, 3) := by decide +kernel
theorem d_HoldQueue_arrive_28 : decode c_HoldQueue_arrive 28 = .ok (.iload_n 2, 1) := by decide +kernel
theorem d_HoldQueue_arrive_29 : decode c_HoldQueue_arrive 29 = .ok (.iconst 1, 1) := by decide +kernel
theorem d_HoldQueue_arrive_30 : decode c_HoldQueue_arrive 30 = .ok (.invokevirtual 90, 3) := by decide +kernel
theorem d_HoldQueue_arrive_33 : decode c_HoldQueue_arrive 33 = .ok (.ifCond .eq 11, 3) := by decide +kernel
theorem d_HoldQueue_arrive_36 : decode c_HoldQueue_arrive 36 = .ok (.aload_n 0, 1) := by decide +kernel
theorem d_HoldQueue_arrive_37 : decode c_HoldQueue_arrive 37 = .ok (.iload_n 1, 1) := by decide +kernel
theorem d_HoldQueue_arrive_38 : decode c_HoldQueue_arrive 38 = .ok (.iload_n 2, 1) := by decide +kernel
theorem d_HoldQueue_arrive_39 : decode c_HoldQueue_arrive 39 = .ok (.invokevirtual 104, 3) := by decide +kernel
theorem d_HoldQueue_arrive_42 : decode c_HoldQueue_arrive 42 = .ok (.iconst 1, 1) := by decide +kernel
theorem d_HoldQueue_arrive_43 : decode c_HoldQueue_arrive 43 = .ok (.ireturn, 1) := by decide +kernel
theorem d_HoldQueue_arrive_44 : decode c_HoldQueue_arrive 44 = .ok (.aload_n 0, 1) := by decide +kernel
theorem d_HoldQueue_arrive_45 : decode c_HoldQueue_arrive 45 = .ok (.iload_n 1, 1) := by decide +kernel
theorem d_HoldQueue_arrive_46 : decode c_HoldQueue_arrive 46 = .ok (.iload_n 2, 1) := by decide +kernel
theorem d_HoldQueue_arrive_47 : decode c_HoldQueue_arrive 47 = .ok (.invokevirtual 108, 3) := by decide +kernel
theorem d_HoldQueue_arrive_50 : decode c_HoldQueue_arrive 50 = .ok (.aload_n 0, 1) := by decide +kernel
theorem d_HoldQueue_arrive_51 : decode c_HoldQueue_arrive 51 = .ok (.iload_n 1, 1) := by decide +kernel
theorem d_HoldQueue_arrive_52 : decode c_HoldQueue_arrive 52 = .ok (.invokevirtual 87, 3) := by decide +kernel
theorem d_HoldQueue_arrive_55 : decode c_HoldQueue_arrive 55 = .ok (.pop, 1) := by decide +kernel
theorem d_HoldQueue_arrive_56 : decode c_HoldQueue_arrive 56 = .ok (.iconst 0, 1) := by decide +kernel
theorem d_HoldQueue_arrive_57 : decode c_HoldQueue_arrive 57 = .ok (.ireturn, 1) := by decide +kernel
theorem d_HoldQueue_pick_0 : decode c_HoldQueue_pick 0 = .ok (.aload_n 0, 1) := by decide +kernel
theorem d_HoldQueue_pick_1 : decode c_HoldQueue_pick 1 = .ok (.getfield 34, 3) := by decide +kernel
theorem d_HoldQueue_pick_4 : decode c_HoldQueue_pick 4 = .ok (.iload_n 1, 1) := by decide +kernel
theorem d_HoldQueue_pick_5 : decode c_HoldQueue_pick 5 = .ok (.iconst 2, 1) := by decide +kernel
theorem d_HoldQueue_pick_6 : decode c_HoldQueue_pick 6 = .ok (.invokevirtual 90, 3) := by decide +kernel
theorem d_HoldQueue_pick_9 : decode c_HoldQueue_pick 9 = .ok (.ifCond .ne 5, 3) := by decide +kernel
theorem d_HoldQueue_pick_12 : decode c_HoldQueue_pick 12 = .ok (.iconst 0, 1) := by decide +kernel
theorem d_HoldQueue_pick_13 : decode c_HoldQueue_pick 13 = .ok (.ireturn, 1) := by decide +kernel
theorem d_HoldQueue_pick_14 : decode c_HoldQueue_pick 14 = .ok (.aload_n 0, 1) := by decide +kernel
theorem d_HoldQueue_pick_15 : decode c_HoldQueue_pick 15 = .ok (.getfield 34, 3) := by decide +kernel
theorem d_HoldQueue_pick_18 : decode c_HoldQueue_pick 18 = .ok (.getfield 111, 3) := by decide +kernel
theorem d_HoldQueue_pick_21 : decode c_HoldQueue_pick 21 = .ok (.iload_n 1, 1) := by decide +kernel
theorem d_HoldQueue_pick_22 : decode c_HoldQueue_pick 22 = .ok (.iaload, 1) := by decide +kernel
theorem d_HoldQueue_pick_23 : decode c_HoldQueue_pick 23 = .ok (.istore_n 2, 1) := by decide +kernel
theorem d_HoldQueue_pick_24 : decode c_HoldQueue_pick 24 = .ok (.aload_n 0, 1) := by decide +kernel
theorem d_HoldQueue_pick_25 : decode c_HoldQueue_pick 25 = .ok (.getfield 34, 3) := by decide +kernel
theorem d_HoldQueue_pick_28 : decode c_HoldQueue_pick 28 = .ok (.getfield 114, 3) := by decide +kernel
theorem d_HoldQueue_pick_31 : decode c_HoldQueue_pick 31 = .ok (.iload_n 1, 1) := by decide +kernel
theorem d_HoldQueue_pick_32 : decode c_HoldQueue_pick 32 = .ok (.iconst 3, 1) := by decide +kernel
theorem d_HoldQueue_pick_33 : decode c_HoldQueue_pick 33 = .ok (.iastore, 1) := by decide +kernel
theorem d_HoldQueue_pick_34 : decode c_HoldQueue_pick 34 = .ok (.aload_n 0, 1) := by decide +kernel
theorem d_HoldQueue_pick_35 : decode c_HoldQueue_pick 35 = .ok (.iload_n 2, 1) := by decide +kernel
theorem d_HoldQueue_pick_36 : decode c_HoldQueue_pick 36 = .ok (.iload_n 1, 1) := by decide +kernel
theorem d_HoldQueue_pick_37 : decode c_HoldQueue_pick 37 = .ok (.invokevirtual 108, 3) := by decide +kernel
theorem d_HoldQueue_pick_40 : decode c_HoldQueue_pick 40 = .ok (.aload_n 0, 1) := by decide +kernel
theorem d_HoldQueue_pick_41 : decode c_HoldQueue_pick 41 = .ok (.getfield 27, 3) := by decide +kernel
theorem d_HoldQueue_pick_44 : decode c_HoldQueue_pick 44 = .ok (.getfield 117, 3) := by decide +kernel
theorem d_HoldQueue_pick_47 : decode c_HoldQueue_pick 47 = .ok (.iload_n 2, 1) := by decide +kernel
theorem d_HoldQueue_pick_48 : decode c_HoldQueue_pick 48 = .ok (.iconst 1, 1) := by decide +kernel
theorem d_HoldQueue_pick_49 : decode c_HoldQueue_pick 49 = .ok (.iastore, 1) := by decide +kernel
theorem d_HoldQueue_pick_50 : decode c_HoldQueue_pick 50 = .ok (.iload_n 2, 1) := by decide +kernel
theorem d_HoldQueue_pick_51 : decode c_HoldQueue_pick 51 = .ok (.ireturn, 1) := by decide +kernel
theorem d_HoldQueue_lend_0 : decode c_HoldQueue_lend 0 = .ok (.aload_n 0, 1) := by decide +kernel
theorem d_HoldQueue_lend_1 : decode c_HoldQueue_lend 1 = .ok (.getfield 27, 3) := by decide +kernel
theorem d_HoldQueue_lend_4 : decode c_HoldQueue_lend 4 = .ok (.iload_n 1, 1) := by decide +kernel
theorem d_HoldQueue_lend_5 : decode c_HoldQueue_lend 5 = .ok (.iconst 0, 1) := by decide +kernel
theorem d_HoldQueue_lend_6 : decode c_HoldQueue_lend 6 = .ok (.invokevirtual 97, 3) := by decide +kernel
theorem d_HoldQueue_lend_9 : decode c_HoldQueue_lend 9 = .ok (.ifCond .ne 5, 3) := by decide +kernel
theorem d_HoldQueue_lend_12 : decode c_HoldQueue_lend 12 = .ok (.iconst 0, 1) := by decide +kernel
theorem d_HoldQueue_lend_13 : decode c_HoldQueue_lend 13 = .ok (.ireturn, 1) := by decide +kernel
theorem d_HoldQueue_lend_14 : decode c_HoldQueue_lend 14 = .ok (.aload_n 0, 1) := by decide +kernel
theorem d_HoldQueue_lend_15 : decode c_HoldQueue_lend 15 = .ok (.getfield 27, 3) := by decide +kernel
theorem d_HoldQueue_lend_18 : decode c_HoldQueue_lend 18 = .ok (.getfield 117, 3) := by decide +kernel
theorem d_HoldQueue_lend_21 : decode c_HoldQueue_lend 21 = .ok (.iload_n 1, 1) := by decide +kernel
theorem d_HoldQueue_lend_22 : decode c_HoldQueue_lend 22 = .ok (.iconst 1, 1) := by decide +kernel
theorem d_HoldQueue_lend_23 : decode c_HoldQueue_lend 23 = .ok (.iastore, 1) := by decide +kernel
theorem d_HoldQueue_lend_24 : decode c_HoldQueue_lend 24 = .ok (.iconst 1, 1) := by decide +kernel
theorem d_HoldQueue_lend_25 : decode c_HoldQueue_lend 25 = .ok (.ireturn, 1) := by decide +kernel
theorem d_HoldQueue_cancel_0 : decode c_HoldQueue_cancel 0 = .ok (.aload_n 0, 1) := by decide +kernel
theorem d_HoldQueue_cancel_1 : decode c_HoldQueue_cancel 1 = .ok (.getfield 34, 3) := by decide +kernel
theorem d_HoldQueue_cancel_4 : decode c_HoldQueue_cancel 4 = .ok (.iload_n 1, 1) := by decide +kernel
theorem d_HoldQueue_cancel_5 : decode c_HoldQueue_cancel 5 = .ok (.invokevirtual 118, 3) := by decide +kernel
theorem d_HoldQueue_cancel_8 : decode c_HoldQueue_cancel 8 = .ok (.ifCond .ne 5, 3) := by decide +kernel
theorem d_HoldQueue_cancel_11 : decode c_HoldQueue_cancel 11 = .ok (.iconst 0, 1) := by decide +kernel
theorem d_HoldQueue_cancel_12 : decode c_HoldQueue_cancel 12 = .ok (.ireturn, 1) := by decide +kernel
theorem d_HoldQueue_cancel_13 : decode c_HoldQueue_cancel 13 = .ok (.aload_n 0, 1) := by decide +kernel
theorem d_HoldQueue_cancel_14 : decode c_HoldQueue_cancel 14 = .ok (.getfield 34, 3) := by decide +kernel
theorem d_HoldQueue_cancel_17 : decode c_HoldQueue_cancel 17 = .ok (.iload_n 1, 1) := by decide +kernel
theorem d_HoldQueue_cancel_18 : decode c_HoldQueue_cancel 18 = .ok (.iconst 2, 1) := by decide +kernel
theorem d_HoldQueue_cancel_19 : decode c_HoldQueue_cancel 19 = .ok (.invokevirtual 90, 3) := by decide +kernel
theorem d_HoldQueue_cancel_22 : decode c_HoldQueue_cancel 22 = .ok (.istore_n 2, 1) := by decide +kernel
theorem d_HoldQueue_cancel_23 : decode c_HoldQueue_cancel 23 = .ok (.aload_n 0, 1) := by decide +kernel
theorem d_HoldQueue_cancel_24 : decode c_HoldQueue_cancel 24 = .ok (.getfield 34, 3) := by decide +kernel
theorem d_HoldQueue_cancel_27 : decode c_HoldQueue_cancel 27 = .ok (.getfield 114, 3) := by decide +kernel
theorem d_HoldQueue_cancel_30 : decode c_HoldQueue_cancel 30 = .ok (.iload_n 1, 1) := by decide +kernel
theorem d_HoldQueue_cancel_31 : decode c_HoldQueue_cancel 31 = .ok (.iconst 5, 1) := by decide +kernel
theorem d_HoldQueue_cancel_32 : decode c_HoldQueue_cancel 32 = .ok (.iastore, 1) := by decide +kernel
theorem d_HoldQueue_cancel_33 : decode c_HoldQueue_cancel 33 = .ok (.iload_n 2, 1) := by decide +kernel
theorem d_HoldQueue_cancel_34 : decode c_HoldQueue_cancel 34 = .ok (.ifCond .eq 8, 3) := by decide +kernel
theorem d_HoldQueue_cancel_37 : decode c_HoldQueue_cancel 37 = .ok (.aload_n 0, 1) := by decide +kernel
theorem d_HoldQueue_cancel_38 : decode c_HoldQueue_cancel 38 = .ok (.iload_n 1, 1) := by decide +kernel
theorem d_HoldQueue_cancel_39 : decode c_HoldQueue_cancel 39 = .ok (.invokevirtual 121, 3) := by decide +kernel
theorem d_HoldQueue_cancel_42 : decode c_HoldQueue_cancel 42 = .ok (.iconst 1, 1) := by decide +kernel
theorem d_HoldQueue_cancel_43 : decode c_HoldQueue_cancel 43 = .ok (.ireturn, 1) := by decide +kernel
theorem d_HoldQueue_tick_0 : decode c_HoldQueue_tick 0 = .ok (.lload_n 1, 1) := by decide +kernel
theorem d_HoldQueue_tick_1 : decode c_HoldQueue_tick 1 = .ok (.aload_n 0, 1) := by decide +kernel
theorem d_HoldQueue_tick_2 : decode c_HoldQueue_tick 2 = .ok (.getfield 38, 3) := by decide +kernel
theorem d_HoldQueue_tick_5 : decode c_HoldQueue_tick 5 = .ok (.lcmp, 1) := by decide +kernel
theorem d_HoldQueue_tick_6 : decode c_HoldQueue_tick 6 = .ok (.ifCond .le 11, 3) := by decide +kernel
theorem d_HoldQueue_tick_9 : decode c_HoldQueue_tick 9 = .ok (.lload_n 1, 1) := by decide +kernel
theorem d_HoldQueue_tick_10 : decode c_HoldQueue_tick 10 = .ok (.ldc2_w 125, 3) := by decide +kernel
theorem d_HoldQueue_tick_13 : decode c_HoldQueue_tick 13 = .ok (.lcmp, 1) := by decide +kernel
theorem d_HoldQueue_tick_14 : decode c_HoldQueue_tick 14 = .ok (.ifCond .le 5, 3) := by decide +kernel
theorem d_HoldQueue_tick_17 : decode c_HoldQueue_tick 17 = .ok (.iconst (-1), 1) := by decide +kernel
theorem d_HoldQueue_tick_18 : decode c_HoldQueue_tick 18 = .ok (.ireturn, 1) := by decide +kernel
theorem d_HoldQueue_tick_19 : decode c_HoldQueue_tick 19 = .ok (.aload_n 0, 1) := by decide +kernel
theorem d_HoldQueue_tick_20 : decode c_HoldQueue_tick 20 = .ok (.lload_n 1, 1) := by decide +kernel
theorem d_HoldQueue_tick_21 : decode c_HoldQueue_tick 21 = .ok (.putfield 38, 3) := by decide +kernel
theorem d_HoldQueue_tick_24 : decode c_HoldQueue_tick 24 = .ok (.iconst 0, 1) := by decide +kernel
theorem d_HoldQueue_tick_25 : decode c_HoldQueue_tick 25 = .ok (.istore_n 3, 1) := by decide +kernel
theorem d_HoldQueue_tick_26 : decode c_HoldQueue_tick 26 = .ok (.iconst 1, 1) := by decide +kernel
theorem d_HoldQueue_tick_27 : decode c_HoldQueue_tick 27 = .ok (.istore 4, 2) := by decide +kernel
theorem d_HoldQueue_tick_29 : decode c_HoldQueue_tick 29 = .ok (.iload 4, 2) := by decide +kernel
theorem d_HoldQueue_tick_31 : decode c_HoldQueue_tick 31 = .ok (.aload_n 0, 1) := by decide +kernel
theorem d_HoldQueue_tick_32 : decode c_HoldQueue_tick 32 = .ok (.getfield 34, 3) := by decide +kernel
theorem d_HoldQueue_tick_35 : decode c_HoldQueue_tick 35 = .ok (.getfield 127, 3) := by decide +kernel
theorem d_HoldQueue_tick_38 : decode c_HoldQueue_tick 38 = .ok (.if_icmp .gt 60, 3) := by decide +kernel
theorem d_HoldQueue_tick_41 : decode c_HoldQueue_tick 41 = .ok (.aload_n 0, 1) := by decide +kernel
theorem d_HoldQueue_tick_42 : decode c_HoldQueue_tick 42 = .ok (.getfield 34, 3) := by decide +kernel
theorem d_HoldQueue_tick_45 : decode c_HoldQueue_tick 45 = .ok (.iload 4, 2) := by decide +kernel
theorem d_HoldQueue_tick_47 : decode c_HoldQueue_tick 47 = .ok (.iconst 2, 1) := by decide +kernel
theorem d_HoldQueue_tick_48 : decode c_HoldQueue_tick 48 = .ok (.invokevirtual 90, 3) := by decide +kernel
theorem d_HoldQueue_tick_51 : decode c_HoldQueue_tick 51 = .ok (.ifCond .eq 41, 3) := by decide +kernel
theorem d_HoldQueue_tick_54 : decode c_HoldQueue_tick 54 = .ok (.aload_n 0, 1) := by decide +kernel
theorem d_HoldQueue_tick_55 : decode c_HoldQueue_tick 55 = .ok (.getfield 34, 3) := by decide +kernel
theorem d_HoldQueue_tick_58 : decode c_HoldQueue_tick 58 = .ok (.getfield 130, 3) := by decide +kernel
theorem d_HoldQueue_tick_61 : decode c_HoldQueue_tick 61 = .ok (.iload 4, 2) := by decide +kernel
theorem d_HoldQueue_tick_63 : decode c_HoldQueue_tick 63 = .ok (.laload, 1) := by decide +kernel
theorem d_HoldQueue_tick_64 : decode c_HoldQueue_tick 64 = .ok (.aload_n 0, 1) := by decide +kernel
theorem d_HoldQueue_tick_65 : decode c_HoldQueue_tick 65 = .ok (.getfield 38, 3) := by decide +kernel
theorem d_HoldQueue_tick_68 : decode c_HoldQueue_tick 68 = .ok (.lcmp, 1) := by decide +kernel
theorem d_HoldQueue_tick_69 : decode c_HoldQueue_tick 69 = .ok (.ifCond .ge 23, 3) := by decide +kernel
theorem d_HoldQueue_tick_72 : decode c_HoldQueue_tick 72 = .ok (.aload_n 0, 1) := by decide +kernel
theorem d_HoldQueue_tick_73 : decode c_HoldQueue_tick 73 = .ok (.getfield 34, 3) := by decide +kernel
theorem d_HoldQueue_tick_76 : decode c_HoldQueue_tick 76 = .ok (.getfield 114, 3) := by decide +kernel
theorem d_HoldQueue_tick_79 : decode c_HoldQueue_tick 79 = .ok (.iload 4, 2) := by decide +kernel
theorem d_HoldQueue_tick_81 : decode c_HoldQueue_tick 81 = .ok (.iconst 4, 1) := by decide +kernel
theorem d_HoldQueue_tick_82 : decode c_HoldQueue_tick 82 = .ok (.iastore, 1) := by decide +kernel
theorem d_HoldQueue_tick_83 : decode c_HoldQueue_tick 83 = .ok (.aload_n 0, 1) := by decide +kernel
theorem d_HoldQueue_tick_84 : decode c_HoldQueue_tick 84 = .ok (.iload 4, 2) := by decide +kernel
theorem d_HoldQueue_tick_86 : decode c_HoldQueue_tick 86 = .ok (.invokevirtual 121, 3) := by decide +kernel
theorem d_HoldQueue_tick_89 : decode c_HoldQueue_tick 89 = .ok (.iinc 3 1, 3) := by decide +kernel
theorem d_HoldQueue_tick_92 : decode c_HoldQueue_tick 92 = .ok (.iinc 4 1, 3) := by decide +kernel
theorem d_HoldQueue_tick_95 : decode c_HoldQueue_tick 95 = .ok (.goto (-66), 3) := by decide +kernel
theorem d_HoldQueue_tick_98 : decode c_HoldQueue_tick 98 = .ok (.iload_n 3, 1) := by decide +kernel
theorem d_HoldQueue_tick_99 : decode c_HoldQueue_tick 99 = .ok (.ireturn, 1) := by decide +kernel
theorem d_HoldQueue_span_0 : decode c_HoldQueue_span 0 = .ok (.iload_n 1, 1) := by decide +kernel
theorem d_HoldQueue_span_1 : decode c_HoldQueue_span 1 = .ok (.iconst 1, 1) := by decide +kernel
theorem d_HoldQueue_span_2 : decode c_HoldQueue_span 2 = .ok (.if_icmp .lt 9, 3) := by decide +kernel
theorem d_HoldQueue_span_5 : decode c_HoldQueue_span 5 = .ok (.iload_n 1, 1) := by decide +kernel
theorem d_HoldQueue_span_6 : decode c_HoldQueue_span 6 = .ok (.bipush 99, 2) := by decide +kernel
theorem d_HoldQueue_span_8 : decode c_HoldQueue_span 8 = .ok (.if_icmp .le 5, 3) := by decide +kernel
theorem d_HoldQueue_span_11 : decode c_HoldQueue_span 11 = .ok (.iconst (-1), 1) := by decide +kernel
theorem d_HoldQueue_span_12 : decode c_HoldQueue_span 12 = .ok (.ireturn, 1) := by decide +kernel
theorem d_HoldQueue_span_13 : decode c_HoldQueue_span 13 = .ok (.aload_n 0, 1) := by decide +kernel
theorem d_HoldQueue_span_14 : decode c_HoldQueue_span 14 = .ok (.getfield 42, 3) := by decide +kernel
theorem d_HoldQueue_span_17 : decode c_HoldQueue_span 17 = .ok (.istore_n 2, 1) := by decide +kernel
theorem d_HoldQueue_span_18 : decode c_HoldQueue_span 18 = .ok (.aload_n 0, 1) := by decide +kernel
theorem d_HoldQueue_span_19 : decode c_HoldQueue_span 19 = .ok (.iload_n 1, 1) := by decide +kernel
theorem d_HoldQueue_span_20 : decode c_HoldQueue_span 20 = .ok (.putfield 42, 3) := by decide +kernel
theorem d_HoldQueue_span_23 : decode c_HoldQueue_span 23 = .ok (.iload_n 2, 1) := by decide +kernel
theorem d_HoldQueue_span_24 : decode c_HoldQueue_span 24 = .ok (.ireturn, 1) := by decide +kernel
theorem d_HoldQueue_rank_0 : decode c_HoldQueue_rank 0 = .ok (.aload_n 0, 1) := by decide +kernel
theorem d_HoldQueue_rank_1 : decode c_HoldQueue_rank 1 = .ok (.getfield 34, 3) := by decide +kernel
theorem d_HoldQueue_rank_4 : decode c_HoldQueue_rank 4 = .ok (.iload_n 1, 1) := by decide +kernel
theorem d_HoldQueue_rank_5 : decode c_HoldQueue_rank 5 = .ok (.iconst 0, 1) := by decide +kernel
theorem d_HoldQueue_rank_6 : decode c_HoldQueue_rank 6 = .ok (.invokevirtual 90, 3) := by decide +kernel
theorem d_HoldQueue_rank_9 : decode c_HoldQueue_rank 9 = .ok (.ifCond .ne 5, 3) := by decide +kernel
theorem d_HoldQueue_rank_12 : decode c_HoldQueue_rank 12 = .ok (.iconst (-1), 1) := by decide +kernel
theorem d_HoldQueue_rank_13 : decode c_HoldQueue_rank 13 = .ok (.ireturn, 1) := by decide +kernel
theorem d_HoldQueue_rank_14 : decode c_HoldQueue_rank 14 = .ok (.aload_n 0, 1) := by decide +kernel
theorem d_HoldQueue_rank_15 : decode c_HoldQueue_rank 15 = .ok (.getfield 34, 3) := by decide +kernel
theorem d_HoldQueue_rank_18 : decode c_HoldQueue_rank 18 = .ok (.getfield 133, 3) := by decide +kernel
theorem d_HoldQueue_rank_21 : decode c_HoldQueue_rank 21 = .ok (.iload_n 1, 1) := by decide +kernel
theorem d_HoldQueue_rank_22 : decode c_HoldQueue_rank 22 = .ok (.iload_n 2, 1) := by decide +kernel
theorem d_HoldQueue_rank_23 : decode c_HoldQueue_rank 23 = .ok (.iastore, 1) := by decide +kernel
theorem d_HoldQueue_rank_24 : decode c_HoldQueue_rank 24 = .ok (.aload_n 0, 1) := by decide +kernel
theorem d_HoldQueue_rank_25 : decode c_HoldQueue_rank 25 = .ok (.getfield 34, 3) := by decide +kernel
theorem d_HoldQueue_rank_28 : decode c_HoldQueue_rank 28 = .ok (.iload_n 1, 1) := by decide +kernel
theorem d_HoldQueue_rank_29 : decode c_HoldQueue_rank 29 = .ok (.invokevirtual 136, 3) := by decide +kernel
theorem d_HoldQueue_rank_32 : decode c_HoldQueue_rank 32 = .ok (.ireturn, 1) := by decide +kernel
theorem d_HoldQueue_order_0 : decode c_HoldQueue_order 0 = .ok (.aload_n 0, 1) := by decide +kernel
theorem d_HoldQueue_order_1 : decode c_HoldQueue_order 1 = .ok (.iload_n 1, 1) := by decide +kernel
theorem d_HoldQueue_order_2 : decode c_HoldQueue_order 2 = .ok (.invokevirtual 55, 3) := by decide +kernel
theorem d_HoldQueue_order_5 : decode c_HoldQueue_order 5 = .ok (.ifCond .eq 15, 3) := by decide +kernel
theorem d_HoldQueue_order_8 : decode c_HoldQueue_order 8 = .ok (.aload_n 0, 1) := by decide +kernel
theorem d_HoldQueue_order_9 : decode c_HoldQueue_order 9 = .ok (.getfield 34, 3) := by decide +kernel
theorem d_HoldQueue_order_12 : decode c_HoldQueue_order 12 = .ok (.iload_n 1, 1) := by decide +kernel
