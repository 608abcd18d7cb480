theorem d_HoldQueue_Holds_areFull_0 : decode c_HoldQueue_Holds_areFull 0 = .ok (.aload_n 0, 1) := by decide +kernel
theorem d_HoldQueue_Holds_areFull_1 : decode c_HoldQueue_Holds_areFull 1 = .ok (.getfield 9, 3) := by decide +kernel
theorem d_HoldQueue_Holds_areFull_4 : decode c_HoldQueue_Holds_areFull 4 = .ok (.bipush 120, 2) := by decide +kernel
theorem d_HoldQueue_Holds_areFull_6 : decode c_HoldQueue_Holds_areFull 6 = .ok (.if_icmp .lt 7, 3) := by decide +kernel
theorem d_HoldQueue_Holds_areFull_9 : decode c_HoldQueue_Holds_areFull 9 = .ok (.iconst 1, 1) := by decide +kernel
theorem d_HoldQueue_Holds_areFull_10 : decode c_HoldQueue_Holds_areFull 10 = .ok (.goto 4, 3) := by decide +kernel
theorem d_HoldQueue_Holds_areFull_13 : decode c_HoldQueue_Holds_areFull 13 = .ok (.iconst 0, 1) := by decide +kernel
theorem d_HoldQueue_Holds_areFull_14 : decode c_HoldQueue_Holds_areFull 14 = .ok (.ireturn, 1) := by decide +kernel
theorem d_HoldQueue_Holds_add_0 : decode c_HoldQueue_Holds_add 0 = .ok (.aload_n 0, 1) := by decide +kernel
theorem d_HoldQueue_Holds_add_1 : decode c_HoldQueue_Holds_add 1 = .ok (.dup, 1) := by decide +kernel
theorem d_HoldQueue_Holds_add_2 : decode c_HoldQueue_Holds_add 2 = .ok (.getfield 9, 3) := by decide +kernel
theorem d_HoldQueue_Holds_add_5 : decode c_HoldQueue_Holds_add 5 = .ok (.iconst 1, 1) := by decide +kernel
theorem d_HoldQueue_Holds_add_6 : decode c_HoldQueue_Holds_add 6 = .ok (.iadd, 1) := by decide +kernel
theorem d_HoldQueue_Holds_add_7 : decode c_HoldQueue_Holds_add 7 = .ok (.putfield 9, 3) := by decide +kernel
theorem d_HoldQueue_Holds_add_10 : decode c_HoldQueue_Holds_add 10 = .ok (.aload_n 0, 1) := by decide +kernel
theorem d_HoldQueue_Holds_add_11 : decode c_HoldQueue_Holds_add 11 = .ok (.getfield 15, 3) := by decide +kernel
theorem d_HoldQueue_Holds_add_14 : decode c_HoldQueue_Holds_add 14 = .ok (.aload_n 0, 1) := by decide +kernel
theorem d_HoldQueue_Holds_add_15 : decode c_HoldQueue_Holds_add 15 = .ok (.getfield 9, 3) := by decide +kernel
theorem d_HoldQueue_Holds_add_18 : decode c_HoldQueue_Holds_add 18 = .ok (.iload_n 1, 1) := by decide +kernel
theorem d_HoldQueue_Holds_add_19 : decode c_HoldQueue_Holds_add 19 = .ok (.iastore, 1) := by decide +kernel
theorem d_HoldQueue_Holds_add_20 : decode c_HoldQueue_Holds_add 20 = .ok (.aload_n 0, 1) := by decide +kernel
theorem d_HoldQueue_Holds_add_21 : decode c_HoldQueue_Holds_add 21 = .ok (.getfield 19, 3) := by decide +kernel
theorem d_HoldQueue_Holds_add_24 : decode c_HoldQueue_Holds_add 24 = .ok (.aload_n 0, 1) := by decide +kernel
theorem d_HoldQueue_Holds_add_25 : decode c_HoldQueue_Holds_add 25 = .ok (.getfield 9, 3) := by decide +kernel
theorem d_HoldQueue_Holds_add_28 : decode c_HoldQueue_Holds_add 28 = .ok (.iload_n 2, 1) := by decide +kernel
theorem d_HoldQueue_Holds_add_29 : decode c_HoldQueue_Holds_add 29 = .ok (.iastore, 1) := by decide +kernel
theorem d_HoldQueue_Holds_add_30 : decode c_HoldQueue_Holds_add 30 = .ok (.aload_n 0, 1) := by decide +kernel
theorem d_HoldQueue_Holds_add_31 : decode c_HoldQueue_Holds_add 31 = .ok (.getfield 22, 3) := by decide +kernel
theorem d_HoldQueue_Holds_add_34 : decode c_HoldQueue_Holds_add 34 = .ok (.aload_n 0, 1) := by decide +kernel
theorem d_HoldQueue_Holds_add_35 : decode c_HoldQueue_Holds_add 35 = .ok (.getfield 9, 3) := by decide +kernel
theorem d_HoldQueue_Holds_add_38 : decode c_HoldQueue_Holds_add 38 = .ok (.iload_n 3, 1) := by decide +kernel
theorem d_HoldQueue_Holds_add_39 : decode c_HoldQueue_Holds_add 39 = .ok (.iastore, 1) := by decide +kernel
theorem d_HoldQueue_Holds_add_40 : decode c_HoldQueue_Holds_add 40 = .ok (.aload_n 0, 1) := by decide +kernel
theorem d_HoldQueue_Holds_add_41 : decode c_HoldQueue_Holds_add 41 = .ok (.getfield 25, 3) := by decide +kernel
theorem d_HoldQueue_Holds_add_44 : decode c_HoldQueue_Holds_add 44 = .ok (.aload_n 0, 1) := by decide +kernel
theorem d_HoldQueue_Holds_add_45 : decode c_HoldQueue_Holds_add 45 = .ok (.getfield 9, 3) := by decide +kernel
theorem d_HoldQueue_Holds_add_48 : decode c_HoldQueue_Holds_add 48 = .ok (.iload 4, 2) := by decide +kernel
theorem d_HoldQueue_Holds_add_50 : decode c_HoldQueue_Holds_add 50 = .ok (.iastore, 1) := by decide +kernel
theorem d_HoldQueue_Holds_add_51 : decode c_HoldQueue_Holds_add 51 = .ok (.aload_n 0, 1) := by decide +kernel
theorem d_HoldQueue_Holds_add_52 : decode c_HoldQueue_Holds_add 52 = .ok (.getfield 28, 3) := by decide +kernel
theorem d_HoldQueue_Holds_add_55 : decode c_HoldQueue_Holds_add 55 = .ok (.aload_n 0, 1) := by decide +kernel
theorem d_HoldQueue_Holds_add_56 : decode c_HoldQueue_Holds_add 56 = .ok (.getfield 9, 3) := by decide +kernel
theorem d_HoldQueue_Holds_add_59 : decode c_HoldQueue_Holds_add 59 = .ok (.iconst 0, 1) := by decide +kernel
theorem d_HoldQueue_Holds_add_60 : decode c_HoldQueue_Holds_add 60 = .ok (.iastore, 1) := by decide +kernel
theorem d_HoldQueue_Holds_add_61 : decode c_HoldQueue_Holds_add 61 = .ok (.aload_n 0, 1) := by decide +kernel
theorem d_HoldQueue_Holds_add_62 : decode c_HoldQueue_Holds_add 62 = .ok (.getfield 9, 3) := by decide +kernel
theorem d_HoldQueue_Holds_add_65 : decode c_HoldQueue_Holds_add 65 = .ok (.ireturn, 1) := by decide +kernel
theorem d_HoldQueue_Holds_countOpen_0 : decode c_HoldQueue_Holds_countOpen 0 = .ok (.iconst 0, 1) := by decide +kernel
theorem d_HoldQueue_Holds_countOpen_1 : decode c_HoldQueue_Holds_countOpen 1 = .ok (.istore_n 2, 1) := by decide +kernel
theorem d_HoldQueue_Holds_countOpen_2 : decode c_HoldQueue_Holds_countOpen 2 = .ok (.iconst 1, 1) := by decide +kernel
theorem d_HoldQueue_Holds_countOpen_3 : decode c_HoldQueue_Holds_countOpen 3 = .ok (.istore_n 3, 1) := by decide +kernel
theorem d_HoldQueue_Holds_countOpen_4 : decode c_HoldQueue_Holds_countOpen 4 = .ok (.iload_n 3, 1) := by decide +kernel
theorem d_HoldQueue_Holds_countOpen_5 : decode c_HoldQueue_Holds_countOpen 5 = .ok (.aload_n 0, 1) := by decide +kernel
theorem d_HoldQueue_Holds_countOpen_6 : decode c_HoldQueue_Holds_countOpen 6 = .ok (.getfield 9, 3) := by decide +kernel
theorem d_HoldQueue_Holds_countOpen_9 : decode c_HoldQueue_Holds_countOpen 9 = .ok (.if_icmp .gt 30, 3) := by decide +kernel
theorem d_HoldQueue_Holds_countOpen_12 : decode c_HoldQueue_Holds_countOpen 12 = .ok (.aload_n 0, 1) := by decide +kernel
theorem d_HoldQueue_Holds_countOpen_13 : decode c_HoldQueue_Holds_countOpen 13 = .ok (.getfield 15, 3) := by decide +kernel
theorem d_HoldQueue_Holds_countOpen_16 : decode c_HoldQueue_Holds_countOpen 16 = .ok (.iload_n 3, 1) := by decide +kernel
theorem d_HoldQueue_Holds_countOpen_17 : decode c_HoldQueue_Holds_countOpen 17 = .ok (.iaload, 1) := by decide +kernel
theorem d_HoldQueue_Holds_countOpen_18 : decode c_HoldQueue_Holds_countOpen 18 = .ok (.iload_n 1, 1) := by decide +kernel
theorem d_HoldQueue_Holds_countOpen_19 : decode c_HoldQueue_Holds_countOpen 19 = .ok (.if_icmp .ne 14, 3) := by decide +kernel
theorem d_HoldQueue_Holds_countOpen_22 : decode c_HoldQueue_Holds_countOpen 22 = .ok (.aload_n 0, 1) := by decide +kernel
theorem d_HoldQueue_Holds_countOpen_23 : decode c_HoldQueue_Holds_countOpen 23 = .ok (.iload_n 3, 1) := by decide +kernel
theorem d_HoldQueue_Holds_countOpen_24 : decode c_HoldQueue_Holds_countOpen 24 = .ok (.invokevirtual 49, 3) := by decide +kernel
theorem d_HoldQueue_Holds_countOpen_27 : decode c_HoldQueue_Holds_countOpen 27 = .ok (.ifCond .eq 6, 3) := by decide +kernel
theorem d_HoldQueue_Holds_countOpen_30 : decode c_HoldQueue_Holds_countOpen 30 = .ok (.iinc 2 1, 3) := by decide +kernel
theorem d_HoldQueue_Holds_countOpen_33 : decode c_HoldQueue_Holds_countOpen 33 = .ok (.iinc 3 1, 3) := by decide +kernel
theorem d_HoldQueue_Holds_countOpen_36 : decode c_HoldQueue_Holds_countOpen 36 = .ok (.goto (-32), 3) := by decide +kernel
theorem d_HoldQueue_Holds_countOpen_39 : decode c_HoldQueue_Holds_countOpen 39 = .ok (.iload_n 2, 1) := by decide +kernel
theorem d_HoldQueue_Holds_countOpen_40 : decode c_HoldQueue_Holds_countOpen 40 = .ok (.ireturn, 1) := by decide +kernel
theorem d_HoldQueue_Holds_hasOpen_0 : decode c_HoldQueue_Holds_hasOpen 0 = .ok (.iconst 1, 1) := by decide +kernel
theorem d_HoldQueue_Holds_hasOpen_1 : decode c_HoldQueue_Holds_hasOpen 1 = .ok (.istore_n 3, 1) := by decide +kernel
theorem d_HoldQueue_Holds_hasOpen_2 : decode c_HoldQueue_Holds_hasOpen 2 = .ok (.iload_n 3, 1) := by decide +kernel
theorem d_HoldQueue_Holds_hasOpen_3 : decode c_HoldQueue_Holds_hasOpen 3 = .ok (.aload_n 0, 1) := by decide +kernel
theorem d_HoldQueue_Holds_hasOpen_4 : decode c_HoldQueue_Holds_hasOpen 4 = .ok (.getfield 9, 3) := by decide +kernel
theorem d_HoldQueue_Holds_hasOpen_7 : decode c_HoldQueue_Holds_hasOpen 7 = .ok (.if_icmp .gt 39, 3) := by decide +kernel
theorem d_HoldQueue_Holds_hasOpen_10 : decode c_HoldQueue_Holds_hasOpen 10 = .ok (.aload_n 0, 1) := by decide +kernel
theorem d_HoldQueue_Holds_hasOpen_11 : decode c_HoldQueue_Holds_hasOpen 11 = .ok (.getfield 15, 3) := by decide +kernel
theorem d_HoldQueue_Holds_hasOpen_14 : decode c_HoldQueue_Holds_hasOpen 14 = .ok (.iload_n 3, 1) := by decide +kernel
theorem d_HoldQueue_Holds_hasOpen_15 : decode c_HoldQueue_Holds_hasOpen 15 = .ok (.iaload, 1) := by decide +kernel
theorem d_HoldQueue_Holds_hasOpen_16 : decode c_HoldQueue_Holds_hasOpen 16 = .ok (.iload_n 1, 1) := by decide +kernel
theorem d_HoldQueue_Holds_hasOpen_17 : decode c_HoldQueue_Holds_hasOpen 17 = .ok (.if_icmp .ne 23, 3) := by decide +kernel
theorem d_HoldQueue_Holds_hasOpen_20 : decode c_HoldQueue_Holds_hasOpen 20 = .ok (.aload_n 0, 1) := by decide +kernel
theorem d_HoldQueue_Holds_hasOpen_21 : decode c_HoldQueue_Holds_hasOpen 21 = .ok (.getfield 19, 3) := by decide +kernel
theorem d_HoldQueue_Holds_hasOpen_24 : decode c_HoldQueue_Holds_hasOpen 24 = .ok (.iload_n 3, 1) := by decide +kernel
theorem d_HoldQueue_Holds_hasOpen_25 : decode c_HoldQueue_Holds_hasOpen 25 = .ok (.iaload, 1) := by decide +kernel
theorem d_HoldQueue_Holds_hasOpen_26 : decode c_HoldQueue_Holds_hasOpen 26 = .ok (.iload_n 2, 1) := by decide +kernel
theorem d_HoldQueue_Holds_hasOpen_27 : decode c_HoldQueue_Holds_hasOpen 27 = .ok (.if_icmp .ne 13, 3) := by decide +kernel
theorem d_HoldQueue_Holds_hasOpen_30 : decode c_HoldQueue_Holds_hasOpen 30 = .ok (.aload_n 0, 1) := by decide +kernel
theorem d_HoldQueue_Holds_hasOpen_31 : decode c_HoldQueue_Holds_hasOpen 31 = .ok (.iload_n 3, 1) := by decide +kernel
theorem d_HoldQueue_Holds_hasOpen_32 : decode c_HoldQueue_Holds_hasOpen 32 = .ok (.invokevirtual 49, 3) := by decide +kernel
theorem d_HoldQueue_Holds_hasOpen_35 : decode c_HoldQueue_Holds_hasOpen 35 = .ok (.ifCond .eq 5, 3) := by decide +kernel
theorem d_HoldQueue_Holds_hasOpen_38 : decode c_HoldQueue_Holds_hasOpen 38 = .ok (.iconst 1, 1) := by decide +kernel
theorem d_HoldQueue_Holds_hasOpen_39 : decode c_HoldQueue_Holds_hasOpen 39 = .ok (.ireturn, 1) := by decide +kernel
theorem d_HoldQueue_Holds_hasOpen_40 : decode c_HoldQueue_Holds_hasOpen 40 = .ok (.iinc 3 1, 3) := by decide +kernel
theorem d_HoldQueue_Holds_hasOpen_43 : decode c_HoldQueue_Holds_hasOpen 43 = .ok (.goto (-41), 3) := by decide +kernel
theorem d_HoldQueue_Holds_hasOpen_46 : decode c_HoldQueue_Holds_hasOpen 46 = .ok (.iconst 0, 1) := by decide +kernel
theorem d_HoldQueue_Holds_hasOpen_47 : decode c_HoldQueue_Holds_hasOpen 47 = .ok (.ireturn, 1) := by decide +kernel
theorem d_HoldQueue_Holds_isQueued_0 : decode c_HoldQueue_Holds_isQueued 0 = .ok (.aload_n 0, 1) := by decide +kernel
theorem d_HoldQueue_Holds_isQueued_1 : decode c_HoldQueue_Holds_isQueued 1 = .ok (.getfield 19, 3) := by decide +kernel
theorem d_HoldQueue_Holds_isQueued_4 : decode c_HoldQueue_Holds_isQueued 4 = .ok (.iload_n 1, 1) := by decide +kernel
theorem d_HoldQueue_Holds_isQueued_5 : decode c_HoldQueue_Holds_isQueued 5 = .ok (.iaload, 1) := by decide +kernel
theorem d_HoldQueue_Holds_isQueued_6 : decode c_HoldQueue_Holds_isQueued 6 = .ok (.iload_n 2, 1) := by decide +kernel
theorem d_HoldQueue_Holds_isQueued_7 : decode c_HoldQueue_Holds_isQueued 7 = .ok (.if_icmp .ne 16, 3) := by decide +kernel
theorem d_HoldQueue_Holds_isQueued_10 : decode c_HoldQueue_Holds_isQueued 10 = .ok (.aload_n 0, 1) := by decide +kernel
theorem d_HoldQueue_Holds_isQueued_11 : decode c_HoldQueue_Holds_isQueued 11 = .ok (.getfield 28, 3) := by decide +kernel
theorem d_HoldQueue_Holds_isQueued_14 : decode c_HoldQueue_Holds_isQueued 14 = .ok (.iload_n 1, 1) := by decide +kernel
theorem d_HoldQueue_Holds_isQueued_15 : decode c_HoldQueue_Holds_isQueued 15 = .ok (.iaload, 1) := by decide +kernel
theorem d_HoldQueue_Holds_isQueued_16 : decode c_HoldQueue_Holds_isQueued 16 = .ok (.ifCond .ne 7, 3) := by decide +kernel
theorem d_HoldQueue_Holds_isQueued_19 : decode c_HoldQueue_Holds_isQueued 19 = .ok (.iconst 1, 1) := by decide +kernel
theorem d_HoldQueue_Holds_isQueued_20 : decode c_HoldQueue_Holds_isQueued 20 = .ok (.goto 4, 3) := by decide +kernel
theorem d_HoldQueue_Holds_isQueued_23 : decode c_HoldQueue_Holds_isQueued 23 = .ok (.iconst 0, 1) := by decide +kernel
theorem d_HoldQueue_Holds_isQueued_24 : decode c_HoldQueue_Holds_isQueued 24 = .ok (.ireturn, 1) := by decide +kernel
theorem d_HoldQueue_Holds_comesBefore_0 : decode c_HoldQueue_Holds_comesBefore 0 = .ok (.aload_n 0, 1) := by decide +kernel
theorem d_HoldQueue_Holds_comesBefore_1 : decode c_HoldQueue_Holds_comesBefore 1 = .ok (.getfield 25, 3) := by decide +kernel
theorem d_HoldQueue_Holds_comesBefore_4 : decode c_HoldQueue_Holds_comesBefore 4 = .ok (.iload_n 1, 1) := by decide +kernel
theorem d_HoldQueue_Holds_comesBefore_5 : decode c_HoldQueue_Holds_comesBefore 5 = .ok (.iaload, 1) := by decide +kernel
theorem d_HoldQueue_Holds_comesBefore_6 : decode c_HoldQueue_Holds_comesBefore 6 = .ok (.aload_n 0, 1) := by decide +kernel
theorem d_HoldQueue_Holds_comesBefore_7 : decode c_HoldQueue_Holds_comesBefore 7 = .ok (.getfield 25, 3) := by decide +kernel
theorem d_HoldQueue_Holds_comesBefore_10 : decode c_HoldQueue_Holds_comesBefore 10 = .ok (.iload_n 2, 1) := by decide +kernel
theorem d_HoldQueue_Holds_comesBefore_11 : decode c_HoldQueue_Holds_comesBefore 11 = .ok (.iaload, 1) := by decide +kernel
theorem d_HoldQueue_Holds_comesBefore_12 : decode c_HoldQueue_Holds_comesBefore 12 = .ok (.if_icmp .lt 23, 3) := by decide +kernel
theorem d_HoldQueue_Holds_comesBefore_15 : decode c_HoldQueue_Holds_comesBefore 15 = .ok (.aload_n 0, 1) := by decide +kernel
theorem d_HoldQueue_Holds_comesBefore_16 : decode c_HoldQueue_Holds_comesBefore 16 = .ok (.getfield 25, 3) := by decide +kernel
theorem d_HoldQueue_Holds_comesBefore_19 : decode c_HoldQueue_Holds_comesBefore 19 = .ok (.iload_n 1, 1) := by decide +kernel
theorem d_HoldQueue_Holds_comesBefore_20 : decode c_HoldQueue_Holds_comesBefore 20 = .ok (.iaload, 1) := by decide +kernel
theorem d_HoldQueue_Holds_comesBefore_21 : decode c_HoldQueue_Holds_comesBefore 21 = .ok (.aload_n 0, 1) := by decide +kernel
theorem d_HoldQueue_Holds_comesBefore_22 : decode c_HoldQueue_Holds_comesBefore 22 = .ok (.getfield 25, 3) := by decide +kernel
theorem d_HoldQueue_Holds_comesBefore_25 : decode c_HoldQueue_Holds_comesBefore 25 = .ok (.iload_n 2, 1) := by decide +kernel
theorem d_HoldQueue_Holds_comesBefore_26 : decode c_HoldQueue_Holds_comesBefore 26 = .ok (.iaload, 1) := by decide +kernel
theorem d_HoldQueue_Holds_comesBefore_27 : decode c_HoldQueue_Holds_comesBefore 27 = .ok (.if_icmp .ne 12, 3) := by decide +kernel
theorem d_HoldQueue_Holds_comesBefore_30 : decode c_HoldQueue_Holds_comesBefore 30 = .ok (.iload_n 1, 1) := by decide +kernel
theorem d_HoldQueue_Holds_comesBefore_31 : decode c_HoldQueue_Holds_comesBefore 31 = .ok (.iload_n 2, 1) := by decide +kernel
theorem d_HoldQueue_Holds_comesBefore_32 : decode c_HoldQueue_Holds_comesBefore 32 = .ok (.if_icmp .ge 7, 3) := by decide +kernel
theorem d_HoldQueue_Holds_comesBefore_35 : decode c_HoldQueue_Holds_comesBefore 35 = .ok (.iconst 1, 1) := by decide +kernel
theorem d_HoldQueue_Holds_comesBefore_36 : decode c_HoldQueue_Holds_comesBefore 36 = .ok (.goto 4, 3) := by decide +kernel
theorem d_HoldQueue_Holds_comesBefore_39 : decode c_HoldQueue_Holds_comesBefore 39 = .ok (.iconst 0, 1) := by decide +kernel
theorem d_HoldQueue_Holds_comesBefore_40 : decode c_HoldQueue_Holds_comesBefore 40 = .ok (.ireturn, 1) := by decide +kernel
theorem d_HoldQueue_Holds_firstFitting_0 : decode c_HoldQueue_Holds_firstFitting 0 = .ok (.iconst 0, 1) := by decide +kernel
theorem d_HoldQueue_Holds_firstFitting_1 : decode c_HoldQueue_Holds_firstFitting 1 = .ok (.istore 4, 2) := by decide +kernel
theorem d_HoldQueue_Holds_firstFitting_3 : decode c_HoldQueue_Holds_firstFitting 3 = .ok (.iconst 1, 1) := by decide +kernel
theorem d_HoldQueue_Holds_firstFitting_4 : decode c_HoldQueue_Holds_firstFitting 4 = .ok (.istore 5, 2) := by decide +kernel
theorem d_HoldQueue_Holds_firstFitting_6 : decode c_HoldQueue_Holds_firstFitting 6 = .ok (.iload 5, 2) := by decide +kernel
theorem d_HoldQueue_Holds_firstFitting_8 : decode c_HoldQueue_Holds_firstFitting 8 = .ok (.aload_n 0, 1) := by decide +kernel
theorem d_HoldQueue_Holds_firstFitting_9 : decode c_HoldQueue_Holds_firstFitting 9 = .ok (.getfield 9, 3) := by decide +kernel
theorem d_HoldQueue_Holds_firstFitting_12 : decode c_HoldQueue_Holds_firstFitting 12 = .ok (.if_icmp .gt 51, 3) := by decide +kernel
theorem d_HoldQueue_Holds_firstFitting_15 : decode c_HoldQueue_Holds_firstFitting 15 = .ok (.aload_n 0, 1) := by decide +kernel
theorem d_HoldQueue_Holds_firstFitting_16 : decode c_HoldQueue_Holds_firstFitting 16 = .ok (.iload 5, 2) := by decide +kernel
theorem d_HoldQueue_Holds_firstFitting_18 : decode c_HoldQueue_Holds_firstFitting 18 = .ok (.iload_n 1, 1) := by decide +kernel
theorem d_HoldQueue_Holds_firstFitting_19 : decode c_HoldQueue_Holds_firstFitting 19 = .ok (.invokevirtual 52, 3) := by decide +kernel
theorem d_HoldQueue_Holds_firstFitting_22 : decode c_HoldQueue_Holds_firstFitting 22 = .ok (.ifCond .eq 35, 3) := by decide +kernel
theorem d_HoldQueue_Holds_firstFitting_25 : decode c_HoldQueue_Holds_firstFitting 25 = .ok (.aload_n 0, 1) := by decide +kernel
theorem d_HoldQueue_Holds_firstFitting_26 : decode c_HoldQueue_Holds_firstFitting 26 = .ok (.getfield 34, 3) := by decide +kernel
theorem d_HoldQueue_Holds_firstFitting_29 : decode c_HoldQueue_Holds_firstFitting 29 = .ok (.iload 5, 2) := by decide +kernel
theorem d_HoldQueue_Holds_firstFitting_31 : decode c_HoldQueue_Holds_firstFitting 31 = .ok (.laload, 1) := by decide +kernel
theorem d_HoldQueue_Holds_firstFitting_32 : decode c_HoldQueue_Holds_firstFitting 32 = .ok (.lload_n 2, 1) := by decide +kernel
theorem d_HoldQueue_Holds_firstFitting_33 : decode c_HoldQueue_Holds_firstFitting 33 = .ok (.lcmp, 1) := by decide +kernel
theorem d_HoldQueue_Holds_firstFitting_34 : decode c_HoldQueue_Holds_firstFitting 34 = .ok (.ifCond .gt 23, 3) := by decide +kernel
theorem d_HoldQueue_Holds_firstFitting_37 : decode c_HoldQueue_Holds_firstFitting 37 = .ok (.iload 4, 2) := by decide +kernel
theorem d_HoldQueue_Holds_firstFitting_39 : decode c_HoldQueue_Holds_firstFitting 39 = .ok (.ifCond .eq 14, 3) := by decide +kernel
theorem d_HoldQueue_Holds_firstFitting_42 : decode c_HoldQueue_Holds_firstFitting 42 = .ok (.aload_n 0, 1) := by decide +kernel
theorem d_HoldQueue_Holds_firstFitting_43 : decode c_HoldQueue_Holds_firstFitting 43 = .ok (.iload 5, 2) := by decide +kernel
theorem d_HoldQueue_Holds_firstFitting_45 : decode c_HoldQueue_Holds_firstFitting 45 = .ok (.iload 4, 2) := by decide +kernel
theorem d_HoldQueue_Holds_firstFitting_47 : decode c_HoldQueue_Holds_firstFitting 47 = .ok (.invokevirtual 55, 3) := by decide +kernel
theorem d_HoldQueue_Holds_firstFitting_50 : decode c_HoldQueue_Holds_firstFitting 50 = .ok (.ifCond .eq 7, 3) := by decide +kernel
theorem d_HoldQueue_Holds_firstFitting_53 : decode c_HoldQueue_Holds_firstFitting 53 = .ok (.iload 5, 2) := by decide +kernel
theorem d_HoldQueue_Holds_firstFitting_55 : decode c_HoldQueue_Holds_firstFitting 55 = .ok (.istore 4, 2) := by decide +kernel
theorem d_HoldQueue_Holds_firstFitting_57 : decode c_HoldQueue_Holds_firstFitting 57 = .ok (.iinc 5 1, 3) := by decide +kernel
theorem d_HoldQueue_Holds_firstFitting_60 : decode c_HoldQueue_Holds_firstFitting 60 = .ok (.goto (-54), 3) := by decide +kernel
theorem d_HoldQueue_Holds_firstFitting_63 : decode c_HoldQueue_Holds_firstFitting 63 = .ok (.iload 4, 2) := by decide +kernel
theorem d_HoldQueue_Holds_firstFitting_65 : decode c_HoldQueue_Holds_firstFitting 65 = .ok (.ireturn, 1) := by decide +kernel
theorem d_HoldQueue_Holds_placeInQueue_0 : decode c_HoldQueue_Holds_placeInQueue 0 = .ok (.iconst 0, 1) := by decide +kernel
theorem d_HoldQueue_Holds_placeInQueue_1 : decode c_HoldQueue_Holds_placeInQueue 1 = .ok (.istore_n 2, 1) := by decide +kernel
theorem d_HoldQueue_Holds_placeInQueue_2 : decode c_HoldQueue_Holds_placeInQueue 2 = .ok (.iconst 1, 1) := by decide +kernel
theorem d_HoldQueue_Holds_placeInQueue_3 : decode c_HoldQueue_Holds_placeInQueue 3 = .ok (.istore_n 3, 1) := by decide +kernel
theorem d_HoldQueue_Holds_placeInQueue_4 : decode c_HoldQueue_Holds_placeInQueue 4 = .ok (.iload_n 3, 1) := by decide +kernel
theorem d_HoldQueue_Holds_placeInQueue_5 : decode c_HoldQueue_Holds_placeInQueue 5 = .ok (.aload_n 0, 1) := by decide +kernel
theorem d_HoldQueue_Holds_placeInQueue_6 : decode c_HoldQueue_Holds_placeInQueue 6 = .ok (.getfield 9, 3) := by decide +kernel
theorem d_HoldQueue_Holds_placeInQueue_9 : decode c_HoldQueue_Holds_placeInQueue 9 = .ok (.if_icmp .gt 35, 3) := by decide +kernel
theorem d_HoldQueue_Holds_placeInQueue_12 : decode c_HoldQueue_Holds_placeInQueue 12 = .ok (.aload_n 0, 1) := by decide +kernel
theorem d_HoldQueue_Holds_placeInQueue_13 : decode c_HoldQueue_Holds_placeInQueue 13 = .ok (.iload_n 3, 1) := by decide +kernel
theorem d_HoldQueue_Holds_placeInQueue_14 : decode c_HoldQueue_Holds_placeInQueue 14 = .ok (.aload_n 0, 1) := by decide +kernel
theorem d_HoldQueue_Holds_placeInQueue_15 : decode c_HoldQueue_Holds_placeInQueue 15 = .ok (.getfield 19, 3) := by decide +kernel
theorem d_HoldQueue_Holds_placeInQueue_18 : decode c_HoldQueue_Holds_placeInQueue 18 = .ok (.iload_n 1, 1) := by decide +kernel
theorem d_HoldQueue_Holds_placeInQueue_19 : decode c_HoldQueue_Holds_placeInQueue 19 = .ok (.iaload, 1) := by decide +kernel
theorem d_HoldQueue_Holds_placeInQueue_20 : decode c_HoldQueue_Holds_placeInQueue 20 = .ok (.invokevirtual 52, 3) := by decide +kernel
theorem d_HoldQueue_Holds_placeInQueue_23 : decode c_HoldQueue_Holds_placeInQueue 23 = .ok (.ifCond .eq 15, 3) := by decide +kernel
theorem d_HoldQueue_Holds_placeInQueue_26 : decode c_HoldQueue_Holds_placeInQueue 26 = .ok (.aload_n 0, 1) := by decide +kernel
theorem d_HoldQueue_Holds_placeInQueue_27 : decode c_HoldQueue_Holds_placeInQueue 27 = .ok (.iload_n 3, 1) := by decide +kernel
theorem d_HoldQueue_Holds_placeInQueue_28 : decode c_HoldQueue_Holds_placeInQueue 28 = .ok (.iload_n 1, 1) := by decide +kernel
theorem d_HoldQueue_Holds_placeInQueue_29 : decode c_HoldQueue_Holds_placeInQueue 29 = .ok (.invokevirtual 55, 3) := by decide +kernel
theorem d_HoldQueue_Holds_placeInQueue_32 : decode c_HoldQueue_Holds_placeInQueue 32 = .ok (.ifCond .eq 6, 3) := by decide +kernel
theorem d_HoldQueue_Holds_placeInQueue_35 : decode c_HoldQueue_Holds_placeInQueue 35 = .ok (.iinc 2 1, 3) := by decide +kernel
theorem d_HoldQueue_Holds_placeInQueue_38 : decode c_HoldQueue_Holds_placeInQueue 38 = .ok (.iinc 3 1, 3) := by decide +kernel
theorem d_HoldQueue_Holds_placeInQueue_41 : decode c_HoldQueue_Holds_placeInQueue 41 = .ok (.goto (-37), 3) := by decide +kernel
theorem d_HoldQueue_Holds_placeInQueue_44 : decode c_HoldQueue_Holds_placeInQueue 44 = .ok (.iload_n 2, 1) := by decide +kernel
theorem d_HoldQueue_Holds_placeInQueue_45 : decode c_HoldQueue_Holds_placeInQueue 45 = .ok (.ireturn, 1) := by decide +kernel
theorem d_HoldQueue_Holds_atPlaceInQueue_0 : decode c_HoldQueue_Holds_atPlaceInQueue 0 = .ok (.iconst 1, 1) := by decide +kernel
theorem d_HoldQueue_Holds_atPlaceInQueue_1 : decode c_HoldQueue_Holds_atPlaceInQueue 1 = .ok (.istore_n 3, 1) := by decide +kernel
theorem d_HoldQueue_Holds_atPlaceInQueue_2 : decode c_HoldQueue_Holds_atPlaceInQueue 2 = .ok (.iload_n 3, 1) := by decide +kernel
theorem d_HoldQueue_Holds_atPlaceInQueue_3 : decode c_HoldQueue_Holds_atPlaceInQueue 3 = .ok (.aload_n 0, 1) := by decide +kernel
theorem d_HoldQueue_Holds_atPlaceInQueue_4 : decode c_HoldQueue_Holds_atPlaceInQueue 4 = .ok (.getfield 9, 3) := by decide +kernel
theorem d_HoldQueue_Holds_atPlaceInQueue_7 : decode c_HoldQueue_Holds_atPlaceInQueue 7 = .ok (.if_icmp .gt 29, 3) := by decide +kernel
theorem d_HoldQueue_Holds_atPlaceInQueue_10 : decode c_HoldQueue_Holds_atPlaceInQueue 10 = .ok (.aload_n 0, 1) := by decide +kernel
theorem d_HoldQueue_Holds_atPlaceInQueue_11 : decode c_HoldQueue_Holds_atPlaceInQueue 11 = .ok (.iload_n 3, 1) := by decide +kernel
theorem d_HoldQueue_Holds_atPlaceInQueue_12 : decode c_HoldQueue_Holds_atPlaceInQueue 12 = .ok (.iload_n 1, 1) := by decide +kernel
theorem d_HoldQueue_Holds_atPlaceInQueue_13 : decode c_HoldQueue_Holds_atPlaceInQueue 13 = .ok (.invokevirtual 52, 3) := by decide +kernel
theorem d_HoldQueue_Holds_atPlaceInQueue_16 : decode c_HoldQueue_Holds_atPlaceInQueue 16 = .ok (.ifCond .eq 14, 3) := by decide +kernel
theorem d_HoldQueue_Holds_atPlaceInQueue_19 : decode c_HoldQueue_Holds_atPlaceInQueue 19 = .ok (.aload_n 0, 1) := by decide +kernel
theorem d_HoldQueue_Holds_atPlaceInQueue_20 : decode c_HoldQueue_Holds_atPlaceInQueue 20 = .ok (.iload_n 3, 1) := by decide +kernel
theorem d_HoldQueue_Holds_atPlaceInQueue_21 : decode c_HoldQueue_Holds_atPlaceInQueue 21 = .ok (.invokevirtual 58, 3) := by decide +kernel
theorem d_HoldQueue_Holds_atPlaceInQueue_24 : decode c_HoldQueue_Holds_atPlaceInQueue 24 = .ok (.iload_n 2, 1) := by decide +kernel
theorem d_HoldQueue_Holds_atPlaceInQueue_25 : decode c_HoldQueue_Holds_atPlaceInQueue 25 = .ok (.if_icmp .ne 5, 3) := by decide +kernel
theorem d_HoldQueue_Holds_atPlaceInQueue_28 : decode c_HoldQueue_Holds_atPlaceInQueue 28 = .ok (.iload_n 3, 1) := by decide +kernel
theorem d_HoldQueue_Holds_atPlaceInQueue_29 : decode c_HoldQueue_Holds_atPlaceInQueue 29 = .ok (.ireturn, 1) := by decide +kernel
theorem d_HoldQueue_Holds_atPlaceInQueue_30 : decode c_HoldQueue_Holds_atPlaceInQueue 30 = .ok (.iinc 3 1, 3) := by decide +kernel
theorem d_HoldQueue_Holds_atPlaceInQueue_33 : decode c_HoldQueue_Holds_atPlaceInQueue 33 = .ok (.goto (-31), 3) := by decide +kernel
theorem d_HoldQueue_Holds_atPlaceInQueue_36 : decode c_HoldQueue_Holds_atPlaceInQueue 36 = .ok (.iconst 0, 1) := by decide +kernel
theorem d_HoldQueue_Holds_atPlaceInQueue_37 : decode c_HoldQueue_Holds_atPlaceInQueue 37 = .ok (.ireturn, 1) := by decide +kernel
theorem d_HoldQueueModel_init_0 : decode c_HoldQueueModel_init 0 = .ok (.aload_n 0, 1) := by decide +kernel
theorem d_HoldQueueModel_init_1 : decode c_HoldQueueModel_init 1 = .ok (.invokespecial 1, 3) := by decide +kernel
theorem d_HoldQueueModel_init_4 : decode c_HoldQueueModel_init 4 = .ok (.aload_n 0, 1) := by decide +kernel
theorem d_HoldQueueModel_init_5 : decode c_HoldQueueModel_init 5 = .ok (.bipush 31, 2) := by decide +kernel
theorem d_HoldQueueModel_init_7 : decode c_HoldQueueModel_init 7 = .ok (.newarray .int, 2) := by decide +kernel
theorem d_HoldQueueModel_init_9 : decode c_HoldQueueModel_init 9 = .ok (.putfield 7, 3) := by decide +kernel
theorem d_HoldQueueModel_init_12 : decode c_HoldQueueModel_init 12 = .ok (.aload_n 0, 1) := by decide +kernel
theorem d_HoldQueueModel_init_13 : decode c_HoldQueueModel_init 13 = .ok (.iconst 4, 1) := by decide +kernel
theorem d_HoldQueueModel_init_14 : decode c_HoldQueueModel_init 14 = .ok (.newarray .boolean, 2) := by decide +kernel
theorem d_HoldQueueModel_init_16 : decode c_HoldQueueModel_init 16 = .ok (.putfield 13, 3) := by decide +kernel
theorem d_HoldQueueModel_init_19 : decode c_HoldQueueModel_init 19 = .ok (.aload_n 0, 1) := by decide +kernel
theorem d_HoldQueueModel_init_20 : decode c_HoldQueueModel_init 20 = .ok (.bipush 40, 2) := by decide +kernel
theorem d_HoldQueueModel_init_22 : decode c_HoldQueueModel_init 22 = .ok (.newarray .int, 2) := by decide +kernel
theorem d_HoldQueueModel_init_24 : decode c_HoldQueueModel_init 24 = .ok (.putfield 17, 3) := by decide +kernel
theorem d_HoldQueueModel_init_27 : decode c_HoldQueueModel_init 27 = .ok (.aload_n 0, 1) := by decide +kernel
theorem d_HoldQueueModel_init_28 : decode c_HoldQueueModel_init 28 = .ok (.bipush 7, 2) := by decide +kernel
theorem d_HoldQueueModel_init_30 : decode c_HoldQueueModel_init 30 = .ok (.putfield 20, 3) := by decide +kernel
theorem d_HoldQueueModel_init_33 : decode c_HoldQueueModel_init 33 = .ok (.aload_n 0, 1) := by decide +kernel
theorem d_HoldQueueModel_init_34 : decode c_HoldQueueModel_init 34 = .ok (.bipush 61, 2) := by decide +kernel
theorem d_HoldQueueModel_init_36 : decode c_HoldQueueModel_init 36 = .ok (.newarray .int, 2) := by decide +kernel
theorem d_HoldQueueModel_init_38 : decode c_HoldQueueModel_init 38 = .ok (.putfield 24, 3) := by decide +kernel
theorem d_HoldQueueModel_init_41 : decode c_HoldQueueModel_init 41 = .ok (.aload_n 0, 1) := by decide +kernel
theorem d_HoldQueueModel_init_42 : decode c_HoldQueueModel_init 42 = .ok (.bipush 61, 2) := by decide +kernel
theorem d_HoldQueueModel_init_44 : decode c_HoldQueueModel_init 44 = .ok (.newarray .int, 2) := by decide +kernel
theorem d_HoldQueueModel_init_46 : decode c_HoldQueueModel_init 46 = .ok (.putfield 27, 3) := by decide +kernel
theorem d_HoldQueueModel_init_49 : decode c_HoldQueueModel_init 49 = .ok (.aload_n 0, 1) := by decide +kernel
theorem d_HoldQueueModel_init_50 : decode c_HoldQueueModel_init 50 = .ok (.bipush 61, 2) := by decide +kernel
theorem d_HoldQueueModel_init_52 : decode c_HoldQueueModel_init 52 = .ok (.newarray .int, 2) := by decide +kernel
theorem d_HoldQueueModel_init_54 : decode c_HoldQueueModel_init 54 = .ok (.putfield 30, 3) := by decide +kernel
theorem d_HoldQueueModel_init_57 : decode c_HoldQueueModel_init 57 = .ok (.aload_n 0, 1) := by decide +kernel
theorem d_HoldQueueModel_init_58 : decode c_HoldQueueModel_init 58 = .ok (.bipush 61, 2) := by decide +kernel
theorem d_HoldQueueModel_init_60 : decode c_HoldQueueModel_init 60 = .ok (.newarray .int, 2) := by decide +kernel
theorem d_HoldQueueModel_init_62 : decode c_HoldQueueModel_init 62 = .ok (.putfield 33, 3) := by decide +kernel
theorem d_HoldQueueModel_init_65 : decode c_HoldQueueModel_init 65 = .ok (.aload_n 0, 1) := by decide +kernel
theorem d_HoldQueueModel_init_66 : decode c_HoldQueueModel_init 66 = .ok (.bipush 121, 2) := by decide +kernel
theorem d_HoldQueueModel_init_68 : decode c_HoldQueueModel_init 68 = .ok (.newarray .int, 2) := by decide +kernel
theorem d_HoldQueueModel_init_70 : decode c_HoldQueueModel_init 70 = .ok (.putfield 36, 3) := by decide +kernel
theorem d_HoldQueueModel_init_73 : decode c_HoldQueueModel_init 73 = .ok (.aload_n 0, 1) := by decide +kernel
theorem d_HoldQueueModel_init_74 : decode c_HoldQueueModel_init 74 = .ok (.bipush 121, 2) := by decide +kernel
theorem d_HoldQueueModel_init_76 : decode c_HoldQueueModel_init 76 = .ok (.newarray .int, 2) := by decide +kernel
theorem d_HoldQueueModel_init_78 : decode c_HoldQueueModel_init 78 = .ok (.putfield 39, 3) := by decide +kernel
theorem d_HoldQueueModel_init_81 : decode c_HoldQueueModel_init 81 = .ok (.aload_n 0, 1) := by decide +kernel
theorem d_HoldQueueModel_init_82 : decode c_HoldQueueModel_init 82 = .ok (.bipush 121, 2) := by decide +kernel
theorem d_HoldQueueModel_init_84 : decode c_HoldQueueModel_init 84 = .ok (.newarray .int, 2) := by decide +kernel
theorem d_HoldQueueModel_init_86 : decode c_HoldQueueModel_init 86 = .ok (.putfield 42, 3) := by decide +kernel
theorem d_HoldQueueModel_init_89 : decode c_HoldQueueModel_init 89 = .ok (.aload_n 0, 1) := by decide +kernel
theorem d_HoldQueueModel_init_90 : decode c_HoldQueueModel_init 90 = .ok (.bipush 121, 2) := by decide +kernel
theorem d_HoldQueueModel_init_92 : decode c_HoldQueueModel_init 92 = .ok (.newarray .int, 2) := by decide +kernel
theorem d_HoldQueueModel_init_94 : decode c_HoldQueueModel_init 94 = .ok (.putfield 45, 3) := by decide +kernel
theorem d_HoldQueueModel_init_97 : decode c_HoldQueueModel_init 97 = .ok (.aload_n 0, 1) := by decide +kernel
theorem d_HoldQueueModel_init_98 : decode c_HoldQueueModel_init 98 = .ok (.bipush 121, 2) := by decide +kernel
theorem d_HoldQueueModel_init_100 : decode c_HoldQueueModel_init 100 = .ok (.newarray .int, 2) := by decide +kernel
theorem d_HoldQueueModel_init_102 : decode c_HoldQueueModel_init 102 = .ok (.putfield 48, 3) := by decide +kernel
theorem d_HoldQueueModel_init_105 : decode c_HoldQueueModel_init 105 = .ok (.aload_n 0, 1) := by decide +kernel
theorem d_HoldQueueModel_init_106 : decode c_HoldQueueModel_init 106 = .ok (.bipush 121, 2) := by decide +kernel
theorem d_HoldQueueModel_init_108 : decode c_HoldQueueModel_init 108 = .ok (.newarray .int, 2) := by decide +kernel
theorem d_HoldQueueModel_init_110 : decode c_HoldQueueModel_init 110 = .ok (.putfield 51, 3) := by decide +kernel
theorem d_HoldQueueModel_init_113 : decode c_HoldQueueModel_init 113 = .ok (.aload_n 0, 1) := by decide +kernel
theorem d_HoldQueueModel_init_114 : decode c_HoldQueueModel_init 114 = .ok (.bipush 121, 2) := by decide +kernel
theorem d_HoldQueueModel_init_116 : decode c_HoldQueueModel_init 116 = .ok (.newarray .long, 2) := by decide +kernel
theorem d_HoldQueueModel_init_118 : decode c_HoldQueueModel_init 118 = .ok (.putfield 54, 3) := by decide +kernel
theorem d_HoldQueueModel_init_121 : decode c_HoldQueueModel_init 121 = .ok (.aload_n 0, 1) := by decide +kernel
theorem d_HoldQueueModel_init_122 : decode c_HoldQueueModel_init 122 = .ok (.bipush 121, 2) := by decide +kernel
theorem d_HoldQueueModel_init_124 : decode c_HoldQueueModel_init 124 = .ok (.newarray .long, 2) := by decide +kernel
theorem d_HoldQueueModel_init_126 : decode c_HoldQueueModel_init 126 = .ok (.putfield 58, 3) := by decide +kernel
theorem d_HoldQueueModel_init_129 : decode c_HoldQueueModel_init 129 = .ok (.iconst 0, 1) := by decide +kernel
theorem d_HoldQueueModel_init_130 : decode c_HoldQueueModel_init 130 = .ok (.istore_n 1, 1) := by decide +kernel
theorem d_HoldQueueModel_init_131 : decode c_HoldQueueModel_init 131 = .ok (.iload_n 1, 1) := by decide +kernel
theorem d_HoldQueueModel_init_132 : decode c_HoldQueueModel_init 132 = .ok (.bipush 40, 2) := by decide +kernel
theorem d_HoldQueueModel_init_134 : decode c_HoldQueueModel_init 134 = .ok (.if_icmp .ge 16, 3) := by decide +kernel
theorem d_HoldQueueModel_init_137 : decode c_HoldQueueModel_init 137 = .ok (.aload_n 0, 1) := by decide +kernel
theorem d_HoldQueueModel_init_138 : decode c_HoldQueueModel_init 138 = .ok (.getfield 17, 3) := by decide +kernel
theorem d_HoldQueueModel_init_141 : decode c_HoldQueueModel_init 141 = .ok (.iload_n 1, 1) := by decide +kernel
theorem d_HoldQueueModel_init_142 : decode c_HoldQueueModel_init 142 = .ok (.iconst 3, 1) := by decide +kernel
theorem d_HoldQueueModel_init_143 : decode c_HoldQueueModel_init 143 = .ok (.iastore, 1) := by decide +kernel
theorem d_HoldQueueModel_init_144 : decode c_HoldQueueModel_init 144 = .ok (.iinc 1 1, 3) := by decide +kernel
theorem d_HoldQueueModel_init_147 : decode c_HoldQueueModel_init 147 = .ok (.goto (-16), 3) := by decide +kernel
theorem d_HoldQueueModel_init_150 : decode c_HoldQueueModel_init 150 = .ok (.return_, 1) := by decide +kernel
theorem d_HoldQueueModel_in_0 : decode c_HoldQueueModel_in 0 = .ok (.iload_n 0, 1) := by decide +kernel
theorem d_HoldQueueModel_in_1 : decode c_HoldQueueModel_in 1 = .ok (.iload_n 1, 1) := by decide +kernel
theorem d_HoldQueueModel_in_2 : decode c_HoldQueueModel_in 2 = .ok (.if_icmp .lt 12, 3) := by decide +kernel
theorem d_HoldQueueModel_in_5 : decode c_HoldQueueModel_in 5 = .ok (.iload_n 0, 1) := by decide +kernel
theorem d_HoldQueueModel_in_6 : decode c_HoldQueueModel_in 6 = .ok (.iload_n 2, 1) := by decide +kernel
theorem d_HoldQueueModel_in_7 : decode c_HoldQueueModel_in 7 = .ok (.if_icmp .gt 7, 3) := by decide +kernel
theorem d_HoldQueueModel_in_10 : decode c_HoldQueueModel_in 10 = .ok (.iconst 1, 1) := by decide +kernel
theorem d_HoldQueueModel_in_11 : decode c_HoldQueueModel_in 11 = .ok (.goto 4, 3) := by decide +kernel
theorem d_HoldQueueModel_in_14 : decode c_HoldQueueModel_in 14 = .ok (.iconst 0, 1) := by decide +kernel
theorem d_HoldQueueModel_in_15 : decode c_HoldQueueModel_in 15 = .ok (.ireturn, 1) := by decide +kernel
theorem d_HoldQueueModel_record_0 : decode c_HoldQueueModel_record 0 = .ok (.aload_n 0, 1) := by decide +kernel
theorem d_HoldQueueModel_record_1 : decode c_HoldQueueModel_record 1 = .ok (.iconst 0, 1) := by decide +kernel
theorem d_HoldQueueModel_record_2 : decode c_HoldQueueModel_record 2 = .ok (.putfield 61, 3) := by decide +kernel
theorem d_HoldQueueModel_record_5 : decode c_HoldQueueModel_record 5 = .ok (.iload_n 1, 1) := by decide +kernel
theorem d_HoldQueueModel_record_6 : decode c_HoldQueueModel_record 6 = .ok (.iconst 0, 1) := by decide +kernel
theorem d_HoldQueueModel_record_7 : decode c_HoldQueueModel_record 7 = .ok (.iconst 3, 1) := by decide +kernel
theorem d_HoldQueueModel_record_8 : decode c_HoldQueueModel_record 8 = .ok (.invokestatic 64, 3) := by decide +kernel
theorem d_HoldQueueModel_record_11 : decode c_HoldQueueModel_record 11 = .ok (.ifCond .eq 12, 3) := by decide +kernel
theorem d_HoldQueueModel_record_14 : decode c_HoldQueueModel_record 14 = .ok (.aload_n 0, 1) := by decide +kernel
theorem d_HoldQueueModel_record_15 : decode c_HoldQueueModel_record 15 = .ok (.getfield 68, 3) := by decide +kernel
theorem d_HoldQueueModel_record_18 : decode c_HoldQueueModel_record 18 = .ok (.bipush 30, 2) := by decide +kernel
theorem d_HoldQueueModel_record_20 : decode c_HoldQueueModel_record 20 = .ok (.if_icmp .ne 5, 3) := by decide +kernel
theorem d_HoldQueueModel_record_23 : decode c_HoldQueueModel_record 23 = .ok (.iconst 0, 1) := by decide +kernel
theorem d_HoldQueueModel_record_24 : decode c_HoldQueueModel_record 24 = .ok (.ireturn, 1) := by decide +kernel
theorem d_HoldQueueModel_record_25 : decode c_HoldQueueModel_record 25 = .ok (.aload_n 0, 1) := by decide +kernel
theorem d_HoldQueueModel_record_26 : decode c_HoldQueueModel_record 26 = .ok (.dup, 1) := by decide +kernel
theorem d_HoldQueueModel_record_27 : decode c_HoldQueueModel_record 27 = .ok (.getfield 68, 3) := by decide +kernel
theorem d_HoldQueueModel_record_30 : decode c_HoldQueueModel_record 30 = .ok (.iconst 1, 1) := by decide +kernel
theorem d_HoldQueueModel_record_31 : decode c_HoldQueueModel_record 31 = .ok (.iadd, 1) := by decide +kernel
theorem d_HoldQueueModel_record_32 : decode c_HoldQueueModel_record 32 = .ok (.putfield 68, 3) := by decide +kernel
theorem d_HoldQueueModel_record_35 : decode c_HoldQueueModel_record 35 = .ok (.aload_n 0, 1) := by decide +kernel
theorem d_HoldQueueModel_record_36 : decode c_HoldQueueModel_record 36 = .ok (.getfield 7, 3) := by decide +kernel
theorem d_HoldQueueModel_record_39 : decode c_HoldQueueModel_record 39 = .ok (.aload_n 0, 1) := by decide +kernel
theorem d_HoldQueueModel_record_40 : decode c_HoldQueueModel_record 40 = .ok (.getfield 68, 3) := by decide +kernel
theorem d_HoldQueueModel_record_43 : decode c_HoldQueueModel_record 43 = .ok (.iload_n 1, 1) := by decide +kernel
theorem d_HoldQueueModel_record_44 : decode c_HoldQueueModel_record 44 = .ok (.iastore, 1) := by decide +kernel
theorem d_HoldQueueModel_record_45 : decode c_HoldQueueModel_record 45 = .ok (.aload_n 0, 1) := by decide +kernel
theorem d_HoldQueueModel_record_46 : decode c_HoldQueueModel_record 46 = .ok (.getfield 68, 3) := by decide +kernel
theorem d_HoldQueueModel_record_49 : decode c_HoldQueueModel_record 49 = .ok (.ireturn, 1) := by decide +kernel
theorem d_HoldQueueModel_copy_0 : decode c_HoldQueueModel_copy 0 = .ok (.aload_n 0, 1) := by decide +kernel
theorem d_HoldQueueModel_copy_1 : decode c_HoldQueueModel_copy 1 = .ok (.iconst 0, 1) := by decide +kernel
theorem d_HoldQueueModel_copy_2 : decode c_HoldQueueModel_copy 2 = .ok (.putfield 61, 3) := by decide +kernel
theorem d_HoldQueueModel_copy_5 : decode c_HoldQueueModel_copy 5 = .ok (.iload_n 1, 1) := by decide +kernel
theorem d_HoldQueueModel_copy_6 : decode c_HoldQueueModel_copy 6 = .ok (.iconst 1, 1) := by decide +kernel
theorem d_HoldQueueModel_copy_7 : decode c_HoldQueueModel_copy 7 = .ok (.aload_n 0, 1) := by decide +kernel
theorem d_HoldQueueModel_copy_8 : decode c_HoldQueueModel_copy 8 = .ok (.getfield 68, 3) := by decide +kernel
theorem d_HoldQueueModel_copy_11 : decode c_HoldQueueModel_copy 11 = .ok (.invokestatic 64, 3) := by decide +kernel
theorem d_HoldQueueModel_copy_14 : decode c_HoldQueueModel_copy 14 = .ok (.ifCond .eq 21, 3) := by decide +kernel
theorem d_HoldQueueModel_copy_17 : decode c_HoldQueueModel_copy 17 = .ok (.iload_n 2, 1) := by decide +kernel
theorem d_HoldQueueModel_copy_18 : decode c_HoldQueueModel_copy 18 = .ok (.iconst 0, 1) := by decide +kernel
theorem d_HoldQueueModel_copy_19 : decode c_HoldQueueModel_copy 19 = .ok (.iconst 5, 1) := by decide +kernel
theorem d_HoldQueueModel_copy_20 : decode c_HoldQueueModel_copy 20 = .ok (.invokestatic 64, 3) := by decide +kernel
theorem d_HoldQueueModel_copy_23 : decode c_HoldQueueModel_copy 23 = .ok (.ifCond .eq 12, 3) := by decide +kernel
theorem d_HoldQueueModel_copy_26 : decode c_HoldQueueModel_copy 26 = .ok (.aload_n 0, 1) := by decide +kernel
theorem d_HoldQueueModel_copy_27 : decode c_HoldQueueModel_copy 27 = .ok (.getfield 71, 3) := by decide +kernel
theorem d_HoldQueueModel_copy_30 : decode c_HoldQueueModel_copy 30 = .ok (.bipush 60, 2) := by decide +kernel
theorem d_HoldQueueModel_copy_32 : decode c_HoldQueueModel_copy 32 = .ok (.if_icmp .ne 5, 3) := by decide +kernel
theorem d_HoldQueueModel_copy_35 : decode c_HoldQueueModel_copy 35 = .ok (.iconst 0, 1) := by decide +kernel
theorem d_HoldQueueModel_copy_36 : decode c_HoldQueueModel_copy 36 = .ok (.ireturn, 1) := by decide +kernel
theorem d_HoldQueueModel_copy_37 : decode c_HoldQueueModel_copy 37 = .ok (.aload_n 0, 1) := by decide +kernel
theorem d_HoldQueueModel_copy_38 : decode c_HoldQueueModel_copy 38 = .ok (.dup, 1) := by decide +kernel
theorem d_HoldQueueModel_copy_39 : decode c_HoldQueueModel_copy 39 = .ok (.getfield 71, 3) := by decide +kernel
theorem d_HoldQueueModel_copy_42 : decode c_HoldQueueModel_copy 42 = .ok (.iconst 1, 1) := by decide +kernel
theorem d_HoldQueueModel_copy_43 : decode c_HoldQueueModel_copy 43 = .ok (.iadd, 1) := by decide +kernel
theorem d_HoldQueueModel_copy_44 : decode c_HoldQueueModel_copy 44 = .ok (.putfield 71, 3) := by decide +kernel
theorem d_HoldQueueModel_copy_47 : decode c_HoldQueueModel_copy 47 = .ok (.aload_n 0, 1) := by decide +kernel
theorem d_HoldQueueModel_copy_48 : decode c_HoldQueueModel_copy 48 = .ok (.getfield 24, 3) := by decide +kernel
theorem d_HoldQueueModel_copy_51 : decode c_HoldQueueModel_copy 51 = .ok (.aload_n 0, 1) := by decide +kernel
theorem d_HoldQueueModel_copy_52 : decode c_HoldQueueModel_copy 52 = .ok (.getfield 71, 3) := by decide +kernel
theorem d_HoldQueueModel_copy_55 : decode c_HoldQueueModel_copy 55 = .ok (.iload_n 1, 1) := by decide +kernel
theorem d_HoldQueueModel_copy_56 : decode c_HoldQueueModel_copy 56 = .ok (.iastore, 1) := by decide +kernel
theorem d_HoldQueueModel_copy_57 : decode c_HoldQueueModel_copy 57 = .ok (.aload_n 0, 1) := by decide +kernel
theorem d_HoldQueueModel_copy_58 : decode c_HoldQueueModel_copy 58 = .ok (.getfield 27, 3) := by decide +kernel
theorem d_HoldQueueModel_copy_61 : decode c_HoldQueueModel_copy 61 = .ok (.aload_n 0, 1) := by decide +kernel
theorem d_HoldQueueModel_copy_62 : decode c_HoldQueueModel_copy 62 = .ok (.getfield 71, 3) := by decide +kernel
theorem d_HoldQueueModel_copy_65 : decode c_HoldQueueModel_copy 65 = .ok (.iconst 1, 1) := by decide +kernel
theorem d_HoldQueueModel_copy_66 : decode c_HoldQueueModel_copy 66 = .ok (.iastore, 1) := by decide +kernel
theorem d_HoldQueueModel_copy_67 : decode c_HoldQueueModel_copy 67 = .ok (.aload_n 0, 1) := by decide +kernel
theorem d_HoldQueueModel_copy_68 : decode c_HoldQueueModel_copy 68 = .ok (.getfield 30, 3) := by decide +kernel
theorem d_HoldQueueModel_copy_71 : decode c_HoldQueueModel_copy 71 = .ok (.aload_n 0, 1) := by decide +kernel
theorem d_HoldQueueModel_copy_72 : decode c_HoldQueueModel_copy 72 = .ok (.getfield 71, 3) := by decide +kernel
theorem d_HoldQueueModel_copy_75 : decode c_HoldQueueModel_copy 75 = .ok (.iload_n 2, 1) := by decide +kernel
theorem d_HoldQueueModel_copy_76 : decode c_HoldQueueModel_copy 76 = .ok (.iastore, 1) := by decide +kernel
theorem d_HoldQueueModel_copy_77 : decode c_HoldQueueModel_copy 77 = .ok (.aload_n 0, 1) := by decide +kernel
theorem d_HoldQueueModel_copy_78 : decode c_HoldQueueModel_copy 78 = .ok (.getfield 33, 3) := by decide +kernel
theorem d_HoldQueueModel_copy_81 : decode c_HoldQueueModel_copy 81 = .ok (.aload_n 0, 1) := by decide +kernel
theorem d_HoldQueueModel_copy_82 : decode c_HoldQueueModel_copy 82 = .ok (.getfield 71, 3) := by decide +kernel
theorem d_HoldQueueModel_copy_85 : decode c_HoldQueueModel_copy 85 = .ok (.iconst 0, 1) := by decide +kernel
theorem d_HoldQueueModel_copy_86 : decode c_HoldQueueModel_copy 86 = .ok (.iastore, 1) := by decide +kernel
theorem d_HoldQueueModel_copy_87 : decode c_HoldQueueModel_copy 87 = .ok (.aload_n 0, 1) := by decide +kernel
theorem d_HoldQueueModel_copy_88 : decode c_HoldQueueModel_copy 88 = .ok (.getfield 71, 3) := by decide +kernel
theorem d_HoldQueueModel_copy_91 : decode c_HoldQueueModel_copy 91 = .ok (.ireturn, 1) := by decide +kernel
theorem d_HoldQueueModel_bar_0 : decode c_HoldQueueModel_bar 0 = .ok (.aload_n 0, 1) := by decide +kernel
theorem d_HoldQueueModel_bar_1 : decode c_HoldQueueModel_bar 1 = .ok (.iconst 0, 1) := by decide +kernel
theorem d_HoldQueueModel_bar_2 : decode c_HoldQueueModel_bar 2 = .ok (.putfield 61, 3) := by decide +kernel
theorem d_HoldQueueModel_bar_5 : decode c_HoldQueueModel_bar 5 = .ok (.iload_n 1, 1) := by decide +kernel
theorem d_HoldQueueModel_bar_6 : decode c_HoldQueueModel_bar 6 = .ok (.iconst 0, 1) := by decide +kernel
theorem d_HoldQueueModel_bar_7 : decode c_HoldQueueModel_bar 7 = .ok (.iconst 3, 1) := by decide +kernel
theorem d_HoldQueueModel_bar_8 : decode c_HoldQueueModel_bar 8 = .ok (.invokestatic 64, 3) := by decide +kernel
theorem d_HoldQueueModel_bar_11 : decode c_HoldQueueModel_bar 11 = .ok (.ifCond .ne 5, 3) := by decide +kernel
theorem d_HoldQueueModel_bar_14 : decode c_HoldQueueModel_bar 14 = .ok (.iconst 0, 1) := by decide +kernel
theorem d_HoldQueueModel_bar_15 : decode c_HoldQueueModel_bar 15 = .ok (.ireturn, 1) := by decide +kernel
theorem d_HoldQueueModel_bar_16 : decode c_HoldQueueModel_bar 16 = .ok (.aload_n 0, 1) := by decide +kernel
theorem d_HoldQueueModel_bar_17 : decode c_HoldQueueModel_bar 17 = .ok (.getfield 13, 3) := by decide +kernel
theorem d_HoldQueueModel_bar_20 : decode c_HoldQueueModel_bar 20 = .ok (.iload_n 1, 1) := by decide +kernel
theorem d_HoldQueueModel_bar_21 : decode c_HoldQueueModel_bar 21 = .ok (.baload, 1) := by decide +kernel
theorem d_HoldQueueModel_bar_22 : decode c_HoldQueueModel_bar 22 = .ok (.istore_n 3, 1) := by decide +kernel
theorem d_HoldQueueModel_bar_23 : decode c_HoldQueueModel_bar 23 = .ok (.aload_n 0, 1) := by decide +kernel
theorem d_HoldQueueModel_bar_24 : decode c_HoldQueueModel_bar 24 = .ok (.getfield 13, 3) := by decide +kernel
theorem d_HoldQueueModel_bar_27 : decode c_HoldQueueModel_bar 27 = .ok (.iload_n 1, 1) := by decide +kernel
theorem d_HoldQueueModel_bar_28 : decode c_HoldQueueModel_bar 28 = .ok (.iload_n 2, 1) := by decide +kernel
theorem d_HoldQueueModel_bar_29 : decode c_HoldQueueModel_bar 29 = .ok (.bastore, 1) := by decide +kernel
theorem d_HoldQueueModel_bar_30 : decode c_HoldQueueModel_bar 30 = .ok (.iload_n 3, 1) := by decide +kernel
theorem d_HoldQueueModel_bar_31 : decode c_HoldQueueModel_bar 31 = .ok (.ireturn, 1) := by decide +kernel
theorem d_HoldQueueModel_isOpen_0 : decode c_HoldQueueModel_isOpen 0 = .ok (.aload_n 0, 1) := by decide +kernel
theorem d_HoldQueueModel_isOpen_1 : decode c_HoldQueueModel_isOpen 1 = .ok (.getfield 48, 3) := by decide +kernel
theorem d_HoldQueueModel_isOpen_4 : decode c_HoldQueueModel_isOpen 4 = .ok (.iload_n 1, 1) := by decide +kernel
theorem d_HoldQueueModel_isOpen_5 : decode c_HoldQueueModel_isOpen 5 = .ok (.iaload, 1) := by decide +kernel
theorem d_HoldQueueModel_isOpen_6 : decode c_HoldQueueModel_isOpen 6 = .ok (.iconst 2, 1) := by decide +kernel
theorem d_HoldQueueModel_isOpen_7 : decode c_HoldQueueModel_isOpen 7 = .ok (.if_icmp .gt 7, 3) := by decide +kernel
theorem d_HoldQueueModel_isOpen_10 : decode c_HoldQueueModel_isOpen 10 = .ok (.iconst 1, 1) := by decide +kernel
theorem d_HoldQueueModel_isOpen_11 : decode c_HoldQueueModel_isOpen 11 = .ok (.goto 4, 3) := by decide +kernel
theorem d_HoldQueueModel_isOpen_14 : decode c_HoldQueueModel_isOpen 14 = .ok (.iconst 0, 1) := by decide +kernel
theorem d_HoldQueueModel_isOpen_15 : decode c_HoldQueueModel_isOpen 15 = .ok (.ireturn, 1) := by decide +kernel
theorem d_HoldQueueModel_isAhead_0 : decode c_HoldQueueModel_isAhead 0 = .ok (.aload_n 0, 1) := by decide +kernel
theorem d_HoldQueueModel_isAhead_1 : decode c_HoldQueueModel_isAhead 1 = .ok (.getfield 45, 3) := by decide +kernel
theorem d_HoldQueueModel_isAhead_4 : decode c_HoldQueueModel_isAhead 4 = .ok (.iload_n 1, 1) := by decide +kernel
theorem d_HoldQueueModel_isAhead_5 : decode c_HoldQueueModel_isAhead 5 = .ok (.iaload, 1) := by decide +kernel
