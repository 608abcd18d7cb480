theorem d_HoldQueue_order_13 : decode c_HoldQueue_order 13 = .ok (.iload_n 2, 1) := by decide +kernel
theorem d_HoldQueue_order_14 : decode c_HoldQueue_order 14 = .ok (.invokevirtual 139, 3) := by decide +kernel
theorem d_HoldQueue_order_17 : decode c_HoldQueue_order 17 = .ok (.goto 4, 3) := by decide +kernel
theorem d_HoldQueue_order_20 : decode c_HoldQueue_order 20 = .ok (.iconst 0, 1) := by decide +kernel
theorem d_HoldQueue_order_21 : decode c_HoldQueue_order 21 = .ok (.ireturn, 1) := by decide +kernel
theorem d_HoldQueue_state_0 : decode c_HoldQueue_state 0 = .ok (.aload_n 0, 1) := by decide +kernel
theorem d_HoldQueue_state_1 : decode c_HoldQueue_state 1 = .ok (.getfield 34, 3) := by decide +kernel
theorem d_HoldQueue_state_4 : decode c_HoldQueue_state 4 = .ok (.iload_n 1, 1) := by decide +kernel
theorem d_HoldQueue_state_5 : decode c_HoldQueue_state 5 = .ok (.invokevirtual 142, 3) := by decide +kernel
theorem d_HoldQueue_state_8 : decode c_HoldQueue_state 8 = .ok (.ifCond .ne 5, 3) := by decide +kernel
theorem d_HoldQueue_state_11 : decode c_HoldQueue_state 11 = .ok (.iconst (-1), 1) := by decide +kernel
theorem d_HoldQueue_state_12 : decode c_HoldQueue_state 12 = .ok (.ireturn, 1) := by decide +kernel
theorem d_HoldQueue_state_13 : decode c_HoldQueue_state 13 = .ok (.iload_n 2, 1) := by decide +kernel
theorem d_HoldQueue_state_14 : decode c_HoldQueue_state 14 = .ok (.tableswitch 71 0 2 #[26, 36, 46], 26) := by decide +kernel
theorem d_HoldQueue_state_40 : decode c_HoldQueue_state 40 = .ok (.aload_n 0, 1) := by decide +kernel
theorem d_HoldQueue_state_41 : decode c_HoldQueue_state 41 = .ok (.getfield 34, 3) := by decide +kernel
theorem d_HoldQueue_state_44 : decode c_HoldQueue_state 44 = .ok (.getfield 114, 3) := by decide +kernel
theorem d_HoldQueue_state_47 : decode c_HoldQueue_state 47 = .ok (.iload_n 1, 1) := by decide +kernel
theorem d_HoldQueue_state_48 : decode c_HoldQueue_state 48 = .ok (.iaload, 1) := by decide +kernel
theorem d_HoldQueue_state_49 : decode c_HoldQueue_state 49 = .ok (.ireturn, 1) := by decide +kernel
theorem d_HoldQueue_state_50 : decode c_HoldQueue_state 50 = .ok (.aload_n 0, 1) := by decide +kernel
theorem d_HoldQueue_state_51 : decode c_HoldQueue_state 51 = .ok (.getfield 34, 3) := by decide +kernel
theorem d_HoldQueue_state_54 : decode c_HoldQueue_state 54 = .ok (.getfield 111, 3) := by decide +kernel
theorem d_HoldQueue_state_57 : decode c_HoldQueue_state 57 = .ok (.iload_n 1, 1) := by decide +kernel
theorem d_HoldQueue_state_58 : decode c_HoldQueue_state 58 = .ok (.iaload, 1) := by decide +kernel
theorem d_HoldQueue_state_59 : decode c_HoldQueue_state 59 = .ok (.ireturn, 1) := by decide +kernel
theorem d_HoldQueue_state_60 : decode c_HoldQueue_state 60 = .ok (.aload_n 0, 1) := by decide +kernel
theorem d_HoldQueue_state_61 : decode c_HoldQueue_state 61 = .ok (.getfield 34, 3) := by decide +kernel
theorem d_HoldQueue_state_64 : decode c_HoldQueue_state 64 = .ok (.iload_n 1, 1) := by decide +kernel
theorem d_HoldQueue_state_65 : decode c_HoldQueue_state 65 = .ok (.iconst 0, 1) := by decide +kernel
theorem d_HoldQueue_state_66 : decode c_HoldQueue_state 66 = .ok (.invokevirtual 90, 3) := by decide +kernel
theorem d_HoldQueue_state_69 : decode c_HoldQueue_state 69 = .ok (.ifCond .eq 14, 3) := by decide +kernel
theorem d_HoldQueue_state_72 : decode c_HoldQueue_state 72 = .ok (.aload_n 0, 1) := by decide +kernel
theorem d_HoldQueue_state_73 : decode c_HoldQueue_state 73 = .ok (.getfield 34, 3) := by decide +kernel
theorem d_HoldQueue_state_76 : decode c_HoldQueue_state 76 = .ok (.iload_n 1, 1) := by decide +kernel
theorem d_HoldQueue_state_77 : decode c_HoldQueue_state 77 = .ok (.invokevirtual 136, 3) := by decide +kernel
theorem d_HoldQueue_state_80 : decode c_HoldQueue_state 80 = .ok (.goto 4, 3) := by decide +kernel
theorem d_HoldQueue_state_83 : decode c_HoldQueue_state 83 = .ok (.iconst (-1), 1) := by decide +kernel
theorem d_HoldQueue_state_84 : decode c_HoldQueue_state 84 = .ok (.ireturn, 1) := by decide +kernel
theorem d_HoldQueue_state_85 : decode c_HoldQueue_state 85 = .ok (.iconst (-1), 1) := by decide +kernel
theorem d_HoldQueue_state_86 : decode c_HoldQueue_state 86 = .ok (.ireturn, 1) := by decide +kernel
theorem d_HoldQueue_where_0 : decode c_HoldQueue_where 0 = .ok (.aload_n 0, 1) := by decide +kernel
theorem d_HoldQueue_where_1 : decode c_HoldQueue_where 1 = .ok (.getfield 27, 3) := by decide +kernel
theorem d_HoldQueue_where_4 : decode c_HoldQueue_where 4 = .ok (.iload_n 1, 1) := by decide +kernel
theorem d_HoldQueue_where_5 : decode c_HoldQueue_where 5 = .ok (.invokevirtual 145, 3) := by decide +kernel
theorem d_HoldQueue_where_8 : decode c_HoldQueue_where 8 = .ok (.ifCond .ne 5, 3) := by decide +kernel
theorem d_HoldQueue_where_11 : decode c_HoldQueue_where 11 = .ok (.iconst (-1), 1) := by decide +kernel
theorem d_HoldQueue_where_12 : decode c_HoldQueue_where 12 = .ok (.ireturn, 1) := by decide +kernel
theorem d_HoldQueue_where_13 : decode c_HoldQueue_where 13 = .ok (.iload_n 2, 1) := by decide +kernel
theorem d_HoldQueue_where_14 : decode c_HoldQueue_where 14 = .ok (.tableswitch 56 0 2 #[26, 36, 46], 26) := by decide +kernel
theorem d_HoldQueue_where_40 : decode c_HoldQueue_where 40 = .ok (.aload_n 0, 1) := by decide +kernel
theorem d_HoldQueue_where_41 : decode c_HoldQueue_where 41 = .ok (.getfield 27, 3) := by decide +kernel
theorem d_HoldQueue_where_44 : decode c_HoldQueue_where 44 = .ok (.getfield 117, 3) := by decide +kernel
theorem d_HoldQueue_where_47 : decode c_HoldQueue_where 47 = .ok (.iload_n 1, 1) := by decide +kernel
theorem d_HoldQueue_where_48 : decode c_HoldQueue_where 48 = .ok (.iaload, 1) := by decide +kernel
theorem d_HoldQueue_where_49 : decode c_HoldQueue_where 49 = .ok (.ireturn, 1) := by decide +kernel
theorem d_HoldQueue_where_50 : decode c_HoldQueue_where 50 = .ok (.aload_n 0, 1) := by decide +kernel
theorem d_HoldQueue_where_51 : decode c_HoldQueue_where 51 = .ok (.getfield 27, 3) := by decide +kernel
theorem d_HoldQueue_where_54 : decode c_HoldQueue_where 54 = .ok (.getfield 98, 3) := by decide +kernel
theorem d_HoldQueue_where_57 : decode c_HoldQueue_where 57 = .ok (.iload_n 1, 1) := by decide +kernel
theorem d_HoldQueue_where_58 : decode c_HoldQueue_where 58 = .ok (.iaload, 1) := by decide +kernel
theorem d_HoldQueue_where_59 : decode c_HoldQueue_where 59 = .ok (.ireturn, 1) := by decide +kernel
theorem d_HoldQueue_where_60 : decode c_HoldQueue_where 60 = .ok (.aload_n 0, 1) := by decide +kernel
theorem d_HoldQueue_where_61 : decode c_HoldQueue_where 61 = .ok (.getfield 27, 3) := by decide +kernel
theorem d_HoldQueue_where_64 : decode c_HoldQueue_where 64 = .ok (.getfield 101, 3) := by decide +kernel
theorem d_HoldQueue_where_67 : decode c_HoldQueue_where 67 = .ok (.iload_n 1, 1) := by decide +kernel
theorem d_HoldQueue_where_68 : decode c_HoldQueue_where 68 = .ok (.iaload, 1) := by decide +kernel
theorem d_HoldQueue_where_69 : decode c_HoldQueue_where 69 = .ok (.ireturn, 1) := by decide +kernel
theorem d_HoldQueue_where_70 : decode c_HoldQueue_where 70 = .ok (.iconst (-1), 1) := by decide +kernel
theorem d_HoldQueue_where_71 : decode c_HoldQueue_where 71 = .ok (.ireturn, 1) := by decide +kernel
theorem d_HoldQueue_isKind_0 : decode c_HoldQueue_isKind 0 = .ok (.iload_n 0, 1) := by decide +kernel
theorem d_HoldQueue_isKind_1 : decode c_HoldQueue_isKind 1 = .ok (.ifCond .lt 12, 3) := by decide +kernel
theorem d_HoldQueue_isKind_4 : decode c_HoldQueue_isKind 4 = .ok (.iload_n 0, 1) := by decide +kernel
theorem d_HoldQueue_isKind_5 : decode c_HoldQueue_isKind 5 = .ok (.iconst 4, 1) := by decide +kernel
theorem d_HoldQueue_isKind_6 : decode c_HoldQueue_isKind 6 = .ok (.if_icmp .ge 7, 3) := by decide +kernel
theorem d_HoldQueue_isKind_9 : decode c_HoldQueue_isKind 9 = .ok (.iconst 1, 1) := by decide +kernel
theorem d_HoldQueue_isKind_10 : decode c_HoldQueue_isKind 10 = .ok (.goto 4, 3) := by decide +kernel
theorem d_HoldQueue_isKind_13 : decode c_HoldQueue_isKind 13 = .ok (.iconst 0, 1) := by decide +kernel
theorem d_HoldQueue_isKind_14 : decode c_HoldQueue_isKind 14 = .ok (.ireturn, 1) := by decide +kernel
theorem d_HoldQueue_isPerson_0 : decode c_HoldQueue_isPerson 0 = .ok (.iload_n 0, 1) := by decide +kernel
theorem d_HoldQueue_isPerson_1 : decode c_HoldQueue_isPerson 1 = .ok (.ifCond .lt 13, 3) := by decide +kernel
theorem d_HoldQueue_isPerson_4 : decode c_HoldQueue_isPerson 4 = .ok (.iload_n 0, 1) := by decide +kernel
theorem d_HoldQueue_isPerson_5 : decode c_HoldQueue_isPerson 5 = .ok (.bipush 40, 2) := by decide +kernel
theorem d_HoldQueue_isPerson_7 : decode c_HoldQueue_isPerson 7 = .ok (.if_icmp .ge 7, 3) := by decide +kernel
theorem d_HoldQueue_isPerson_10 : decode c_HoldQueue_isPerson 10 = .ok (.iconst 1, 1) := by decide +kernel
theorem d_HoldQueue_isPerson_11 : decode c_HoldQueue_isPerson 11 = .ok (.goto 4, 3) := by decide +kernel
theorem d_HoldQueue_isPerson_14 : decode c_HoldQueue_isPerson 14 = .ok (.iconst 0, 1) := by decide +kernel
theorem d_HoldQueue_isPerson_15 : decode c_HoldQueue_isPerson 15 = .ok (.ireturn, 1) := by decide +kernel
theorem d_HoldQueue_isPlace_0 : decode c_HoldQueue_isPlace 0 = .ok (.iload_n 0, 1) := by decide +kernel
theorem d_HoldQueue_isPlace_1 : decode c_HoldQueue_isPlace 1 = .ok (.ifCond .lt 13, 3) := by decide +kernel
theorem d_HoldQueue_isPlace_4 : decode c_HoldQueue_isPlace 4 = .ok (.iload_n 0, 1) := by decide +kernel
theorem d_HoldQueue_isPlace_5 : decode c_HoldQueue_isPlace 5 = .ok (.bipush 6, 2) := by decide +kernel
theorem d_HoldQueue_isPlace_7 : decode c_HoldQueue_isPlace 7 = .ok (.if_icmp .ge 7, 3) := by decide +kernel
theorem d_HoldQueue_isPlace_10 : decode c_HoldQueue_isPlace 10 = .ok (.iconst 1, 1) := by decide +kernel
theorem d_HoldQueue_isPlace_11 : decode c_HoldQueue_isPlace 11 = .ok (.goto 4, 3) := by decide +kernel
theorem d_HoldQueue_isPlace_14 : decode c_HoldQueue_isPlace 14 = .ok (.iconst 0, 1) := by decide +kernel
theorem d_HoldQueue_isPlace_15 : decode c_HoldQueue_isPlace 15 = .ok (.ireturn, 1) := by decide +kernel
theorem d_HoldQueue_isRecord_0 : decode c_HoldQueue_isRecord 0 = .ok (.iload_n 1, 1) := by decide +kernel
theorem d_HoldQueue_isRecord_1 : decode c_HoldQueue_isRecord 1 = .ok (.iconst 1, 1) := by decide +kernel
theorem d_HoldQueue_isRecord_2 : decode c_HoldQueue_isRecord 2 = .ok (.if_icmp .lt 15, 3) := by decide +kernel
theorem d_HoldQueue_isRecord_5 : decode c_HoldQueue_isRecord 5 = .ok (.iload_n 1, 1) := by decide +kernel
theorem d_HoldQueue_isRecord_6 : decode c_HoldQueue_isRecord 6 = .ok (.aload_n 0, 1) := by decide +kernel
theorem d_HoldQueue_isRecord_7 : decode c_HoldQueue_isRecord 7 = .ok (.getfield 13, 3) := by decide +kernel
theorem d_HoldQueue_isRecord_10 : decode c_HoldQueue_isRecord 10 = .ok (.if_icmp .gt 7, 3) := by decide +kernel
theorem d_HoldQueue_isRecord_13 : decode c_HoldQueue_isRecord 13 = .ok (.iconst 1, 1) := by decide +kernel
theorem d_HoldQueue_isRecord_14 : decode c_HoldQueue_isRecord 14 = .ok (.goto 4, 3) := by decide +kernel
theorem d_HoldQueue_isRecord_17 : decode c_HoldQueue_isRecord 17 = .ok (.iconst 0, 1) := by decide +kernel
theorem d_HoldQueue_isRecord_18 : decode c_HoldQueue_isRecord 18 = .ok (.ireturn, 1) := by decide +kernel
theorem d_HoldQueue_settle_0 : decode c_HoldQueue_settle 0 = .ok (.aload_n 0, 1) := by decide +kernel
theorem d_HoldQueue_settle_1 : decode c_HoldQueue_settle 1 = .ok (.getfield 34, 3) := by decide +kernel
theorem d_HoldQueue_settle_4 : decode c_HoldQueue_settle 4 = .ok (.aload_n 0, 1) := by decide +kernel
theorem d_HoldQueue_settle_5 : decode c_HoldQueue_settle 5 = .ok (.getfield 27, 3) := by decide +kernel
theorem d_HoldQueue_settle_8 : decode c_HoldQueue_settle 8 = .ok (.getfield 146, 3) := by decide +kernel
theorem d_HoldQueue_settle_11 : decode c_HoldQueue_settle 11 = .ok (.iload_n 1, 1) := by decide +kernel
theorem d_HoldQueue_settle_12 : decode c_HoldQueue_settle 12 = .ok (.iaload, 1) := by decide +kernel
theorem d_HoldQueue_settle_13 : decode c_HoldQueue_settle 13 = .ok (.aload_n 0, 1) := by decide +kernel
theorem d_HoldQueue_settle_14 : decode c_HoldQueue_settle 14 = .ok (.getfield 38, 3) := by decide +kernel
theorem d_HoldQueue_settle_17 : decode c_HoldQueue_settle 17 = .ok (.invokevirtual 149, 3) := by decide +kernel
theorem d_HoldQueue_settle_20 : decode c_HoldQueue_settle 20 = .ok (.istore_n 2, 1) := by decide +kernel
theorem d_HoldQueue_settle_21 : decode c_HoldQueue_settle 21 = .ok (.iload_n 2, 1) := by decide +kernel
theorem d_HoldQueue_settle_22 : decode c_HoldQueue_settle 22 = .ok (.ifCond .ne 15, 3) := by decide +kernel
theorem d_HoldQueue_settle_25 : decode c_HoldQueue_settle 25 = .ok (.aload_n 0, 1) := by decide +kernel
theorem d_HoldQueue_settle_26 : decode c_HoldQueue_settle 26 = .ok (.getfield 27, 3) := by decide +kernel
theorem d_HoldQueue_settle_29 : decode c_HoldQueue_settle 29 = .ok (.getfield 117, 3) := by decide +kernel
theorem d_HoldQueue_settle_32 : decode c_HoldQueue_settle 32 = .ok (.iload_n 1, 1) := by decide +kernel
theorem d_HoldQueue_settle_33 : decode c_HoldQueue_settle 33 = .ok (.iconst 0, 1) := by decide +kernel
theorem d_HoldQueue_settle_34 : decode c_HoldQueue_settle 34 = .ok (.iastore, 1) := by decide +kernel
theorem d_HoldQueue_settle_35 : decode c_HoldQueue_settle 35 = .ok (.iconst 0, 1) := by decide +kernel
theorem d_HoldQueue_settle_36 : decode c_HoldQueue_settle 36 = .ok (.ireturn, 1) := by decide +kernel
theorem d_HoldQueue_settle_37 : decode c_HoldQueue_settle 37 = .ok (.aload_n 0, 1) := by decide +kernel
theorem d_HoldQueue_settle_38 : decode c_HoldQueue_settle 38 = .ok (.getfield 27, 3) := by decide +kernel
theorem d_HoldQueue_settle_41 : decode c_HoldQueue_settle 41 = .ok (.getfield 101, 3) := by decide +kernel
theorem d_HoldQueue_settle_44 : decode c_HoldQueue_settle 44 = .ok (.iload_n 1, 1) := by decide +kernel
theorem d_HoldQueue_settle_45 : decode c_HoldQueue_settle 45 = .ok (.iload_n 2, 1) := by decide +kernel
theorem d_HoldQueue_settle_46 : decode c_HoldQueue_settle 46 = .ok (.iastore, 1) := by decide +kernel
theorem d_HoldQueue_settle_47 : decode c_HoldQueue_settle 47 = .ok (.aload_n 0, 1) := by decide +kernel
theorem d_HoldQueue_settle_48 : decode c_HoldQueue_settle 48 = .ok (.getfield 34, 3) := by decide +kernel
theorem d_HoldQueue_settle_51 : decode c_HoldQueue_settle 51 = .ok (.getfield 111, 3) := by decide +kernel
theorem d_HoldQueue_settle_54 : decode c_HoldQueue_settle 54 = .ok (.iload_n 2, 1) := by decide +kernel
theorem d_HoldQueue_settle_55 : decode c_HoldQueue_settle 55 = .ok (.iload_n 1, 1) := by decide +kernel
theorem d_HoldQueue_settle_56 : decode c_HoldQueue_settle 56 = .ok (.iastore, 1) := by decide +kernel
theorem d_HoldQueue_settle_57 : decode c_HoldQueue_settle 57 = .ok (.aload_n 0, 1) := by decide +kernel
theorem d_HoldQueue_settle_58 : decode c_HoldQueue_settle 58 = .ok (.getfield 27, 3) := by decide +kernel
theorem d_HoldQueue_settle_61 : decode c_HoldQueue_settle 61 = .ok (.getfield 98, 3) := by decide +kernel
theorem d_HoldQueue_settle_64 : decode c_HoldQueue_settle 64 = .ok (.iload_n 1, 1) := by decide +kernel
theorem d_HoldQueue_settle_65 : decode c_HoldQueue_settle 65 = .ok (.iaload, 1) := by decide +kernel
theorem d_HoldQueue_settle_66 : decode c_HoldQueue_settle 66 = .ok (.aload_n 0, 1) := by decide +kernel
theorem d_HoldQueue_settle_67 : decode c_HoldQueue_settle 67 = .ok (.getfield 34, 3) := by decide +kernel
theorem d_HoldQueue_settle_70 : decode c_HoldQueue_settle 70 = .ok (.getfield 153, 3) := by decide +kernel
theorem d_HoldQueue_settle_73 : decode c_HoldQueue_settle 73 = .ok (.iload_n 2, 1) := by decide +kernel
theorem d_HoldQueue_settle_74 : decode c_HoldQueue_settle 74 = .ok (.iaload, 1) := by decide +kernel
theorem d_HoldQueue_settle_75 : decode c_HoldQueue_settle 75 = .ok (.if_icmp .ne 12, 3) := by decide +kernel
theorem d_HoldQueue_settle_78 : decode c_HoldQueue_settle 78 = .ok (.aload_n 0, 1) := by decide +kernel
theorem d_HoldQueue_settle_79 : decode c_HoldQueue_settle 79 = .ok (.iload_n 1, 1) := by decide +kernel
theorem d_HoldQueue_settle_80 : decode c_HoldQueue_settle 80 = .ok (.iload_n 2, 1) := by decide +kernel
theorem d_HoldQueue_settle_81 : decode c_HoldQueue_settle 81 = .ok (.invokevirtual 104, 3) := by decide +kernel
theorem d_HoldQueue_settle_84 : decode c_HoldQueue_settle 84 = .ok (.goto 9, 3) := by decide +kernel
theorem d_HoldQueue_settle_87 : decode c_HoldQueue_settle 87 = .ok (.aload_n 0, 1) := by decide +kernel
theorem d_HoldQueue_settle_88 : decode c_HoldQueue_settle 88 = .ok (.iload_n 1, 1) := by decide +kernel
theorem d_HoldQueue_settle_89 : decode c_HoldQueue_settle 89 = .ok (.iload_n 2, 1) := by decide +kernel
theorem d_HoldQueue_settle_90 : decode c_HoldQueue_settle 90 = .ok (.invokevirtual 154, 3) := by decide +kernel
theorem d_HoldQueue_settle_93 : decode c_HoldQueue_settle 93 = .ok (.iload_n 2, 1) := by decide +kernel
theorem d_HoldQueue_settle_94 : decode c_HoldQueue_settle 94 = .ok (.ireturn, 1) := by decide +kernel
theorem d_HoldQueue_layReady_0 : decode c_HoldQueue_layReady 0 = .ok (.aload_n 0, 1) := by decide +kernel
theorem d_HoldQueue_layReady_1 : decode c_HoldQueue_layReady 1 = .ok (.getfield 27, 3) := by decide +kernel
theorem d_HoldQueue_layReady_4 : decode c_HoldQueue_layReady 4 = .ok (.getfield 117, 3) := by decide +kernel
theorem d_HoldQueue_layReady_7 : decode c_HoldQueue_layReady 7 = .ok (.iload_n 1, 1) := by decide +kernel
theorem d_HoldQueue_layReady_8 : decode c_HoldQueue_layReady 8 = .ok (.iconst 3, 1) := by decide +kernel
theorem d_HoldQueue_layReady_9 : decode c_HoldQueue_layReady 9 = .ok (.iastore, 1) := by decide +kernel
theorem d_HoldQueue_layReady_10 : decode c_HoldQueue_layReady 10 = .ok (.aload_n 0, 1) := by decide +kernel
theorem d_HoldQueue_layReady_11 : decode c_HoldQueue_layReady 11 = .ok (.getfield 34, 3) := by decide +kernel
theorem d_HoldQueue_layReady_14 : decode c_HoldQueue_layReady 14 = .ok (.getfield 114, 3) := by decide +kernel
theorem d_HoldQueue_layReady_17 : decode c_HoldQueue_layReady 17 = .ok (.iload_n 2, 1) := by decide +kernel
theorem d_HoldQueue_layReady_18 : decode c_HoldQueue_layReady 18 = .ok (.iconst 2, 1) := by decide +kernel
theorem d_HoldQueue_layReady_19 : decode c_HoldQueue_layReady 19 = .ok (.iastore, 1) := by decide +kernel
theorem d_HoldQueue_layReady_20 : decode c_HoldQueue_layReady 20 = .ok (.aload_n 0, 1) := by decide +kernel
theorem d_HoldQueue_layReady_21 : decode c_HoldQueue_layReady 21 = .ok (.getfield 34, 3) := by decide +kernel
theorem d_HoldQueue_layReady_24 : decode c_HoldQueue_layReady 24 = .ok (.getfield 130, 3) := by decide +kernel
theorem d_HoldQueue_layReady_27 : decode c_HoldQueue_layReady 27 = .ok (.iload_n 2, 1) := by decide +kernel
theorem d_HoldQueue_layReady_28 : decode c_HoldQueue_layReady 28 = .ok (.aload_n 0, 1) := by decide +kernel
theorem d_HoldQueue_layReady_29 : decode c_HoldQueue_layReady 29 = .ok (.getfield 38, 3) := by decide +kernel
theorem d_HoldQueue_layReady_32 : decode c_HoldQueue_layReady 32 = .ok (.aload_n 0, 1) := by decide +kernel
theorem d_HoldQueue_layReady_33 : decode c_HoldQueue_layReady 33 = .ok (.getfield 42, 3) := by decide +kernel
theorem d_HoldQueue_layReady_36 : decode c_HoldQueue_layReady 36 = .ok (.i2l, 1) := by decide +kernel
theorem d_HoldQueue_layReady_37 : decode c_HoldQueue_layReady 37 = .ok (.ladd, 1) := by decide +kernel
theorem d_HoldQueue_layReady_38 : decode c_HoldQueue_layReady 38 = .ok (.lastore, 1) := by decide +kernel
theorem d_HoldQueue_layReady_39 : decode c_HoldQueue_layReady 39 = .ok (.return_, 1) := by decide +kernel
theorem d_HoldQueue_send_0 : decode c_HoldQueue_send 0 = .ok (.aload_n 0, 1) := by decide +kernel
theorem d_HoldQueue_send_1 : decode c_HoldQueue_send 1 = .ok (.getfield 27, 3) := by decide +kernel
theorem d_HoldQueue_send_4 : decode c_HoldQueue_send 4 = .ok (.getfield 117, 3) := by decide +kernel
theorem d_HoldQueue_send_7 : decode c_HoldQueue_send 7 = .ok (.iload_n 1, 1) := by decide +kernel
theorem d_HoldQueue_send_8 : decode c_HoldQueue_send 8 = .ok (.iconst 2, 1) := by decide +kernel
theorem d_HoldQueue_send_9 : decode c_HoldQueue_send 9 = .ok (.iastore, 1) := by decide +kernel
theorem d_HoldQueue_send_10 : decode c_HoldQueue_send 10 = .ok (.aload_n 0, 1) := by decide +kernel
theorem d_HoldQueue_send_11 : decode c_HoldQueue_send 11 = .ok (.getfield 27, 3) := by decide +kernel
theorem d_HoldQueue_send_14 : decode c_HoldQueue_send 14 = .ok (.getfield 98, 3) := by decide +kernel
theorem d_HoldQueue_send_17 : decode c_HoldQueue_send 17 = .ok (.iload_n 1, 1) := by decide +kernel
theorem d_HoldQueue_send_18 : decode c_HoldQueue_send 18 = .ok (.aload_n 0, 1) := by decide +kernel
theorem d_HoldQueue_send_19 : decode c_HoldQueue_send 19 = .ok (.getfield 34, 3) := by decide +kernel
theorem d_HoldQueue_send_22 : decode c_HoldQueue_send 22 = .ok (.getfield 153, 3) := by decide +kernel
theorem d_HoldQueue_send_25 : decode c_HoldQueue_send 25 = .ok (.iload_n 2, 1) := by decide +kernel
theorem d_HoldQueue_send_26 : decode c_HoldQueue_send 26 = .ok (.iaload, 1) := by decide +kernel
theorem d_HoldQueue_send_27 : decode c_HoldQueue_send 27 = .ok (.iastore, 1) := by decide +kernel
theorem d_HoldQueue_send_28 : decode c_HoldQueue_send 28 = .ok (.aload_n 0, 1) := by decide +kernel
theorem d_HoldQueue_send_29 : decode c_HoldQueue_send 29 = .ok (.getfield 34, 3) := by decide +kernel
theorem d_HoldQueue_send_32 : decode c_HoldQueue_send 32 = .ok (.getfield 114, 3) := by decide +kernel
theorem d_HoldQueue_send_35 : decode c_HoldQueue_send 35 = .ok (.iload_n 2, 1) := by decide +kernel
theorem d_HoldQueue_send_36 : decode c_HoldQueue_send 36 = .ok (.iconst 1, 1) := by decide +kernel
theorem d_HoldQueue_send_37 : decode c_HoldQueue_send 37 = .ok (.iastore, 1) := by decide +kernel
theorem d_HoldQueue_send_38 : decode c_HoldQueue_send 38 = .ok (.return_, 1) := by decide +kernel
theorem d_HoldQueue_untie_0 : decode c_HoldQueue_untie 0 = .ok (.aload_n 0, 1) := by decide +kernel
theorem d_HoldQueue_untie_1 : decode c_HoldQueue_untie 1 = .ok (.getfield 27, 3) := by decide +kernel
theorem d_HoldQueue_untie_4 : decode c_HoldQueue_untie 4 = .ok (.getfield 101, 3) := by decide +kernel
theorem d_HoldQueue_untie_7 : decode c_HoldQueue_untie 7 = .ok (.iload_n 1, 1) := by decide +kernel
theorem d_HoldQueue_untie_8 : decode c_HoldQueue_untie 8 = .ok (.iconst 0, 1) := by decide +kernel
theorem d_HoldQueue_untie_9 : decode c_HoldQueue_untie 9 = .ok (.iastore, 1) := by decide +kernel
theorem d_HoldQueue_untie_10 : decode c_HoldQueue_untie 10 = .ok (.aload_n 0, 1) := by decide +kernel
theorem d_HoldQueue_untie_11 : decode c_HoldQueue_untie 11 = .ok (.getfield 34, 3) := by decide +kernel
theorem d_HoldQueue_untie_14 : decode c_HoldQueue_untie 14 = .ok (.getfield 111, 3) := by decide +kernel
theorem d_HoldQueue_untie_17 : decode c_HoldQueue_untie 17 = .ok (.iload_n 2, 1) := by decide +kernel
theorem d_HoldQueue_untie_18 : decode c_HoldQueue_untie 18 = .ok (.iconst 0, 1) := by decide +kernel
theorem d_HoldQueue_untie_19 : decode c_HoldQueue_untie 19 = .ok (.iastore, 1) := by decide +kernel
theorem d_HoldQueue_untie_20 : decode c_HoldQueue_untie 20 = .ok (.return_, 1) := by decide +kernel
theorem d_HoldQueue_letGo_0 : decode c_HoldQueue_letGo 0 = .ok (.aload_n 0, 1) := by decide +kernel
theorem d_HoldQueue_letGo_1 : decode c_HoldQueue_letGo 1 = .ok (.getfield 34, 3) := by decide +kernel
theorem d_HoldQueue_letGo_4 : decode c_HoldQueue_letGo 4 = .ok (.getfield 111, 3) := by decide +kernel
theorem d_HoldQueue_letGo_7 : decode c_HoldQueue_letGo 7 = .ok (.iload_n 1, 1) := by decide +kernel
theorem d_HoldQueue_letGo_8 : decode c_HoldQueue_letGo 8 = .ok (.iaload, 1) := by decide +kernel
theorem d_HoldQueue_letGo_9 : decode c_HoldQueue_letGo 9 = .ok (.istore_n 2, 1) := by decide +kernel
theorem d_HoldQueue_letGo_10 : decode c_HoldQueue_letGo 10 = .ok (.aload_n 0, 1) := by decide +kernel
theorem d_HoldQueue_letGo_11 : decode c_HoldQueue_letGo 11 = .ok (.iload_n 2, 1) := by decide +kernel
theorem d_HoldQueue_letGo_12 : decode c_HoldQueue_letGo 12 = .ok (.iload_n 1, 1) := by decide +kernel
theorem d_HoldQueue_letGo_13 : decode c_HoldQueue_letGo 13 = .ok (.invokevirtual 108, 3) := by decide +kernel
theorem d_HoldQueue_letGo_16 : decode c_HoldQueue_letGo 16 = .ok (.aload_n 0, 1) := by decide +kernel
theorem d_HoldQueue_letGo_17 : decode c_HoldQueue_letGo 17 = .ok (.iload_n 2, 1) := by decide +kernel
theorem d_HoldQueue_letGo_18 : decode c_HoldQueue_letGo 18 = .ok (.invokevirtual 87, 3) := by decide +kernel
theorem d_HoldQueue_letGo_21 : decode c_HoldQueue_letGo 21 = .ok (.pop, 1) := by decide +kernel
theorem d_HoldQueue_letGo_22 : decode c_HoldQueue_letGo 22 = .ok (.return_, 1) := by decide +kernel
theorem d_HoldQueue_Copies_init_0 : decode c_HoldQueue_Copies_init 0 = .ok (.aload_n 0, 1) := by decide +kernel
theorem d_HoldQueue_Copies_init_1 : decode c_HoldQueue_Copies_init 1 = .ok (.invokespecial 3, 3) := by decide +kernel
theorem d_HoldQueue_Copies_init_4 : decode c_HoldQueue_Copies_init 4 = .ok (.aload_n 0, 1) := by decide +kernel
theorem d_HoldQueue_Copies_init_5 : decode c_HoldQueue_Copies_init 5 = .ok (.iconst 0, 1) := by decide +kernel
theorem d_HoldQueue_Copies_init_6 : decode c_HoldQueue_Copies_init 6 = .ok (.putfield 9, 3) := by decide +kernel
theorem d_HoldQueue_Copies_init_9 : decode c_HoldQueue_Copies_init 9 = .ok (.aload_n 0, 1) := by decide +kernel
theorem d_HoldQueue_Copies_init_10 : decode c_HoldQueue_Copies_init 10 = .ok (.bipush 61, 2) := by decide +kernel
theorem d_HoldQueue_Copies_init_12 : decode c_HoldQueue_Copies_init 12 = .ok (.newarray .int, 2) := by decide +kernel
theorem d_HoldQueue_Copies_init_14 : decode c_HoldQueue_Copies_init 14 = .ok (.putfield 15, 3) := by decide +kernel
theorem d_HoldQueue_Copies_init_17 : decode c_HoldQueue_Copies_init 17 = .ok (.aload_n 0, 1) := by decide +kernel
theorem d_HoldQueue_Copies_init_18 : decode c_HoldQueue_Copies_init 18 = .ok (.bipush 61, 2) := by decide +kernel
theorem d_HoldQueue_Copies_init_20 : decode c_HoldQueue_Copies_init 20 = .ok (.newarray .int, 2) := by decide +kernel
theorem d_HoldQueue_Copies_init_22 : decode c_HoldQueue_Copies_init 22 = .ok (.putfield 19, 3) := by decide +kernel
theorem d_HoldQueue_Copies_init_25 : decode c_HoldQueue_Copies_init 25 = .ok (.aload_n 0, 1) := by decide +kernel
theorem d_HoldQueue_Copies_init_26 : decode c_HoldQueue_Copies_init 26 = .ok (.bipush 61, 2) := by decide +kernel
theorem d_HoldQueue_Copies_init_28 : decode c_HoldQueue_Copies_init 28 = .ok (.newarray .int, 2) := by decide +kernel
theorem d_HoldQueue_Copies_init_30 : decode c_HoldQueue_Copies_init 30 = .ok (.putfield 22, 3) := by decide +kernel
theorem d_HoldQueue_Copies_init_33 : decode c_HoldQueue_Copies_init 33 = .ok (.aload_n 0, 1) := by decide +kernel
theorem d_HoldQueue_Copies_init_34 : decode c_HoldQueue_Copies_init 34 = .ok (.bipush 61, 2) := by decide +kernel
theorem d_HoldQueue_Copies_init_36 : decode c_HoldQueue_Copies_init 36 = .ok (.newarray .int, 2) := by decide +kernel
theorem d_HoldQueue_Copies_init_38 : decode c_HoldQueue_Copies_init 38 = .ok (.putfield 25, 3) := by decide +kernel
theorem d_HoldQueue_Copies_init_41 : decode c_HoldQueue_Copies_init 41 = .ok (.return_, 1) := by decide +kernel
theorem d_HoldQueue_Copies_has_0 : decode c_HoldQueue_Copies_has 0 = .ok (.iload_n 1, 1) := by decide +kernel
theorem d_HoldQueue_Copies_has_1 : decode c_HoldQueue_Copies_has 1 = .ok (.iconst 1, 1) := by decide +kernel
theorem d_HoldQueue_Copies_has_2 : decode c_HoldQueue_Copies_has 2 = .ok (.if_icmp .lt 15, 3) := by decide +kernel
theorem d_HoldQueue_Copies_has_5 : decode c_HoldQueue_Copies_has 5 = .ok (.iload_n 1, 1) := by decide +kernel
theorem d_HoldQueue_Copies_has_6 : decode c_HoldQueue_Copies_has 6 = .ok (.aload_n 0, 1) := by decide +kernel
theorem d_HoldQueue_Copies_has_7 : decode c_HoldQueue_Copies_has 7 = .ok (.getfield 9, 3) := by decide +kernel
theorem d_HoldQueue_Copies_has_10 : decode c_HoldQueue_Copies_has 10 = .ok (.if_icmp .gt 7, 3) := by decide +kernel
theorem d_HoldQueue_Copies_has_13 : decode c_HoldQueue_Copies_has 13 = .ok (.iconst 1, 1) := by decide +kernel
theorem d_HoldQueue_Copies_has_14 : decode c_HoldQueue_Copies_has 14 = .ok (.goto 4, 3) := by decide +kernel
theorem d_HoldQueue_Copies_has_17 : decode c_HoldQueue_Copies_has 17 = .ok (.iconst 0, 1) := by decide +kernel
theorem d_HoldQueue_Copies_has_18 : decode c_HoldQueue_Copies_has 18 = .ok (.ireturn, 1) := by decide +kernel
theorem d_HoldQueue_Copies_isIn_0 : decode c_HoldQueue_Copies_isIn 0 = .ok (.aload_n 0, 1) := by decide +kernel
theorem d_HoldQueue_Copies_isIn_1 : decode c_HoldQueue_Copies_isIn 1 = .ok (.iload_n 1, 1) := by decide +kernel
theorem d_HoldQueue_Copies_isIn_2 : decode c_HoldQueue_Copies_isIn 2 = .ok (.invokevirtual 28, 3) := by decide +kernel
theorem d_HoldQueue_Copies_isIn_5 : decode c_HoldQueue_Copies_isIn 5 = .ok (.ifCond .eq 17, 3) := by decide +kernel
theorem d_HoldQueue_Copies_isIn_8 : decode c_HoldQueue_Copies_isIn 8 = .ok (.aload_n 0, 1) := by decide +kernel
theorem d_HoldQueue_Copies_isIn_9 : decode c_HoldQueue_Copies_isIn 9 = .ok (.getfield 22, 3) := by decide +kernel
theorem d_HoldQueue_Copies_isIn_12 : decode c_HoldQueue_Copies_isIn 12 = .ok (.iload_n 1, 1) := by decide +kernel
theorem d_HoldQueue_Copies_isIn_13 : decode c_HoldQueue_Copies_isIn 13 = .ok (.iaload, 1) := by decide +kernel
theorem d_HoldQueue_Copies_isIn_14 : decode c_HoldQueue_Copies_isIn 14 = .ok (.iload_n 2, 1) := by decide +kernel
theorem d_HoldQueue_Copies_isIn_15 : decode c_HoldQueue_Copies_isIn 15 = .ok (.if_icmp .ne 7, 3) := by decide +kernel
theorem d_HoldQueue_Copies_isIn_18 : decode c_HoldQueue_Copies_isIn 18 = .ok (.iconst 1, 1) := by decide +kernel
theorem d_HoldQueue_Copies_isIn_19 : decode c_HoldQueue_Copies_isIn 19 = .ok (.goto 4, 3) := by decide +kernel
theorem d_HoldQueue_Copies_isIn_22 : decode c_HoldQueue_Copies_isIn 22 = .ok (.iconst 0, 1) := by decide +kernel
theorem d_HoldQueue_Copies_isIn_23 : decode c_HoldQueue_Copies_isIn 23 = .ok (.ireturn, 1) := by decide +kernel
theorem d_HoldQueue_Copies_areFull_0 : decode c_HoldQueue_Copies_areFull 0 = .ok (.aload_n 0, 1) := by decide +kernel
theorem d_HoldQueue_Copies_areFull_1 : decode c_HoldQueue_Copies_areFull 1 = .ok (.getfield 9, 3) := by decide +kernel
theorem d_HoldQueue_Copies_areFull_4 : decode c_HoldQueue_Copies_areFull 4 = .ok (.bipush 60, 2) := by decide +kernel
theorem d_HoldQueue_Copies_areFull_6 : decode c_HoldQueue_Copies_areFull 6 = .ok (.if_icmp .lt 7, 3) := by decide +kernel
theorem d_HoldQueue_Copies_areFull_9 : decode c_HoldQueue_Copies_areFull 9 = .ok (.iconst 1, 1) := by decide +kernel
theorem d_HoldQueue_Copies_areFull_10 : decode c_HoldQueue_Copies_areFull 10 = .ok (.goto 4, 3) := by decide +kernel
theorem d_HoldQueue_Copies_areFull_13 : decode c_HoldQueue_Copies_areFull 13 = .ok (.iconst 0, 1) := by decide +kernel
theorem d_HoldQueue_Copies_areFull_14 : decode c_HoldQueue_Copies_areFull 14 = .ok (.ireturn, 1) := by decide +kernel
theorem d_HoldQueue_Copies_add_0 : decode c_HoldQueue_Copies_add 0 = .ok (.aload_n 0, 1) := by decide +kernel
theorem d_HoldQueue_Copies_add_1 : decode c_HoldQueue_Copies_add 1 = .ok (.dup, 1) := by decide +kernel
theorem d_HoldQueue_Copies_add_2 : decode c_HoldQueue_Copies_add 2 = .ok (.getfield 9, 3) := by decide +kernel
theorem d_HoldQueue_Copies_add_5 : decode c_HoldQueue_Copies_add 5 = .ok (.iconst 1, 1) := by decide +kernel
theorem d_HoldQueue_Copies_add_6 : decode c_HoldQueue_Copies_add 6 = .ok (.iadd, 1) := by decide +kernel
theorem d_HoldQueue_Copies_add_7 : decode c_HoldQueue_Copies_add 7 = .ok (.putfield 9, 3) := by decide +kernel
theorem d_HoldQueue_Copies_add_10 : decode c_HoldQueue_Copies_add 10 = .ok (.aload_n 0, 1) := by decide +kernel
theorem d_HoldQueue_Copies_add_11 : decode c_HoldQueue_Copies_add 11 = .ok (.getfield 15, 3) := by decide +kernel
theorem d_HoldQueue_Copies_add_14 : decode c_HoldQueue_Copies_add 14 = .ok (.aload_n 0, 1) := by decide +kernel
theorem d_HoldQueue_Copies_add_15 : decode c_HoldQueue_Copies_add 15 = .ok (.getfield 9, 3) := by decide +kernel
theorem d_HoldQueue_Copies_add_18 : decode c_HoldQueue_Copies_add 18 = .ok (.iload_n 1, 1) := by decide +kernel
theorem d_HoldQueue_Copies_add_19 : decode c_HoldQueue_Copies_add 19 = .ok (.iastore, 1) := by decide +kernel
theorem d_HoldQueue_Copies_add_20 : decode c_HoldQueue_Copies_add 20 = .ok (.aload_n 0, 1) := by decide +kernel
theorem d_HoldQueue_Copies_add_21 : decode c_HoldQueue_Copies_add 21 = .ok (.getfield 19, 3) := by decide +kernel
theorem d_HoldQueue_Copies_add_24 : decode c_HoldQueue_Copies_add 24 = .ok (.aload_n 0, 1) := by decide +kernel
theorem d_HoldQueue_Copies_add_25 : decode c_HoldQueue_Copies_add 25 = .ok (.getfield 9, 3) := by decide +kernel
theorem d_HoldQueue_Copies_add_28 : decode c_HoldQueue_Copies_add 28 = .ok (.iload_n 2, 1) := by decide +kernel
theorem d_HoldQueue_Copies_add_29 : decode c_HoldQueue_Copies_add 29 = .ok (.iastore, 1) := by decide +kernel
theorem d_HoldQueue_Copies_add_30 : decode c_HoldQueue_Copies_add 30 = .ok (.aload_n 0, 1) := by decide +kernel
theorem d_HoldQueue_Copies_add_31 : decode c_HoldQueue_Copies_add 31 = .ok (.getfield 22, 3) := by decide +kernel
theorem d_HoldQueue_Copies_add_34 : decode c_HoldQueue_Copies_add 34 = .ok (.aload_n 0, 1) := by decide +kernel
theorem d_HoldQueue_Copies_add_35 : decode c_HoldQueue_Copies_add 35 = .ok (.getfield 9, 3) := by decide +kernel
theorem d_HoldQueue_Copies_add_38 : decode c_HoldQueue_Copies_add 38 = .ok (.iconst 1, 1) := by decide +kernel
theorem d_HoldQueue_Copies_add_39 : decode c_HoldQueue_Copies_add 39 = .ok (.iastore, 1) := by decide +kernel
theorem d_HoldQueue_Copies_add_40 : decode c_HoldQueue_Copies_add 40 = .ok (.aload_n 0, 1) := by decide +kernel
theorem d_HoldQueue_Copies_add_41 : decode c_HoldQueue_Copies_add 41 = .ok (.getfield 9, 3) := by decide +kernel
theorem d_HoldQueue_Copies_add_44 : decode c_HoldQueue_Copies_add 44 = .ok (.ireturn, 1) := by decide +kernel
theorem d_HoldQueue_Copies_leastFree_0 : decode c_HoldQueue_Copies_leastFree 0 = .ok (.iconst 1, 1) := by decide +kernel
theorem d_HoldQueue_Copies_leastFree_1 : decode c_HoldQueue_Copies_leastFree 1 = .ok (.istore_n 2, 1) := by decide +kernel
theorem d_HoldQueue_Copies_leastFree_2 : decode c_HoldQueue_Copies_leastFree 2 = .ok (.iload_n 2, 1) := by decide +kernel
theorem d_HoldQueue_Copies_leastFree_3 : decode c_HoldQueue_Copies_leastFree 3 = .ok (.aload_n 0, 1) := by decide +kernel
theorem d_HoldQueue_Copies_leastFree_4 : decode c_HoldQueue_Copies_leastFree 4 = .ok (.getfield 9, 3) := by decide +kernel
theorem d_HoldQueue_Copies_leastFree_7 : decode c_HoldQueue_Copies_leastFree 7 = .ok (.if_icmp .gt 30, 3) := by decide +kernel
theorem d_HoldQueue_Copies_leastFree_10 : decode c_HoldQueue_Copies_leastFree 10 = .ok (.aload_n 0, 1) := by decide +kernel
theorem d_HoldQueue_Copies_leastFree_11 : decode c_HoldQueue_Copies_leastFree 11 = .ok (.getfield 15, 3) := by decide +kernel
theorem d_HoldQueue_Copies_leastFree_14 : decode c_HoldQueue_Copies_leastFree 14 = .ok (.iload_n 2, 1) := by decide +kernel
theorem d_HoldQueue_Copies_leastFree_15 : decode c_HoldQueue_Copies_leastFree 15 = .ok (.iaload, 1) := by decide +kernel
theorem d_HoldQueue_Copies_leastFree_16 : decode c_HoldQueue_Copies_leastFree 16 = .ok (.iload_n 1, 1) := by decide +kernel
theorem d_HoldQueue_Copies_leastFree_17 : decode c_HoldQueue_Copies_leastFree 17 = .ok (.if_icmp .ne 14, 3) := by decide +kernel
theorem d_HoldQueue_Copies_leastFree_20 : decode c_HoldQueue_Copies_leastFree 20 = .ok (.aload_n 0, 1) := by decide +kernel
theorem d_HoldQueue_Copies_leastFree_21 : decode c_HoldQueue_Copies_leastFree 21 = .ok (.getfield 22, 3) := by decide +kernel
theorem d_HoldQueue_Copies_leastFree_24 : decode c_HoldQueue_Copies_leastFree 24 = .ok (.iload_n 2, 1) := by decide +kernel
theorem d_HoldQueue_Copies_leastFree_25 : decode c_HoldQueue_Copies_leastFree 25 = .ok (.iaload, 1) := by decide +kernel
theorem d_HoldQueue_Copies_leastFree_26 : decode c_HoldQueue_Copies_leastFree 26 = .ok (.ifCond .ne 5, 3) := by decide +kernel
theorem d_HoldQueue_Copies_leastFree_29 : decode c_HoldQueue_Copies_leastFree 29 = .ok (.iload_n 2, 1) := by decide +kernel
theorem d_HoldQueue_Copies_leastFree_30 : decode c_HoldQueue_Copies_leastFree 30 = .ok (.ireturn, 1) := by decide +kernel
theorem d_HoldQueue_Copies_leastFree_31 : decode c_HoldQueue_Copies_leastFree 31 = .ok (.iinc 2 1, 3) := by decide +kernel
theorem d_HoldQueue_Copies_leastFree_34 : decode c_HoldQueue_Copies_leastFree 34 = .ok (.goto (-32), 3) := by decide +kernel
theorem d_HoldQueue_Copies_leastFree_37 : decode c_HoldQueue_Copies_leastFree 37 = .ok (.iconst 0, 1) := by decide +kernel
theorem d_HoldQueue_Copies_leastFree_38 : decode c_HoldQueue_Copies_leastFree 38 = .ok (.ireturn, 1) := by decide +kernel
theorem d_HoldQueue_Holds_init_0 : decode c_HoldQueue_Holds_init 0 = .ok (.aload_n 0, 1) := by decide +kernel
theorem d_HoldQueue_Holds_init_1 : decode c_HoldQueue_Holds_init 1 = .ok (.invokespecial 3, 3) := by decide +kernel
theorem d_HoldQueue_Holds_init_4 : decode c_HoldQueue_Holds_init 4 = .ok (.aload_n 0, 1) := by decide +kernel
theorem d_HoldQueue_Holds_init_5 : decode c_HoldQueue_Holds_init 5 = .ok (.iconst 0, 1) := by decide +kernel
theorem d_HoldQueue_Holds_init_6 : decode c_HoldQueue_Holds_init 6 = .ok (.putfield 9, 3) := by decide +kernel
theorem d_HoldQueue_Holds_init_9 : decode c_HoldQueue_Holds_init 9 = .ok (.aload_n 0, 1) := by decide +kernel
theorem d_HoldQueue_Holds_init_10 : decode c_HoldQueue_Holds_init 10 = .ok (.bipush 121, 2) := by decide +kernel
theorem d_HoldQueue_Holds_init_12 : decode c_HoldQueue_Holds_init 12 = .ok (.newarray .int, 2) := by decide +kernel
theorem d_HoldQueue_Holds_init_14 : decode c_HoldQueue_Holds_init 14 = .ok (.putfield 15, 3) := by decide +kernel
theorem d_HoldQueue_Holds_init_17 : decode c_HoldQueue_Holds_init 17 = .ok (.aload_n 0, 1) := by decide +kernel
theorem d_HoldQueue_Holds_init_18 : decode c_HoldQueue_Holds_init 18 = .ok (.bipush 121, 2) := by decide +kernel
theorem d_HoldQueue_Holds_init_20 : decode c_HoldQueue_Holds_init 20 = .ok (.newarray .int, 2) := by decide +kernel
theorem d_HoldQueue_Holds_init_22 : decode c_HoldQueue_Holds_init 22 = .ok (.putfield 19, 3) := by decide +kernel
theorem d_HoldQueue_Holds_init_25 : decode c_HoldQueue_Holds_init 25 = .ok (.aload_n 0, 1) := by decide +kernel
theorem d_HoldQueue_Holds_init_26 : decode c_HoldQueue_Holds_init 26 = .ok (.bipush 121, 2) := by decide +kernel
theorem d_HoldQueue_Holds_init_28 : decode c_HoldQueue_Holds_init 28 = .ok (.newarray .int, 2) := by decide +kernel
theorem d_HoldQueue_Holds_init_30 : decode c_HoldQueue_Holds_init 30 = .ok (.putfield 22, 3) := by decide +kernel
theorem d_HoldQueue_Holds_init_33 : decode c_HoldQueue_Holds_init 33 = .ok (.aload_n 0, 1) := by decide +kernel
theorem d_HoldQueue_Holds_init_34 : decode c_HoldQueue_Holds_init 34 = .ok (.bipush 121, 2) := by decide +kernel
theorem d_HoldQueue_Holds_init_36 : decode c_HoldQueue_Holds_init 36 = .ok (.newarray .int, 2) := by decide +kernel
theorem d_HoldQueue_Holds_init_38 : decode c_HoldQueue_Holds_init 38 = .ok (.putfield 25, 3) := by decide +kernel
theorem d_HoldQueue_Holds_init_41 : decode c_HoldQueue_Holds_init 41 = .ok (.aload_n 0, 1) := by decide +kernel
theorem d_HoldQueue_Holds_init_42 : decode c_HoldQueue_Holds_init 42 = .ok (.bipush 121, 2) := by decide +kernel
theorem d_HoldQueue_Holds_init_44 : decode c_HoldQueue_Holds_init 44 = .ok (.newarray .int, 2) := by decide +kernel
theorem d_HoldQueue_Holds_init_46 : decode c_HoldQueue_Holds_init 46 = .ok (.putfield 28, 3) := by decide +kernel
theorem d_HoldQueue_Holds_init_49 : decode c_HoldQueue_Holds_init 49 = .ok (.aload_n 0, 1) := by decide +kernel
theorem d_HoldQueue_Holds_init_50 : decode c_HoldQueue_Holds_init 50 = .ok (.bipush 121, 2) := by decide +kernel
theorem d_HoldQueue_Holds_init_52 : decode c_HoldQueue_Holds_init 52 = .ok (.newarray .int, 2) := by decide +kernel
theorem d_HoldQueue_Holds_init_54 : decode c_HoldQueue_Holds_init 54 = .ok (.putfield 31, 3) := by decide +kernel
theorem d_HoldQueue_Holds_init_57 : decode c_HoldQueue_Holds_init 57 = .ok (.aload_n 0, 1) := by decide +kernel
theorem d_HoldQueue_Holds_init_58 : decode c_HoldQueue_Holds_init 58 = .ok (.bipush 121, 2) := by decide +kernel
theorem d_HoldQueue_Holds_init_60 : decode c_HoldQueue_Holds_init 60 = .ok (.newarray .long, 2) := by decide +kernel
theorem d_HoldQueue_Holds_init_62 : decode c_HoldQueue_Holds_init 62 = .ok (.putfield 34, 3) := by decide +kernel
theorem d_HoldQueue_Holds_init_65 : decode c_HoldQueue_Holds_init 65 = .ok (.aload_n 0, 1) := by decide +kernel
theorem d_HoldQueue_Holds_init_66 : decode c_HoldQueue_Holds_init 66 = .ok (.bipush 121, 2) := by decide +kernel
theorem d_HoldQueue_Holds_init_68 : decode c_HoldQueue_Holds_init 68 = .ok (.newarray .long, 2) := by decide +kernel
theorem d_HoldQueue_Holds_init_70 : decode c_HoldQueue_Holds_init 70 = .ok (.putfield 38, 3) := by decide +kernel
theorem d_HoldQueue_Holds_init_73 : decode c_HoldQueue_Holds_init 73 = .ok (.return_, 1) := by decide +kernel
theorem d_HoldQueue_Holds_has_0 : decode c_HoldQueue_Holds_has 0 = .ok (.iload_n 1, 1) := by decide +kernel
theorem d_HoldQueue_Holds_has_1 : decode c_HoldQueue_Holds_has 1 = .ok (.iconst 1, 1) := by decide +kernel
theorem d_HoldQueue_Holds_has_2 : decode c_HoldQueue_Holds_has 2 = .ok (.if_icmp .lt 15, 3) := by decide +kernel
theorem d_HoldQueue_Holds_has_5 : decode c_HoldQueue_Holds_has 5 = .ok (.iload_n 1, 1) := by decide +kernel
theorem d_HoldQueue_Holds_has_6 : decode c_HoldQueue_Holds_has 6 = .ok (.aload_n 0, 1) := by decide +kernel
theorem d_HoldQueue_Holds_has_7 : decode c_HoldQueue_Holds_has 7 = .ok (.getfield 9, 3) := by decide +kernel
theorem d_HoldQueue_Holds_has_10 : decode c_HoldQueue_Holds_has 10 = .ok (.if_icmp .gt 7, 3) := by decide +kernel
theorem d_HoldQueue_Holds_has_13 : decode c_HoldQueue_Holds_has 13 = .ok (.iconst 1, 1) := by decide +kernel
theorem d_HoldQueue_Holds_has_14 : decode c_HoldQueue_Holds_has 14 = .ok (.goto 4, 3) := by decide +kernel
theorem d_HoldQueue_Holds_has_17 : decode c_HoldQueue_Holds_has 17 = .ok (.iconst 0, 1) := by decide +kernel
theorem d_HoldQueue_Holds_has_18 : decode c_HoldQueue_Holds_has 18 = .ok (.ireturn, 1) := by decide +kernel
theorem d_HoldQueue_Holds_isIn_0 : decode c_HoldQueue_Holds_isIn 0 = .ok (.aload_n 0, 1) := by decide +kernel
theorem d_HoldQueue_Holds_isIn_1 : decode c_HoldQueue_Holds_isIn 1 = .ok (.iload_n 1, 1) := by decide +kernel
theorem d_HoldQueue_Holds_isIn_2 : decode c_HoldQueue_Holds_isIn 2 = .ok (.invokevirtual 41, 3) := by decide +kernel
theorem d_HoldQueue_Holds_isIn_5 : decode c_HoldQueue_Holds_isIn 5 = .ok (.ifCond .eq 17, 3) := by decide +kernel
theorem d_HoldQueue_Holds_isIn_8 : decode c_HoldQueue_Holds_isIn 8 = .ok (.aload_n 0, 1) := by decide +kernel
theorem d_HoldQueue_Holds_isIn_9 : decode c_HoldQueue_Holds_isIn 9 = .ok (.getfield 28, 3) := by decide +kernel
theorem d_HoldQueue_Holds_isIn_12 : decode c_HoldQueue_Holds_isIn 12 = .ok (.iload_n 1, 1) := by decide +kernel
theorem d_HoldQueue_Holds_isIn_13 : decode c_HoldQueue_Holds_isIn 13 = .ok (.iaload, 1) := by decide +kernel
theorem d_HoldQueue_Holds_isIn_14 : decode c_HoldQueue_Holds_isIn 14 = .ok (.iload_n 2, 1) := by decide +kernel
theorem d_HoldQueue_Holds_isIn_15 : decode c_HoldQueue_Holds_isIn 15 = .ok (.if_icmp .ne 7, 3) := by decide +kernel
theorem d_HoldQueue_Holds_isIn_18 : decode c_HoldQueue_Holds_isIn 18 = .ok (.iconst 1, 1) := by decide +kernel
theorem d_HoldQueue_Holds_isIn_19 : decode c_HoldQueue_Holds_isIn 19 = .ok (.goto 4, 3) := by decide +kernel
theorem d_HoldQueue_Holds_isIn_22 : decode c_HoldQueue_Holds_isIn 22 = .ok (.iconst 0, 1) := by decide +kernel
theorem d_HoldQueue_Holds_isIn_23 : decode c_HoldQueue_Holds_isIn 23 = .ok (.ireturn, 1) := by decide +kernel
theorem d_HoldQueue_Holds_isOpen_0 : decode c_HoldQueue_Holds_isOpen 0 = .ok (.aload_n 0, 1) := by decide +kernel
theorem d_HoldQueue_Holds_isOpen_1 : decode c_HoldQueue_Holds_isOpen 1 = .ok (.iload_n 1, 1) := by decide +kernel
theorem d_HoldQueue_Holds_isOpen_2 : decode c_HoldQueue_Holds_isOpen 2 = .ok (.iconst 0, 1) := by decide +kernel
theorem d_HoldQueue_Holds_isOpen_3 : decode c_HoldQueue_Holds_isOpen 3 = .ok (.invokevirtual 45, 3) := by decide +kernel
theorem d_HoldQueue_Holds_isOpen_6 : decode c_HoldQueue_Holds_isOpen 6 = .ok (.ifCond .ne 21, 3) := by decide +kernel
theorem d_HoldQueue_Holds_isOpen_9 : decode c_HoldQueue_Holds_isOpen 9 = .ok (.aload_n 0, 1) := by decide +kernel
theorem d_HoldQueue_Holds_isOpen_10 : decode c_HoldQueue_Holds_isOpen 10 = .ok (.iload_n 1, 1) := by decide +kernel
theorem d_HoldQueue_Holds_isOpen_11 : decode c_HoldQueue_Holds_isOpen 11 = .ok (.iconst 1, 1) := by decide +kernel
theorem d_HoldQueue_Holds_isOpen_12 : decode c_HoldQueue_Holds_isOpen 12 = .ok (.invokevirtual 45, 3) := by decide +kernel
theorem d_HoldQueue_Holds_isOpen_15 : decode c_HoldQueue_Holds_isOpen 15 = .ok (.ifCond .ne 12, 3) := by decide +kernel
theorem d_HoldQueue_Holds_isOpen_18 : decode c_HoldQueue_Holds_isOpen 18 = .ok (.aload_n 0, 1) := by decide +kernel
theorem d_HoldQueue_Holds_isOpen_19 : decode c_HoldQueue_Holds_isOpen 19 = .ok (.iload_n 1, 1) := by decide +kernel
theorem d_HoldQueue_Holds_isOpen_20 : decode c_HoldQueue_Holds_isOpen 20 = .ok (.iconst 2, 1) := by decide +kernel
theorem d_HoldQueue_Holds_isOpen_21 : decode c_HoldQueue_Holds_isOpen 21 = .ok (.invokevirtual 45, 3) := by decide +kernel
theorem d_HoldQueue_Holds_isOpen_24 : decode c_HoldQueue_Holds_isOpen 24 = .ok (.ifCond .eq 7, 3) := by decide +kernel
theorem d_HoldQueue_Holds_isOpen_27 : decode c_HoldQueue_Holds_isOpen 27 = .ok (.iconst 1, 1) := by decide +kernel
theorem d_HoldQueue_Holds_isOpen_28 : decode c_HoldQueue_Holds_isOpen 28 = .ok (.goto 4, 3) := by decide +kernel
theorem d_HoldQueue_Holds_isOpen_31 : decode c_HoldQueue_Holds_isOpen 31 = .ok (.iconst 0, 1) := by decide +kernel
theorem d_HoldQueue_Holds_isOpen_32 : decode c_HoldQueue_Holds_isOpen 32 = .ok (.ireturn, 1) := by decide +kernel
