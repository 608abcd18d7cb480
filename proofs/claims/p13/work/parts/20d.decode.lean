theorem d_HoldQueueModel_isAhead_6 : decode c_HoldQueueModel_isAhead 6 = .ok (.aload_n 0, 1) := by decide +kernel
theorem d_HoldQueueModel_isAhead_7 : decode c_HoldQueueModel_isAhead 7 = .ok (.getfield 45, 3) := by decide +kernel
theorem d_HoldQueueModel_isAhead_10 : decode c_HoldQueueModel_isAhead 10 = .ok (.iload_n 2, 1) := by decide +kernel
theorem d_HoldQueueModel_isAhead_11 : decode c_HoldQueueModel_isAhead 11 = .ok (.iaload, 1) := by decide +kernel
theorem d_HoldQueueModel_isAhead_12 : decode c_HoldQueueModel_isAhead 12 = .ok (.if_icmp .lt 23, 3) := by decide +kernel
theorem d_HoldQueueModel_isAhead_15 : decode c_HoldQueueModel_isAhead 15 = .ok (.aload_n 0, 1) := by decide +kernel
theorem d_HoldQueueModel_isAhead_16 : decode c_HoldQueueModel_isAhead 16 = .ok (.getfield 45, 3) := by decide +kernel
theorem d_HoldQueueModel_isAhead_19 : decode c_HoldQueueModel_isAhead 19 = .ok (.iload_n 1, 1) := by decide +kernel
theorem d_HoldQueueModel_isAhead_20 : decode c_HoldQueueModel_isAhead 20 = .ok (.iaload, 1) := by decide +kernel
theorem d_HoldQueueModel_isAhead_21 : decode c_HoldQueueModel_isAhead 21 = .ok (.aload_n 0, 1) := by decide +kernel
theorem d_HoldQueueModel_isAhead_22 : decode c_HoldQueueModel_isAhead 22 = .ok (.getfield 45, 3) := by decide +kernel
theorem d_HoldQueueModel_isAhead_25 : decode c_HoldQueueModel_isAhead 25 = .ok (.iload_n 2, 1) := by decide +kernel
theorem d_HoldQueueModel_isAhead_26 : decode c_HoldQueueModel_isAhead 26 = .ok (.iaload, 1) := by decide +kernel
theorem d_HoldQueueModel_isAhead_27 : decode c_HoldQueueModel_isAhead 27 = .ok (.if_icmp .ne 12, 3) := by decide +kernel
theorem d_HoldQueueModel_isAhead_30 : decode c_HoldQueueModel_isAhead 30 = .ok (.iload_n 1, 1) := by decide +kernel
theorem d_HoldQueueModel_isAhead_31 : decode c_HoldQueueModel_isAhead 31 = .ok (.iload_n 2, 1) := by decide +kernel
theorem d_HoldQueueModel_isAhead_32 : decode c_HoldQueueModel_isAhead 32 = .ok (.if_icmp .ge 7, 3) := by decide +kernel
theorem d_HoldQueueModel_isAhead_35 : decode c_HoldQueueModel_isAhead 35 = .ok (.iconst 1, 1) := by decide +kernel
theorem d_HoldQueueModel_isAhead_36 : decode c_HoldQueueModel_isAhead 36 = .ok (.goto 4, 3) := by decide +kernel
theorem d_HoldQueueModel_isAhead_39 : decode c_HoldQueueModel_isAhead 39 = .ok (.iconst 0, 1) := by decide +kernel
theorem d_HoldQueueModel_isAhead_40 : decode c_HoldQueueModel_isAhead 40 = .ok (.ireturn, 1) := by decide +kernel
theorem d_HoldQueueModel_placeOf_0 : decode c_HoldQueueModel_placeOf 0 = .ok (.iconst 0, 1) := by decide +kernel
theorem d_HoldQueueModel_placeOf_1 : decode c_HoldQueueModel_placeOf 1 = .ok (.istore_n 2, 1) := by decide +kernel
theorem d_HoldQueueModel_placeOf_2 : decode c_HoldQueueModel_placeOf 2 = .ok (.iconst 1, 1) := by decide +kernel
theorem d_HoldQueueModel_placeOf_3 : decode c_HoldQueueModel_placeOf 3 = .ok (.istore_n 3, 1) := by decide +kernel
theorem d_HoldQueueModel_placeOf_4 : decode c_HoldQueueModel_placeOf 4 = .ok (.iload_n 3, 1) := by decide +kernel
theorem d_HoldQueueModel_placeOf_5 : decode c_HoldQueueModel_placeOf 5 = .ok (.aload_n 0, 1) := by decide +kernel
theorem d_HoldQueueModel_placeOf_6 : decode c_HoldQueueModel_placeOf 6 = .ok (.getfield 74, 3) := by decide +kernel
theorem d_HoldQueueModel_placeOf_9 : decode c_HoldQueueModel_placeOf 9 = .ok (.if_icmp .gt 50, 3) := by decide +kernel
theorem d_HoldQueueModel_placeOf_12 : decode c_HoldQueueModel_placeOf 12 = .ok (.iload_n 2, 1) := by decide +kernel
theorem d_HoldQueueModel_placeOf_13 : decode c_HoldQueueModel_placeOf 13 = .ok (.aload_n 0, 1) := by decide +kernel
theorem d_HoldQueueModel_placeOf_14 : decode c_HoldQueueModel_placeOf 14 = .ok (.getfield 48, 3) := by decide +kernel
theorem d_HoldQueueModel_placeOf_17 : decode c_HoldQueueModel_placeOf 17 = .ok (.iload_n 3, 1) := by decide +kernel
theorem d_HoldQueueModel_placeOf_18 : decode c_HoldQueueModel_placeOf 18 = .ok (.iaload, 1) := by decide +kernel
theorem d_HoldQueueModel_placeOf_19 : decode c_HoldQueueModel_placeOf 19 = .ok (.ifCond .ne 31, 3) := by decide +kernel
theorem d_HoldQueueModel_placeOf_22 : decode c_HoldQueueModel_placeOf 22 = .ok (.aload_n 0, 1) := by decide +kernel
theorem d_HoldQueueModel_placeOf_23 : decode c_HoldQueueModel_placeOf 23 = .ok (.getfield 39, 3) := by decide +kernel
theorem d_HoldQueueModel_placeOf_26 : decode c_HoldQueueModel_placeOf 26 = .ok (.iload_n 3, 1) := by decide +kernel
theorem d_HoldQueueModel_placeOf_27 : decode c_HoldQueueModel_placeOf 27 = .ok (.iaload, 1) := by decide +kernel
theorem d_HoldQueueModel_placeOf_28 : decode c_HoldQueueModel_placeOf 28 = .ok (.aload_n 0, 1) := by decide +kernel
theorem d_HoldQueueModel_placeOf_29 : decode c_HoldQueueModel_placeOf 29 = .ok (.getfield 39, 3) := by decide +kernel
theorem d_HoldQueueModel_placeOf_32 : decode c_HoldQueueModel_placeOf 32 = .ok (.iload_n 1, 1) := by decide +kernel
theorem d_HoldQueueModel_placeOf_33 : decode c_HoldQueueModel_placeOf 33 = .ok (.iaload, 1) := by decide +kernel
theorem d_HoldQueueModel_placeOf_34 : decode c_HoldQueueModel_placeOf 34 = .ok (.if_icmp .ne 16, 3) := by decide +kernel
theorem d_HoldQueueModel_placeOf_37 : decode c_HoldQueueModel_placeOf 37 = .ok (.aload_n 0, 1) := by decide +kernel
theorem d_HoldQueueModel_placeOf_38 : decode c_HoldQueueModel_placeOf 38 = .ok (.iload_n 3, 1) := by decide +kernel
theorem d_HoldQueueModel_placeOf_39 : decode c_HoldQueueModel_placeOf 39 = .ok (.iload_n 1, 1) := by decide +kernel
theorem d_HoldQueueModel_placeOf_40 : decode c_HoldQueueModel_placeOf 40 = .ok (.invokevirtual 77, 3) := by decide +kernel
theorem d_HoldQueueModel_placeOf_43 : decode c_HoldQueueModel_placeOf 43 = .ok (.ifCond .eq 7, 3) := by decide +kernel
theorem d_HoldQueueModel_placeOf_46 : decode c_HoldQueueModel_placeOf 46 = .ok (.iconst 1, 1) := by decide +kernel
theorem d_HoldQueueModel_placeOf_47 : decode c_HoldQueueModel_placeOf 47 = .ok (.goto 4, 3) := by decide +kernel
theorem d_HoldQueueModel_placeOf_50 : decode c_HoldQueueModel_placeOf 50 = .ok (.iconst 0, 1) := by decide +kernel
theorem d_HoldQueueModel_placeOf_51 : decode c_HoldQueueModel_placeOf 51 = .ok (.iadd, 1) := by decide +kernel
theorem d_HoldQueueModel_placeOf_52 : decode c_HoldQueueModel_placeOf 52 = .ok (.istore_n 2, 1) := by decide +kernel
theorem d_HoldQueueModel_placeOf_53 : decode c_HoldQueueModel_placeOf 53 = .ok (.iinc 3 1, 3) := by decide +kernel
theorem d_HoldQueueModel_placeOf_56 : decode c_HoldQueueModel_placeOf 56 = .ok (.goto (-52), 3) := by decide +kernel
theorem d_HoldQueueModel_placeOf_59 : decode c_HoldQueueModel_placeOf 59 = .ok (.iload_n 2, 1) := by decide +kernel
theorem d_HoldQueueModel_placeOf_60 : decode c_HoldQueueModel_placeOf 60 = .ok (.ireturn, 1) := by decide +kernel
theorem d_HoldQueueModel_fits_0 : decode c_HoldQueueModel_fits 0 = .ok (.iconst 0, 1) := by decide +kernel
theorem d_HoldQueueModel_fits_1 : decode c_HoldQueueModel_fits 1 = .ok (.istore_n 2, 1) := by decide +kernel
theorem d_HoldQueueModel_fits_2 : decode c_HoldQueueModel_fits 2 = .ok (.iconst 1, 1) := by decide +kernel
theorem d_HoldQueueModel_fits_3 : decode c_HoldQueueModel_fits 3 = .ok (.istore_n 3, 1) := by decide +kernel
theorem d_HoldQueueModel_fits_4 : decode c_HoldQueueModel_fits 4 = .ok (.iload_n 3, 1) := by decide +kernel
theorem d_HoldQueueModel_fits_5 : decode c_HoldQueueModel_fits 5 = .ok (.aload_n 0, 1) := by decide +kernel
theorem d_HoldQueueModel_fits_6 : decode c_HoldQueueModel_fits 6 = .ok (.getfield 74, 3) := by decide +kernel
theorem d_HoldQueueModel_fits_9 : decode c_HoldQueueModel_fits 9 = .ok (.if_icmp .gt 73, 3) := by decide +kernel
theorem d_HoldQueueModel_fits_12 : decode c_HoldQueueModel_fits 12 = .ok (.aload_n 0, 1) := by decide +kernel
theorem d_HoldQueueModel_fits_13 : decode c_HoldQueueModel_fits 13 = .ok (.getfield 48, 3) := by decide +kernel
theorem d_HoldQueueModel_fits_16 : decode c_HoldQueueModel_fits 16 = .ok (.iload_n 3, 1) := by decide +kernel
theorem d_HoldQueueModel_fits_17 : decode c_HoldQueueModel_fits 17 = .ok (.iaload, 1) := by decide +kernel
theorem d_HoldQueueModel_fits_18 : decode c_HoldQueueModel_fits 18 = .ok (.ifCond .ne 31, 3) := by decide +kernel
theorem d_HoldQueueModel_fits_21 : decode c_HoldQueueModel_fits 21 = .ok (.aload_n 0, 1) := by decide +kernel
theorem d_HoldQueueModel_fits_22 : decode c_HoldQueueModel_fits 22 = .ok (.getfield 39, 3) := by decide +kernel
theorem d_HoldQueueModel_fits_25 : decode c_HoldQueueModel_fits 25 = .ok (.iload_n 3, 1) := by decide +kernel
theorem d_HoldQueueModel_fits_26 : decode c_HoldQueueModel_fits 26 = .ok (.iaload, 1) := by decide +kernel
theorem d_HoldQueueModel_fits_27 : decode c_HoldQueueModel_fits 27 = .ok (.iload_n 1, 1) := by decide +kernel
theorem d_HoldQueueModel_fits_28 : decode c_HoldQueueModel_fits 28 = .ok (.if_icmp .ne 21, 3) := by decide +kernel
theorem d_HoldQueueModel_fits_31 : decode c_HoldQueueModel_fits 31 = .ok (.aload_n 0, 1) := by decide +kernel
theorem d_HoldQueueModel_fits_32 : decode c_HoldQueueModel_fits 32 = .ok (.getfield 54, 3) := by decide +kernel
theorem d_HoldQueueModel_fits_35 : decode c_HoldQueueModel_fits 35 = .ok (.iload_n 3, 1) := by decide +kernel
theorem d_HoldQueueModel_fits_36 : decode c_HoldQueueModel_fits 36 = .ok (.laload, 1) := by decide +kernel
theorem d_HoldQueueModel_fits_37 : decode c_HoldQueueModel_fits 37 = .ok (.aload_n 0, 1) := by decide +kernel
theorem d_HoldQueueModel_fits_38 : decode c_HoldQueueModel_fits 38 = .ok (.getfield 81, 3) := by decide +kernel
theorem d_HoldQueueModel_fits_41 : decode c_HoldQueueModel_fits 41 = .ok (.lcmp, 1) := by decide +kernel
theorem d_HoldQueueModel_fits_42 : decode c_HoldQueueModel_fits 42 = .ok (.ifCond .gt 7, 3) := by decide +kernel
theorem d_HoldQueueModel_fits_45 : decode c_HoldQueueModel_fits 45 = .ok (.iconst 1, 1) := by decide +kernel
theorem d_HoldQueueModel_fits_46 : decode c_HoldQueueModel_fits 46 = .ok (.goto 4, 3) := by decide +kernel
theorem d_HoldQueueModel_fits_49 : decode c_HoldQueueModel_fits 49 = .ok (.iconst 0, 1) := by decide +kernel
theorem d_HoldQueueModel_fits_50 : decode c_HoldQueueModel_fits 50 = .ok (.istore 4, 2) := by decide +kernel
theorem d_HoldQueueModel_fits_52 : decode c_HoldQueueModel_fits 52 = .ok (.iload 4, 2) := by decide +kernel
theorem d_HoldQueueModel_fits_54 : decode c_HoldQueueModel_fits 54 = .ok (.ifCond .eq 20, 3) := by decide +kernel
theorem d_HoldQueueModel_fits_57 : decode c_HoldQueueModel_fits 57 = .ok (.iload_n 2, 1) := by decide +kernel
theorem d_HoldQueueModel_fits_58 : decode c_HoldQueueModel_fits 58 = .ok (.ifCond .eq 12, 3) := by decide +kernel
theorem d_HoldQueueModel_fits_61 : decode c_HoldQueueModel_fits 61 = .ok (.aload_n 0, 1) := by decide +kernel
theorem d_HoldQueueModel_fits_62 : decode c_HoldQueueModel_fits 62 = .ok (.iload_n 3, 1) := by decide +kernel
theorem d_HoldQueueModel_fits_63 : decode c_HoldQueueModel_fits 63 = .ok (.iload_n 2, 1) := by decide +kernel
theorem d_HoldQueueModel_fits_64 : decode c_HoldQueueModel_fits 64 = .ok (.invokevirtual 77, 3) := by decide +kernel
theorem d_HoldQueueModel_fits_67 : decode c_HoldQueueModel_fits 67 = .ok (.ifCond .eq 7, 3) := by decide +kernel
theorem d_HoldQueueModel_fits_70 : decode c_HoldQueueModel_fits 70 = .ok (.iload_n 3, 1) := by decide +kernel
theorem d_HoldQueueModel_fits_71 : decode c_HoldQueueModel_fits 71 = .ok (.goto 4, 3) := by decide +kernel
theorem d_HoldQueueModel_fits_74 : decode c_HoldQueueModel_fits 74 = .ok (.iload_n 2, 1) := by decide +kernel
theorem d_HoldQueueModel_fits_75 : decode c_HoldQueueModel_fits 75 = .ok (.istore_n 2, 1) := by decide +kernel
theorem d_HoldQueueModel_fits_76 : decode c_HoldQueueModel_fits 76 = .ok (.iinc 3 1, 3) := by decide +kernel
theorem d_HoldQueueModel_fits_79 : decode c_HoldQueueModel_fits 79 = .ok (.goto (-75), 3) := by decide +kernel
theorem d_HoldQueueModel_fits_82 : decode c_HoldQueueModel_fits 82 = .ok (.iload_n 2, 1) := by decide +kernel
theorem d_HoldQueueModel_fits_83 : decode c_HoldQueueModel_fits 83 = .ok (.ireturn, 1) := by decide +kernel
theorem d_HoldQueueModel_lies_0 : decode c_HoldQueueModel_lies 0 = .ok (.aload_n 0, 1) := by decide +kernel
theorem d_HoldQueueModel_lies_1 : decode c_HoldQueueModel_lies 1 = .ok (.getfield 48, 3) := by decide +kernel
theorem d_HoldQueueModel_lies_4 : decode c_HoldQueueModel_lies 4 = .ok (.iload_n 2, 1) := by decide +kernel
theorem d_HoldQueueModel_lies_5 : decode c_HoldQueueModel_lies 5 = .ok (.iconst 2, 1) := by decide +kernel
theorem d_HoldQueueModel_lies_6 : decode c_HoldQueueModel_lies 6 = .ok (.iastore, 1) := by decide +kernel
theorem d_HoldQueueModel_lies_7 : decode c_HoldQueueModel_lies 7 = .ok (.aload_n 0, 1) := by decide +kernel
theorem d_HoldQueueModel_lies_8 : decode c_HoldQueueModel_lies 8 = .ok (.getfield 58, 3) := by decide +kernel
theorem d_HoldQueueModel_lies_11 : decode c_HoldQueueModel_lies 11 = .ok (.iload_n 2, 1) := by decide +kernel
theorem d_HoldQueueModel_lies_12 : decode c_HoldQueueModel_lies 12 = .ok (.aload_n 0, 1) := by decide +kernel
theorem d_HoldQueueModel_lies_13 : decode c_HoldQueueModel_lies 13 = .ok (.getfield 81, 3) := by decide +kernel
theorem d_HoldQueueModel_lies_16 : decode c_HoldQueueModel_lies 16 = .ok (.aload_n 0, 1) := by decide +kernel
theorem d_HoldQueueModel_lies_17 : decode c_HoldQueueModel_lies 17 = .ok (.getfield 20, 3) := by decide +kernel
theorem d_HoldQueueModel_lies_20 : decode c_HoldQueueModel_lies 20 = .ok (.i2l, 1) := by decide +kernel
theorem d_HoldQueueModel_lies_21 : decode c_HoldQueueModel_lies 21 = .ok (.ladd, 1) := by decide +kernel
theorem d_HoldQueueModel_lies_22 : decode c_HoldQueueModel_lies 22 = .ok (.lastore, 1) := by decide +kernel
theorem d_HoldQueueModel_lies_23 : decode c_HoldQueueModel_lies 23 = .ok (.aload_n 0, 1) := by decide +kernel
theorem d_HoldQueueModel_lies_24 : decode c_HoldQueueModel_lies 24 = .ok (.getfield 27, 3) := by decide +kernel
theorem d_HoldQueueModel_lies_27 : decode c_HoldQueueModel_lies 27 = .ok (.iload_n 1, 1) := by decide +kernel
theorem d_HoldQueueModel_lies_28 : decode c_HoldQueueModel_lies 28 = .ok (.iconst 3, 1) := by decide +kernel
theorem d_HoldQueueModel_lies_29 : decode c_HoldQueueModel_lies 29 = .ok (.iastore, 1) := by decide +kernel
theorem d_HoldQueueModel_lies_30 : decode c_HoldQueueModel_lies 30 = .ok (.return_, 1) := by decide +kernel
theorem d_HoldQueueModel_goes_0 : decode c_HoldQueueModel_goes 0 = .ok (.aload_n 0, 1) := by decide +kernel
theorem d_HoldQueueModel_goes_1 : decode c_HoldQueueModel_goes 1 = .ok (.aload_n 0, 1) := by decide +kernel
theorem d_HoldQueueModel_goes_2 : decode c_HoldQueueModel_goes 2 = .ok (.getfield 24, 3) := by decide +kernel
theorem d_HoldQueueModel_goes_5 : decode c_HoldQueueModel_goes 5 = .ok (.iload_n 1, 1) := by decide +kernel
theorem d_HoldQueueModel_goes_6 : decode c_HoldQueueModel_goes 6 = .ok (.iaload, 1) := by decide +kernel
theorem d_HoldQueueModel_goes_7 : decode c_HoldQueueModel_goes 7 = .ok (.invokevirtual 85, 3) := by decide +kernel
theorem d_HoldQueueModel_goes_10 : decode c_HoldQueueModel_goes 10 = .ok (.istore_n 2, 1) := by decide +kernel
theorem d_HoldQueueModel_goes_11 : decode c_HoldQueueModel_goes 11 = .ok (.aload_n 0, 1) := by decide +kernel
theorem d_HoldQueueModel_goes_12 : decode c_HoldQueueModel_goes 12 = .ok (.getfield 33, 3) := by decide +kernel
theorem d_HoldQueueModel_goes_15 : decode c_HoldQueueModel_goes 15 = .ok (.iload_n 1, 1) := by decide +kernel
theorem d_HoldQueueModel_goes_16 : decode c_HoldQueueModel_goes 16 = .ok (.iload_n 2, 1) := by decide +kernel
theorem d_HoldQueueModel_goes_17 : decode c_HoldQueueModel_goes 17 = .ok (.iastore, 1) := by decide +kernel
theorem d_HoldQueueModel_goes_18 : decode c_HoldQueueModel_goes 18 = .ok (.aload_n 0, 1) := by decide +kernel
theorem d_HoldQueueModel_goes_19 : decode c_HoldQueueModel_goes 19 = .ok (.getfield 27, 3) := by decide +kernel
theorem d_HoldQueueModel_goes_22 : decode c_HoldQueueModel_goes 22 = .ok (.iload_n 1, 1) := by decide +kernel
theorem d_HoldQueueModel_goes_23 : decode c_HoldQueueModel_goes 23 = .ok (.iconst 0, 1) := by decide +kernel
theorem d_HoldQueueModel_goes_24 : decode c_HoldQueueModel_goes 24 = .ok (.iastore, 1) := by decide +kernel
theorem d_HoldQueueModel_goes_25 : decode c_HoldQueueModel_goes 25 = .ok (.iload_n 2, 1) := by decide +kernel
theorem d_HoldQueueModel_goes_26 : decode c_HoldQueueModel_goes 26 = .ok (.ifCond .ne 5, 3) := by decide +kernel
theorem d_HoldQueueModel_goes_29 : decode c_HoldQueueModel_goes 29 = .ok (.iconst 0, 1) := by decide +kernel
theorem d_HoldQueueModel_goes_30 : decode c_HoldQueueModel_goes 30 = .ok (.ireturn, 1) := by decide +kernel
theorem d_HoldQueueModel_goes_31 : decode c_HoldQueueModel_goes 31 = .ok (.aload_n 0, 1) := by decide +kernel
theorem d_HoldQueueModel_goes_32 : decode c_HoldQueueModel_goes 32 = .ok (.getfield 51, 3) := by decide +kernel
theorem d_HoldQueueModel_goes_35 : decode c_HoldQueueModel_goes 35 = .ok (.iload_n 2, 1) := by decide +kernel
theorem d_HoldQueueModel_goes_36 : decode c_HoldQueueModel_goes 36 = .ok (.iload_n 1, 1) := by decide +kernel
theorem d_HoldQueueModel_goes_37 : decode c_HoldQueueModel_goes 37 = .ok (.iastore, 1) := by decide +kernel
theorem d_HoldQueueModel_goes_38 : decode c_HoldQueueModel_goes 38 = .ok (.aload_n 0, 1) := by decide +kernel
theorem d_HoldQueueModel_goes_39 : decode c_HoldQueueModel_goes 39 = .ok (.getfield 30, 3) := by decide +kernel
theorem d_HoldQueueModel_goes_42 : decode c_HoldQueueModel_goes 42 = .ok (.iload_n 1, 1) := by decide +kernel
theorem d_HoldQueueModel_goes_43 : decode c_HoldQueueModel_goes 43 = .ok (.iaload, 1) := by decide +kernel
theorem d_HoldQueueModel_goes_44 : decode c_HoldQueueModel_goes 44 = .ok (.aload_n 0, 1) := by decide +kernel
theorem d_HoldQueueModel_goes_45 : decode c_HoldQueueModel_goes 45 = .ok (.getfield 42, 3) := by decide +kernel
theorem d_HoldQueueModel_goes_48 : decode c_HoldQueueModel_goes 48 = .ok (.iload_n 2, 1) := by decide +kernel
theorem d_HoldQueueModel_goes_49 : decode c_HoldQueueModel_goes 49 = .ok (.iaload, 1) := by decide +kernel
theorem d_HoldQueueModel_goes_50 : decode c_HoldQueueModel_goes 50 = .ok (.if_icmp .ne 12, 3) := by decide +kernel
theorem d_HoldQueueModel_goes_53 : decode c_HoldQueueModel_goes 53 = .ok (.aload_n 0, 1) := by decide +kernel
theorem d_HoldQueueModel_goes_54 : decode c_HoldQueueModel_goes 54 = .ok (.iload_n 1, 1) := by decide +kernel
theorem d_HoldQueueModel_goes_55 : decode c_HoldQueueModel_goes 55 = .ok (.iload_n 2, 1) := by decide +kernel
theorem d_HoldQueueModel_goes_56 : decode c_HoldQueueModel_goes 56 = .ok (.invokevirtual 89, 3) := by decide +kernel
theorem d_HoldQueueModel_goes_59 : decode c_HoldQueueModel_goes 59 = .ok (.goto 29, 3) := by decide +kernel
theorem d_HoldQueueModel_goes_62 : decode c_HoldQueueModel_goes 62 = .ok (.aload_n 0, 1) := by decide +kernel
theorem d_HoldQueueModel_goes_63 : decode c_HoldQueueModel_goes 63 = .ok (.getfield 48, 3) := by decide +kernel
theorem d_HoldQueueModel_goes_66 : decode c_HoldQueueModel_goes 66 = .ok (.iload_n 2, 1) := by decide +kernel
theorem d_HoldQueueModel_goes_67 : decode c_HoldQueueModel_goes 67 = .ok (.iconst 1, 1) := by decide +kernel
theorem d_HoldQueueModel_goes_68 : decode c_HoldQueueModel_goes 68 = .ok (.iastore, 1) := by decide +kernel
theorem d_HoldQueueModel_goes_69 : decode c_HoldQueueModel_goes 69 = .ok (.aload_n 0, 1) := by decide +kernel
theorem d_HoldQueueModel_goes_70 : decode c_HoldQueueModel_goes 70 = .ok (.getfield 27, 3) := by decide +kernel
theorem d_HoldQueueModel_goes_73 : decode c_HoldQueueModel_goes 73 = .ok (.iload_n 1, 1) := by decide +kernel
theorem d_HoldQueueModel_goes_74 : decode c_HoldQueueModel_goes 74 = .ok (.iconst 2, 1) := by decide +kernel
theorem d_HoldQueueModel_goes_75 : decode c_HoldQueueModel_goes 75 = .ok (.iastore, 1) := by decide +kernel
theorem d_HoldQueueModel_goes_76 : decode c_HoldQueueModel_goes 76 = .ok (.aload_n 0, 1) := by decide +kernel
theorem d_HoldQueueModel_goes_77 : decode c_HoldQueueModel_goes 77 = .ok (.getfield 30, 3) := by decide +kernel
theorem d_HoldQueueModel_goes_80 : decode c_HoldQueueModel_goes 80 = .ok (.iload_n 1, 1) := by decide +kernel
theorem d_HoldQueueModel_goes_81 : decode c_HoldQueueModel_goes 81 = .ok (.aload_n 0, 1) := by decide +kernel
theorem d_HoldQueueModel_goes_82 : decode c_HoldQueueModel_goes 82 = .ok (.getfield 42, 3) := by decide +kernel
theorem d_HoldQueueModel_goes_85 : decode c_HoldQueueModel_goes 85 = .ok (.iload_n 2, 1) := by decide +kernel
theorem d_HoldQueueModel_goes_86 : decode c_HoldQueueModel_goes 86 = .ok (.iaload, 1) := by decide +kernel
theorem d_HoldQueueModel_goes_87 : decode c_HoldQueueModel_goes 87 = .ok (.iastore, 1) := by decide +kernel
theorem d_HoldQueueModel_goes_88 : decode c_HoldQueueModel_goes 88 = .ok (.iload_n 2, 1) := by decide +kernel
theorem d_HoldQueueModel_goes_89 : decode c_HoldQueueModel_goes 89 = .ok (.ireturn, 1) := by decide +kernel
theorem d_HoldQueueModel_hold_0 : decode c_HoldQueueModel_hold 0 = .ok (.aload_n 0, 1) := by decide +kernel
theorem d_HoldQueueModel_hold_1 : decode c_HoldQueueModel_hold 1 = .ok (.iconst 0, 1) := by decide +kernel
theorem d_HoldQueueModel_hold_2 : decode c_HoldQueueModel_hold 2 = .ok (.putfield 61, 3) := by decide +kernel
theorem d_HoldQueueModel_hold_5 : decode c_HoldQueueModel_hold 5 = .ok (.iload_n 1, 1) := by decide +kernel
theorem d_HoldQueueModel_hold_6 : decode c_HoldQueueModel_hold 6 = .ok (.iconst 0, 1) := by decide +kernel
theorem d_HoldQueueModel_hold_7 : decode c_HoldQueueModel_hold 7 = .ok (.bipush 39, 2) := by decide +kernel
theorem d_HoldQueueModel_hold_9 : decode c_HoldQueueModel_hold 9 = .ok (.invokestatic 64, 3) := by decide +kernel
theorem d_HoldQueueModel_hold_12 : decode c_HoldQueueModel_hold 12 = .ok (.ifCond .eq 47, 3) := by decide +kernel
theorem d_HoldQueueModel_hold_15 : decode c_HoldQueueModel_hold 15 = .ok (.iload_n 2, 1) := by decide +kernel
theorem d_HoldQueueModel_hold_16 : decode c_HoldQueueModel_hold 16 = .ok (.iconst 1, 1) := by decide +kernel
theorem d_HoldQueueModel_hold_17 : decode c_HoldQueueModel_hold 17 = .ok (.aload_n 0, 1) := by decide +kernel
theorem d_HoldQueueModel_hold_18 : decode c_HoldQueueModel_hold 18 = .ok (.getfield 68, 3) := by decide +kernel
theorem d_HoldQueueModel_hold_21 : decode c_HoldQueueModel_hold 21 = .ok (.invokestatic 64, 3) := by decide +kernel
theorem d_HoldQueueModel_hold_24 : decode c_HoldQueueModel_hold 24 = .ok (.ifCond .eq 35, 3) := by decide +kernel
theorem d_HoldQueueModel_hold_27 : decode c_HoldQueueModel_hold 27 = .ok (.iload_n 3, 1) := by decide +kernel
theorem d_HoldQueueModel_hold_28 : decode c_HoldQueueModel_hold 28 = .ok (.iconst 0, 1) := by decide +kernel
theorem d_HoldQueueModel_hold_29 : decode c_HoldQueueModel_hold 29 = .ok (.iconst 5, 1) := by decide +kernel
theorem d_HoldQueueModel_hold_30 : decode c_HoldQueueModel_hold 30 = .ok (.invokestatic 64, 3) := by decide +kernel
theorem d_HoldQueueModel_hold_33 : decode c_HoldQueueModel_hold 33 = .ok (.ifCond .eq 26, 3) := by decide +kernel
theorem d_HoldQueueModel_hold_36 : decode c_HoldQueueModel_hold 36 = .ok (.aload_n 0, 1) := by decide +kernel
theorem d_HoldQueueModel_hold_37 : decode c_HoldQueueModel_hold 37 = .ok (.getfield 13, 3) := by decide +kernel
theorem d_HoldQueueModel_hold_40 : decode c_HoldQueueModel_hold 40 = .ok (.aload_n 0, 1) := by decide +kernel
theorem d_HoldQueueModel_hold_41 : decode c_HoldQueueModel_hold 41 = .ok (.getfield 7, 3) := by decide +kernel
theorem d_HoldQueueModel_hold_44 : decode c_HoldQueueModel_hold 44 = .ok (.iload_n 2, 1) := by decide +kernel
theorem d_HoldQueueModel_hold_45 : decode c_HoldQueueModel_hold 45 = .ok (.iaload, 1) := by decide +kernel
theorem d_HoldQueueModel_hold_46 : decode c_HoldQueueModel_hold 46 = .ok (.baload, 1) := by decide +kernel
theorem d_HoldQueueModel_hold_47 : decode c_HoldQueueModel_hold 47 = .ok (.ifCond .ne 12, 3) := by decide +kernel
theorem d_HoldQueueModel_hold_50 : decode c_HoldQueueModel_hold 50 = .ok (.aload_n 0, 1) := by decide +kernel
theorem d_HoldQueueModel_hold_51 : decode c_HoldQueueModel_hold 51 = .ok (.getfield 74, 3) := by decide +kernel
theorem d_HoldQueueModel_hold_54 : decode c_HoldQueueModel_hold 54 = .ok (.bipush 120, 2) := by decide +kernel
theorem d_HoldQueueModel_hold_56 : decode c_HoldQueueModel_hold 56 = .ok (.if_icmp .ne 5, 3) := by decide +kernel
theorem d_HoldQueueModel_hold_59 : decode c_HoldQueueModel_hold 59 = .ok (.iconst 0, 1) := by decide +kernel
theorem d_HoldQueueModel_hold_60 : decode c_HoldQueueModel_hold 60 = .ok (.ireturn, 1) := by decide +kernel
theorem d_HoldQueueModel_hold_61 : decode c_HoldQueueModel_hold 61 = .ok (.iconst 0, 1) := by decide +kernel
theorem d_HoldQueueModel_hold_62 : decode c_HoldQueueModel_hold 62 = .ok (.istore 5, 2) := by decide +kernel
theorem d_HoldQueueModel_hold_64 : decode c_HoldQueueModel_hold 64 = .ok (.iconst 1, 1) := by decide +kernel
theorem d_HoldQueueModel_hold_65 : decode c_HoldQueueModel_hold 65 = .ok (.istore 6, 2) := by decide +kernel
theorem d_HoldQueueModel_hold_67 : decode c_HoldQueueModel_hold 67 = .ok (.iload 6, 2) := by decide +kernel
theorem d_HoldQueueModel_hold_69 : decode c_HoldQueueModel_hold 69 = .ok (.aload_n 0, 1) := by decide +kernel
theorem d_HoldQueueModel_hold_70 : decode c_HoldQueueModel_hold 70 = .ok (.getfield 74, 3) := by decide +kernel
theorem d_HoldQueueModel_hold_73 : decode c_HoldQueueModel_hold 73 = .ok (.if_icmp .gt 48, 3) := by decide +kernel
theorem d_HoldQueueModel_hold_76 : decode c_HoldQueueModel_hold 76 = .ok (.aload_n 0, 1) := by decide +kernel
theorem d_HoldQueueModel_hold_77 : decode c_HoldQueueModel_hold 77 = .ok (.getfield 36, 3) := by decide +kernel
theorem d_HoldQueueModel_hold_80 : decode c_HoldQueueModel_hold 80 = .ok (.iload 6, 2) := by decide +kernel
theorem d_HoldQueueModel_hold_82 : decode c_HoldQueueModel_hold 82 = .ok (.iaload, 1) := by decide +kernel
theorem d_HoldQueueModel_hold_83 : decode c_HoldQueueModel_hold 83 = .ok (.iload_n 1, 1) := by decide +kernel
theorem d_HoldQueueModel_hold_84 : decode c_HoldQueueModel_hold 84 = .ok (.if_icmp .ne 31, 3) := by decide +kernel
theorem d_HoldQueueModel_hold_87 : decode c_HoldQueueModel_hold 87 = .ok (.aload_n 0, 1) := by decide +kernel
theorem d_HoldQueueModel_hold_88 : decode c_HoldQueueModel_hold 88 = .ok (.iload 6, 2) := by decide +kernel
theorem d_HoldQueueModel_hold_90 : decode c_HoldQueueModel_hold 90 = .ok (.invokevirtual 93, 3) := by decide +kernel
theorem d_HoldQueueModel_hold_93 : decode c_HoldQueueModel_hold 93 = .ok (.ifCond .ne 6, 3) := by decide +kernel
theorem d_HoldQueueModel_hold_96 : decode c_HoldQueueModel_hold 96 = .ok (.goto 19, 3) := by decide +kernel
theorem d_HoldQueueModel_hold_99 : decode c_HoldQueueModel_hold 99 = .ok (.aload_n 0, 1) := by decide +kernel
theorem d_HoldQueueModel_hold_100 : decode c_HoldQueueModel_hold 100 = .ok (.getfield 39, 3) := by decide +kernel
theorem d_HoldQueueModel_hold_103 : decode c_HoldQueueModel_hold 103 = .ok (.iload 6, 2) := by decide +kernel
theorem d_HoldQueueModel_hold_105 : decode c_HoldQueueModel_hold 105 = .ok (.iaload, 1) := by decide +kernel
theorem d_HoldQueueModel_hold_106 : decode c_HoldQueueModel_hold 106 = .ok (.iload_n 2, 1) := by decide +kernel
theorem d_HoldQueueModel_hold_107 : decode c_HoldQueueModel_hold 107 = .ok (.if_icmp .ne 5, 3) := by decide +kernel
theorem d_HoldQueueModel_hold_110 : decode c_HoldQueueModel_hold 110 = .ok (.iconst 0, 1) := by decide +kernel
theorem d_HoldQueueModel_hold_111 : decode c_HoldQueueModel_hold 111 = .ok (.ireturn, 1) := by decide +kernel
theorem d_HoldQueueModel_hold_112 : decode c_HoldQueueModel_hold 112 = .ok (.iinc 5 1, 3) := by decide +kernel
theorem d_HoldQueueModel_hold_115 : decode c_HoldQueueModel_hold 115 = .ok (.iinc 6 1, 3) := by decide +kernel
theorem d_HoldQueueModel_hold_118 : decode c_HoldQueueModel_hold 118 = .ok (.goto (-51), 3) := by decide +kernel
theorem d_HoldQueueModel_hold_121 : decode c_HoldQueueModel_hold 121 = .ok (.iload 5, 2) := by decide +kernel
theorem d_HoldQueueModel_hold_123 : decode c_HoldQueueModel_hold 123 = .ok (.aload_n 0, 1) := by decide +kernel
theorem d_HoldQueueModel_hold_124 : decode c_HoldQueueModel_hold 124 = .ok (.getfield 17, 3) := by decide +kernel
theorem d_HoldQueueModel_hold_127 : decode c_HoldQueueModel_hold 127 = .ok (.iload_n 1, 1) := by decide +kernel
theorem d_HoldQueueModel_hold_128 : decode c_HoldQueueModel_hold 128 = .ok (.iaload, 1) := by decide +kernel
theorem d_HoldQueueModel_hold_129 : decode c_HoldQueueModel_hold 129 = .ok (.if_icmp .lt 5, 3) := by decide +kernel
theorem d_HoldQueueModel_hold_132 : decode c_HoldQueueModel_hold 132 = .ok (.iconst (-1), 1) := by decide +kernel
theorem d_HoldQueueModel_hold_133 : decode c_HoldQueueModel_hold 133 = .ok (.ireturn, 1) := by decide +kernel
theorem d_HoldQueueModel_hold_134 : decode c_HoldQueueModel_hold 134 = .ok (.aload_n 0, 1) := by decide +kernel
theorem d_HoldQueueModel_hold_135 : decode c_HoldQueueModel_hold 135 = .ok (.dup, 1) := by decide +kernel
theorem d_HoldQueueModel_hold_136 : decode c_HoldQueueModel_hold 136 = .ok (.getfield 74, 3) := by decide +kernel
theorem d_HoldQueueModel_hold_139 : decode c_HoldQueueModel_hold 139 = .ok (.iconst 1, 1) := by decide +kernel
theorem d_HoldQueueModel_hold_140 : decode c_HoldQueueModel_hold 140 = .ok (.iadd, 1) := by decide +kernel
theorem d_HoldQueueModel_hold_141 : decode c_HoldQueueModel_hold 141 = .ok (.putfield 74, 3) := by decide +kernel
theorem d_HoldQueueModel_hold_144 : decode c_HoldQueueModel_hold 144 = .ok (.aload_n 0, 1) := by decide +kernel
theorem d_HoldQueueModel_hold_145 : decode c_HoldQueueModel_hold 145 = .ok (.getfield 36, 3) := by decide +kernel
theorem d_HoldQueueModel_hold_148 : decode c_HoldQueueModel_hold 148 = .ok (.aload_n 0, 1) := by decide +kernel
theorem d_HoldQueueModel_hold_149 : decode c_HoldQueueModel_hold 149 = .ok (.getfield 74, 3) := by decide +kernel
theorem d_HoldQueueModel_hold_152 : decode c_HoldQueueModel_hold 152 = .ok (.iload_n 1, 1) := by decide +kernel
theorem d_HoldQueueModel_hold_153 : decode c_HoldQueueModel_hold 153 = .ok (.iastore, 1) := by decide +kernel
theorem d_HoldQueueModel_hold_154 : decode c_HoldQueueModel_hold 154 = .ok (.aload_n 0, 1) := by decide +kernel
theorem d_HoldQueueModel_hold_155 : decode c_HoldQueueModel_hold 155 = .ok (.getfield 39, 3) := by decide +kernel
theorem d_HoldQueueModel_hold_158 : decode c_HoldQueueModel_hold 158 = .ok (.aload_n 0, 1) := by decide +kernel
theorem d_HoldQueueModel_hold_159 : decode c_HoldQueueModel_hold 159 = .ok (.getfield 74, 3) := by decide +kernel
theorem d_HoldQueueModel_hold_162 : decode c_HoldQueueModel_hold 162 = .ok (.iload_n 2, 1) := by decide +kernel
theorem d_HoldQueueModel_hold_163 : decode c_HoldQueueModel_hold 163 = .ok (.iastore, 1) := by decide +kernel
theorem d_HoldQueueModel_hold_164 : decode c_HoldQueueModel_hold 164 = .ok (.aload_n 0, 1) := by decide +kernel
theorem d_HoldQueueModel_hold_165 : decode c_HoldQueueModel_hold 165 = .ok (.getfield 42, 3) := by decide +kernel
theorem d_HoldQueueModel_hold_168 : decode c_HoldQueueModel_hold 168 = .ok (.aload_n 0, 1) := by decide +kernel
theorem d_HoldQueueModel_hold_169 : decode c_HoldQueueModel_hold 169 = .ok (.getfield 74, 3) := by decide +kernel
theorem d_HoldQueueModel_hold_172 : decode c_HoldQueueModel_hold 172 = .ok (.iload_n 3, 1) := by decide +kernel
theorem d_HoldQueueModel_hold_173 : decode c_HoldQueueModel_hold 173 = .ok (.iastore, 1) := by decide +kernel
theorem d_HoldQueueModel_hold_174 : decode c_HoldQueueModel_hold 174 = .ok (.aload_n 0, 1) := by decide +kernel
theorem d_HoldQueueModel_hold_175 : decode c_HoldQueueModel_hold 175 = .ok (.getfield 45, 3) := by decide +kernel
theorem d_HoldQueueModel_hold_178 : decode c_HoldQueueModel_hold 178 = .ok (.aload_n 0, 1) := by decide +kernel
theorem d_HoldQueueModel_hold_179 : decode c_HoldQueueModel_hold 179 = .ok (.getfield 74, 3) := by decide +kernel
theorem d_HoldQueueModel_hold_182 : decode c_HoldQueueModel_hold 182 = .ok (.iload 4, 2) := by decide +kernel
theorem d_HoldQueueModel_hold_184 : decode c_HoldQueueModel_hold 184 = .ok (.iastore, 1) := by decide +kernel
theorem d_HoldQueueModel_hold_185 : decode c_HoldQueueModel_hold 185 = .ok (.aload_n 0, 1) := by decide +kernel
theorem d_HoldQueueModel_hold_186 : decode c_HoldQueueModel_hold 186 = .ok (.getfield 48, 3) := by decide +kernel
theorem d_HoldQueueModel_hold_189 : decode c_HoldQueueModel_hold 189 = .ok (.aload_n 0, 1) := by decide +kernel
theorem d_HoldQueueModel_hold_190 : decode c_HoldQueueModel_hold 190 = .ok (.getfield 74, 3) := by decide +kernel
theorem d_HoldQueueModel_hold_193 : decode c_HoldQueueModel_hold 193 = .ok (.iconst 0, 1) := by decide +kernel
theorem d_HoldQueueModel_hold_194 : decode c_HoldQueueModel_hold 194 = .ok (.iastore, 1) := by decide +kernel
theorem d_HoldQueueModel_hold_195 : decode c_HoldQueueModel_hold 195 = .ok (.aload_n 0, 1) := by decide +kernel
theorem d_HoldQueueModel_hold_196 : decode c_HoldQueueModel_hold 196 = .ok (.getfield 51, 3) := by decide +kernel
theorem d_HoldQueueModel_hold_199 : decode c_HoldQueueModel_hold 199 = .ok (.aload_n 0, 1) := by decide +kernel
theorem d_HoldQueueModel_hold_200 : decode c_HoldQueueModel_hold 200 = .ok (.getfield 74, 3) := by decide +kernel
theorem d_HoldQueueModel_hold_203 : decode c_HoldQueueModel_hold 203 = .ok (.iconst 0, 1) := by decide +kernel
theorem d_HoldQueueModel_hold_204 : decode c_HoldQueueModel_hold 204 = .ok (.iastore, 1) := by decide +kernel
theorem d_HoldQueueModel_hold_205 : decode c_HoldQueueModel_hold 205 = .ok (.aload_n 0, 1) := by decide +kernel
theorem d_HoldQueueModel_hold_206 : decode c_HoldQueueModel_hold 206 = .ok (.getfield 54, 3) := by decide +kernel
theorem d_HoldQueueModel_hold_209 : decode c_HoldQueueModel_hold 209 = .ok (.aload_n 0, 1) := by decide +kernel
theorem d_HoldQueueModel_hold_210 : decode c_HoldQueueModel_hold 210 = .ok (.getfield 74, 3) := by decide +kernel
theorem d_HoldQueueModel_hold_213 : decode c_HoldQueueModel_hold 213 = .ok (.ldc2_w 97, 3) := by decide +kernel
theorem d_HoldQueueModel_hold_216 : decode c_HoldQueueModel_hold 216 = .ok (.lastore, 1) := by decide +kernel
theorem d_HoldQueueModel_hold_217 : decode c_HoldQueueModel_hold 217 = .ok (.aload_n 0, 1) := by decide +kernel
theorem d_HoldQueueModel_hold_218 : decode c_HoldQueueModel_hold 218 = .ok (.getfield 74, 3) := by decide +kernel
theorem d_HoldQueueModel_hold_221 : decode c_HoldQueueModel_hold 221 = .ok (.istore 6, 2) := by decide +kernel
theorem d_HoldQueueModel_hold_223 : decode c_HoldQueueModel_hold 223 = .ok (.iconst 0, 1) := by decide +kernel
theorem d_HoldQueueModel_hold_224 : decode c_HoldQueueModel_hold 224 = .ok (.istore 7, 2) := by decide +kernel
theorem d_HoldQueueModel_hold_226 : decode c_HoldQueueModel_hold 226 = .ok (.aload_n 0, 1) := by decide +kernel
theorem d_HoldQueueModel_hold_227 : decode c_HoldQueueModel_hold 227 = .ok (.getfield 71, 3) := by decide +kernel
theorem d_HoldQueueModel_hold_230 : decode c_HoldQueueModel_hold 230 = .ok (.istore 8, 2) := by decide +kernel
theorem d_HoldQueueModel_hold_232 : decode c_HoldQueueModel_hold 232 = .ok (.iload 8, 2) := by decide +kernel
theorem d_HoldQueueModel_hold_234 : decode c_HoldQueueModel_hold 234 = .ok (.ifCond .le 39, 3) := by decide +kernel
theorem d_HoldQueueModel_hold_237 : decode c_HoldQueueModel_hold 237 = .ok (.aload_n 0, 1) := by decide +kernel
theorem d_HoldQueueModel_hold_238 : decode c_HoldQueueModel_hold 238 = .ok (.getfield 24, 3) := by decide +kernel
theorem d_HoldQueueModel_hold_241 : decode c_HoldQueueModel_hold 241 = .ok (.iload 8, 2) := by decide +kernel
theorem d_HoldQueueModel_hold_243 : decode c_HoldQueueModel_hold 243 = .ok (.iaload, 1) := by decide +kernel
theorem d_HoldQueueModel_hold_244 : decode c_HoldQueueModel_hold 244 = .ok (.iload_n 2, 1) := by decide +kernel
theorem d_HoldQueueModel_hold_245 : decode c_HoldQueueModel_hold 245 = .ok (.if_icmp .ne 18, 3) := by decide +kernel
theorem d_HoldQueueModel_hold_248 : decode c_HoldQueueModel_hold 248 = .ok (.aload_n 0, 1) := by decide +kernel
theorem d_HoldQueueModel_hold_249 : decode c_HoldQueueModel_hold 249 = .ok (.getfield 27, 3) := by decide +kernel
theorem d_HoldQueueModel_hold_252 : decode c_HoldQueueModel_hold 252 = .ok (.iload 8, 2) := by decide +kernel
theorem d_HoldQueueModel_hold_254 : decode c_HoldQueueModel_hold 254 = .ok (.iaload, 1) := by decide +kernel
theorem d_HoldQueueModel_hold_255 : decode c_HoldQueueModel_hold 255 = .ok (.ifCond .ne 8, 3) := by decide +kernel
theorem d_HoldQueueModel_hold_258 : decode c_HoldQueueModel_hold 258 = .ok (.iload 8, 2) := by decide +kernel
theorem d_HoldQueueModel_hold_260 : decode c_HoldQueueModel_hold 260 = .ok (.goto 5, 3) := by decide +kernel
theorem d_HoldQueueModel_hold_263 : decode c_HoldQueueModel_hold 263 = .ok (.iload 7, 2) := by decide +kernel
theorem d_HoldQueueModel_hold_265 : decode c_HoldQueueModel_hold 265 = .ok (.istore 7, 2) := by decide +kernel
theorem d_HoldQueueModel_hold_267 : decode c_HoldQueueModel_hold 267 = .ok (.iinc 8 (-1), 3) := by decide +kernel
theorem d_HoldQueueModel_hold_270 : decode c_HoldQueueModel_hold 270 = .ok (.goto (-38), 3) := by decide +kernel
theorem d_HoldQueueModel_hold_273 : decode c_HoldQueueModel_hold 273 = .ok (.iload 7, 2) := by decide +kernel
theorem d_HoldQueueModel_hold_275 : decode c_HoldQueueModel_hold 275 = .ok (.ifCond .le 10, 3) := by decide +kernel
theorem d_HoldQueueModel_hold_278 : decode c_HoldQueueModel_hold 278 = .ok (.aload_n 0, 1) := by decide +kernel
theorem d_HoldQueueModel_hold_279 : decode c_HoldQueueModel_hold 279 = .ok (.iload 7, 2) := by decide +kernel
theorem d_HoldQueueModel_hold_281 : decode c_HoldQueueModel_hold 281 = .ok (.invokevirtual 99, 3) := by decide +kernel
theorem d_HoldQueueModel_hold_284 : decode c_HoldQueueModel_hold 284 = .ok (.pop, 1) := by decide +kernel
theorem d_HoldQueueModel_hold_285 : decode c_HoldQueueModel_hold 285 = .ok (.iload 6, 2) := by decide +kernel
theorem d_HoldQueueModel_hold_287 : decode c_HoldQueueModel_hold 287 = .ok (.ireturn, 1) := by decide +kernel
theorem d_HoldQueueModel_most_0 : decode c_HoldQueueModel_most 0 = .ok (.aload_n 0, 1) := by decide +kernel
theorem d_HoldQueueModel_most_1 : decode c_HoldQueueModel_most 1 = .ok (.iconst 0, 1) := by decide +kernel
theorem d_HoldQueueModel_most_2 : decode c_HoldQueueModel_most 2 = .ok (.putfield 61, 3) := by decide +kernel
theorem d_HoldQueueModel_most_5 : decode c_HoldQueueModel_most 5 = .ok (.iload_n 1, 1) := by decide +kernel
theorem d_HoldQueueModel_most_6 : decode c_HoldQueueModel_most 6 = .ok (.iconst 0, 1) := by decide +kernel
theorem d_HoldQueueModel_most_7 : decode c_HoldQueueModel_most 7 = .ok (.bipush 39, 2) := by decide +kernel
theorem d_HoldQueueModel_most_9 : decode c_HoldQueueModel_most 9 = .ok (.invokestatic 64, 3) := by decide +kernel
theorem d_HoldQueueModel_most_12 : decode c_HoldQueueModel_most 12 = .ok (.ifCond .eq 13, 3) := by decide +kernel
theorem d_HoldQueueModel_most_15 : decode c_HoldQueueModel_most 15 = .ok (.iload_n 2, 1) := by decide +kernel
theorem d_HoldQueueModel_most_16 : decode c_HoldQueueModel_most 16 = .ok (.iconst 0, 1) := by decide +kernel
theorem d_HoldQueueModel_most_17 : decode c_HoldQueueModel_most 17 = .ok (.bipush 20, 2) := by decide +kernel
theorem d_HoldQueueModel_most_19 : decode c_HoldQueueModel_most 19 = .ok (.invokestatic 64, 3) := by decide +kernel
theorem d_HoldQueueModel_most_22 : decode c_HoldQueueModel_most 22 = .ok (.ifCond .ne 5, 3) := by decide +kernel
theorem d_HoldQueueModel_most_25 : decode c_HoldQueueModel_most 25 = .ok (.iconst (-1), 1) := by decide +kernel
theorem d_HoldQueueModel_most_26 : decode c_HoldQueueModel_most 26 = .ok (.ireturn, 1) := by decide +kernel
theorem d_HoldQueueModel_most_27 : decode c_HoldQueueModel_most 27 = .ok (.aload_n 0, 1) := by decide +kernel
theorem d_HoldQueueModel_most_28 : decode c_HoldQueueModel_most 28 = .ok (.getfield 17, 3) := by decide +kernel
theorem d_HoldQueueModel_most_31 : decode c_HoldQueueModel_most 31 = .ok (.iload_n 1, 1) := by decide +kernel
theorem d_HoldQueueModel_most_32 : decode c_HoldQueueModel_most 32 = .ok (.iaload, 1) := by decide +kernel
theorem d_HoldQueueModel_most_33 : decode c_HoldQueueModel_most 33 = .ok (.istore_n 3, 1) := by decide +kernel
theorem d_HoldQueueModel_most_34 : decode c_HoldQueueModel_most 34 = .ok (.aload_n 0, 1) := by decide +kernel
theorem d_HoldQueueModel_most_35 : decode c_HoldQueueModel_most 35 = .ok (.getfield 17, 3) := by decide +kernel
theorem d_HoldQueueModel_most_38 : decode c_HoldQueueModel_most 38 = .ok (.iload_n 1, 1) := by decide +kernel
theorem d_HoldQueueModel_most_39 : decode c_HoldQueueModel_most 39 = .ok (.iload_n 2, 1) := by decide +kernel
theorem d_HoldQueueModel_most_40 : decode c_HoldQueueModel_most 40 = .ok (.iastore, 1) := by decide +kernel
theorem d_HoldQueueModel_most_41 : decode c_HoldQueueModel_most 41 = .ok (.iload_n 3, 1) := by decide +kernel
theorem d_HoldQueueModel_most_42 : decode c_HoldQueueModel_most 42 = .ok (.ireturn, 1) := by decide +kernel
theorem d_HoldQueueModel_isHold_0 : decode c_HoldQueueModel_isHold 0 = .ok (.iload_n 1, 1) := by decide +kernel
theorem d_HoldQueueModel_isHold_1 : decode c_HoldQueueModel_isHold 1 = .ok (.iconst 1, 1) := by decide +kernel
theorem d_HoldQueueModel_isHold_2 : decode c_HoldQueueModel_isHold 2 = .ok (.aload_n 0, 1) := by decide +kernel
theorem d_HoldQueueModel_isHold_3 : decode c_HoldQueueModel_isHold 3 = .ok (.getfield 74, 3) := by decide +kernel
theorem d_HoldQueueModel_isHold_6 : decode c_HoldQueueModel_isHold 6 = .ok (.invokestatic 64, 3) := by decide +kernel
theorem d_HoldQueueModel_isHold_9 : decode c_HoldQueueModel_isHold 9 = .ok (.ireturn, 1) := by decide +kernel
theorem d_HoldQueueModel_isWaiting_0 : decode c_HoldQueueModel_isWaiting 0 = .ok (.aload_n 0, 1) := by decide +kernel
theorem d_HoldQueueModel_isWaiting_1 : decode c_HoldQueueModel_isWaiting 1 = .ok (.iload_n 1, 1) := by decide +kernel
theorem d_HoldQueueModel_isWaiting_2 : decode c_HoldQueueModel_isWaiting 2 = .ok (.invokevirtual 102, 3) := by decide +kernel
theorem d_HoldQueueModel_isWaiting_5 : decode c_HoldQueueModel_isWaiting 5 = .ok (.ifCond .eq 16, 3) := by decide +kernel
theorem d_HoldQueueModel_isWaiting_8 : decode c_HoldQueueModel_isWaiting 8 = .ok (.aload_n 0, 1) := by decide +kernel
theorem d_HoldQueueModel_isWaiting_9 : decode c_HoldQueueModel_isWaiting 9 = .ok (.getfield 48, 3) := by decide +kernel
theorem d_HoldQueueModel_isWaiting_12 : decode c_HoldQueueModel_isWaiting 12 = .ok (.iload_n 1, 1) := by decide +kernel
theorem d_HoldQueueModel_isWaiting_13 : decode c_HoldQueueModel_isWaiting 13 = .ok (.iaload, 1) := by decide +kernel
theorem d_HoldQueueModel_isWaiting_14 : decode c_HoldQueueModel_isWaiting 14 = .ok (.ifCond .ne 7, 3) := by decide +kernel
theorem d_HoldQueueModel_isWaiting_17 : decode c_HoldQueueModel_isWaiting 17 = .ok (.iconst 1, 1) := by decide +kernel
theorem d_HoldQueueModel_isWaiting_18 : decode c_HoldQueueModel_isWaiting 18 = .ok (.goto 4, 3) := by decide +kernel
theorem d_HoldQueueModel_isWaiting_21 : decode c_HoldQueueModel_isWaiting 21 = .ok (.iconst 0, 1) := by decide +kernel
theorem d_HoldQueueModel_isWaiting_22 : decode c_HoldQueueModel_isWaiting 22 = .ok (.ireturn, 1) := by decide +kernel
theorem d_HoldQueueModel_suspend_0 : decode c_HoldQueueModel_suspend 0 = .ok (.aload_n 0, 1) := by decide +kernel
theorem d_HoldQueueModel_suspend_1 : decode c_HoldQueueModel_suspend 1 = .ok (.iconst 0, 1) := by decide +kernel
theorem d_HoldQueueModel_suspend_2 : decode c_HoldQueueModel_suspend 2 = .ok (.putfield 61, 3) := by decide +kernel
theorem d_HoldQueueModel_suspend_5 : decode c_HoldQueueModel_suspend 5 = .ok (.aload_n 0, 1) := by decide +kernel
theorem d_HoldQueueModel_suspend_6 : decode c_HoldQueueModel_suspend 6 = .ok (.iload_n 1, 1) := by decide +kernel
theorem d_HoldQueueModel_suspend_7 : decode c_HoldQueueModel_suspend 7 = .ok (.invokevirtual 105, 3) := by decide +kernel
theorem d_HoldQueueModel_suspend_10 : decode c_HoldQueueModel_suspend 10 = .ok (.ifCond .ne 5, 3) := by decide +kernel
theorem d_HoldQueueModel_suspend_13 : decode c_HoldQueueModel_suspend 13 = .ok (.iconst 0, 1) := by decide +kernel
theorem d_HoldQueueModel_suspend_14 : decode c_HoldQueueModel_suspend 14 = .ok (.ireturn, 1) := by decide +kernel
theorem d_HoldQueueModel_suspend_15 : decode c_HoldQueueModel_suspend 15 = .ok (.aload_n 0, 1) := by decide +kernel
theorem d_HoldQueueModel_suspend_16 : decode c_HoldQueueModel_suspend 16 = .ok (.getfield 54, 3) := by decide +kernel
theorem d_HoldQueueModel_suspend_19 : decode c_HoldQueueModel_suspend 19 = .ok (.iload_n 1, 1) := by decide +kernel
theorem d_HoldQueueModel_suspend_20 : decode c_HoldQueueModel_suspend 20 = .ok (.lload_n 2, 1) := by decide +kernel
theorem d_HoldQueueModel_suspend_21 : decode c_HoldQueueModel_suspend 21 = .ok (.lastore, 1) := by decide +kernel
theorem d_HoldQueueModel_suspend_22 : decode c_HoldQueueModel_suspend 22 = .ok (.iconst 1, 1) := by decide +kernel
theorem d_HoldQueueModel_suspend_23 : decode c_HoldQueueModel_suspend 23 = .ok (.ireturn, 1) := by decide +kernel
theorem d_HoldQueueModel_isCopy_0 : decode c_HoldQueueModel_isCopy 0 = .ok (.iload_n 1, 1) := by decide +kernel
theorem d_HoldQueueModel_isCopy_1 : decode c_HoldQueueModel_isCopy 1 = .ok (.iconst 1, 1) := by decide +kernel
theorem d_HoldQueueModel_isCopy_2 : decode c_HoldQueueModel_isCopy 2 = .ok (.aload_n 0, 1) := by decide +kernel
theorem d_HoldQueueModel_isCopy_3 : decode c_HoldQueueModel_isCopy 3 = .ok (.getfield 71, 3) := by decide +kernel
theorem d_HoldQueueModel_isCopy_6 : decode c_HoldQueueModel_isCopy 6 = .ok (.invokestatic 64, 3) := by decide +kernel
theorem d_HoldQueueModel_isCopy_9 : decode c_HoldQueueModel_isCopy 9 = .ok (.ifCond .eq 17, 3) := by decide +kernel
theorem d_HoldQueueModel_isCopy_12 : decode c_HoldQueueModel_isCopy 12 = .ok (.aload_n 0, 1) := by decide +kernel
theorem d_HoldQueueModel_isCopy_13 : decode c_HoldQueueModel_isCopy 13 = .ok (.getfield 27, 3) := by decide +kernel
theorem d_HoldQueueModel_isCopy_16 : decode c_HoldQueueModel_isCopy 16 = .ok (.iload_n 1, 1) := by decide +kernel
theorem d_HoldQueueModel_isCopy_17 : decode c_HoldQueueModel_isCopy 17 = .ok (.iaload, 1) := by decide +kernel
theorem d_HoldQueueModel_isCopy_18 : decode c_HoldQueueModel_isCopy 18 = .ok (.iload_n 2, 1) := by decide +kernel
theorem d_HoldQueueModel_isCopy_19 : decode c_HoldQueueModel_isCopy 19 = .ok (.if_icmp .ne 7, 3) := by decide +kernel
theorem d_HoldQueueModel_isCopy_22 : decode c_HoldQueueModel_isCopy 22 = .ok (.iconst 1, 1) := by decide +kernel
theorem d_HoldQueueModel_isCopy_23 : decode c_HoldQueueModel_isCopy 23 = .ok (.goto 4, 3) := by decide +kernel
theorem d_HoldQueueModel_isCopy_26 : decode c_HoldQueueModel_isCopy 26 = .ok (.iconst 0, 1) := by decide +kernel
theorem d_HoldQueueModel_isCopy_27 : decode c_HoldQueueModel_isCopy 27 = .ok (.ireturn, 1) := by decide +kernel
theorem d_HoldQueueModel_back_0 : decode c_HoldQueueModel_back 0 = .ok (.aload_n 0, 1) := by decide +kernel
theorem d_HoldQueueModel_back_1 : decode c_HoldQueueModel_back 1 = .ok (.iconst 0, 1) := by decide +kernel
theorem d_HoldQueueModel_back_2 : decode c_HoldQueueModel_back 2 = .ok (.putfield 61, 3) := by decide +kernel
theorem d_HoldQueueModel_back_5 : decode c_HoldQueueModel_back 5 = .ok (.aload_n 0, 1) := by decide +kernel
theorem d_HoldQueueModel_back_6 : decode c_HoldQueueModel_back 6 = .ok (.iload_n 1, 1) := by decide +kernel
theorem d_HoldQueueModel_back_7 : decode c_HoldQueueModel_back 7 = .ok (.iconst 1, 1) := by decide +kernel
