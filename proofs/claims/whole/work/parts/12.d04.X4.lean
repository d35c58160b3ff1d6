theorem dX4_init_0 : decode cX4_init 0 = .ok (.aload_n 0, 1) := by decide +kernel
theorem dX4_init_1 : decode cX4_init 1 = .ok (.invokespecial 3, 3) := by decide +kernel
theorem dX4_init_4 : decode cX4_init 4 = .ok (.aload_n 0, 1) := by decide +kernel
theorem dX4_init_5 : decode cX4_init 5 = .ok (.new 9, 3) := by decide +kernel
theorem dX4_init_8 : decode cX4_init 8 = .ok (.dup, 1) := by decide +kernel
theorem dX4_init_9 : decode cX4_init 9 = .ok (.bipush 7, 2) := by decide +kernel
theorem dX4_init_11 : decode cX4_init 11 = .ok (.invokespecial 11, 3) := by decide +kernel
theorem dX4_init_14 : decode cX4_init 14 = .ok (.putfield 14, 3) := by decide +kernel
theorem dX4_init_17 : decode cX4_init 17 = .ok (.aload_n 0, 1) := by decide +kernel
theorem dX4_init_18 : decode cX4_init 18 = .ok (.new 9, 3) := by decide +kernel
theorem dX4_init_21 : decode cX4_init 21 = .ok (.dup, 1) := by decide +kernel
theorem dX4_init_22 : decode cX4_init 22 = .ok (.bipush 7, 2) := by decide +kernel
theorem dX4_init_24 : decode cX4_init 24 = .ok (.invokespecial 11, 3) := by decide +kernel
theorem dX4_init_27 : decode cX4_init 27 = .ok (.putfield 20, 3) := by decide +kernel
theorem dX4_init_30 : decode cX4_init 30 = .ok (.aload_n 0, 1) := by decide +kernel
theorem dX4_init_31 : decode cX4_init 31 = .ok (.iconst 0, 1) := by decide +kernel
theorem dX4_init_32 : decode cX4_init 32 = .ok (.putfield 23, 3) := by decide +kernel
theorem dX4_init_35 : decode cX4_init 35 = .ok (.aload_n 0, 1) := by decide +kernel
theorem dX4_init_36 : decode cX4_init 36 = .ok (.iconst 0, 1) := by decide +kernel
theorem dX4_init_37 : decode cX4_init 37 = .ok (.putfield 27, 3) := by decide +kernel
theorem dX4_init_40 : decode cX4_init 40 = .ok (.aload_n 0, 1) := by decide +kernel
theorem dX4_init_41 : decode cX4_init 41 = .ok (.iconst (-1), 1) := by decide +kernel
theorem dX4_init_42 : decode cX4_init 42 = .ok (.putfield 30, 3) := by decide +kernel
theorem dX4_init_45 : decode cX4_init 45 = .ok (.aload_n 0, 1) := by decide +kernel
theorem dX4_init_46 : decode cX4_init 46 = .ok (.iconst 0, 1) := by decide +kernel
theorem dX4_init_47 : decode cX4_init 47 = .ok (.putfield 33, 3) := by decide +kernel
theorem dX4_init_50 : decode cX4_init 50 = .ok (.aload_n 0, 1) := by decide +kernel
theorem dX4_init_51 : decode cX4_init 51 = .ok (.iconst 0, 1) := by decide +kernel
theorem dX4_init_52 : decode cX4_init 52 = .ok (.putfield 36, 3) := by decide +kernel
theorem dX4_init_55 : decode cX4_init 55 = .ok (.aload_n 0, 1) := by decide +kernel
theorem dX4_init_56 : decode cX4_init 56 = .ok (.iconst 0, 1) := by decide +kernel
theorem dX4_init_57 : decode cX4_init 57 = .ok (.putfield 39, 3) := by decide +kernel
theorem dX4_init_60 : decode cX4_init 60 = .ok (.return_, 1) := by decide +kernel
theorem dX4_settle_0 : decode cX4_settle 0 = .ok (.aload_n 0, 1) := by decide +kernel
theorem dX4_settle_1 : decode cX4_settle 1 = .ok (.getfield 14, 3) := by decide +kernel
theorem dX4_settle_4 : decode cX4_settle 4 = .ok (.invokevirtual 43, 3) := by decide +kernel
theorem dX4_settle_7 : decode cX4_settle 7 = .ok (.iconst 0, 1) := by decide +kernel
theorem dX4_settle_8 : decode cX4_settle 8 = .ok (.istore_n 2, 1) := by decide +kernel
theorem dX4_settle_9 : decode cX4_settle 9 = .ok (.iload_n 2, 1) := by decide +kernel
theorem dX4_settle_10 : decode cX4_settle 10 = .ok (.aload_n 1, 1) := by decide +kernel
theorem dX4_settle_11 : decode cX4_settle 11 = .ok (.getfield 46, 3) := by decide +kernel
theorem dX4_settle_14 : decode cX4_settle 14 = .ok (.if_icmp .ge 25, 3) := by decide +kernel
theorem dX4_settle_17 : decode cX4_settle 17 = .ok (.aload_n 0, 1) := by decide +kernel
theorem dX4_settle_18 : decode cX4_settle 18 = .ok (.getfield 20, 3) := by decide +kernel
theorem dX4_settle_21 : decode cX4_settle 21 = .ok (.iload_n 2, 1) := by decide +kernel
theorem dX4_settle_22 : decode cX4_settle 22 = .ok (.aload_n 1, 1) := by decide +kernel
theorem dX4_settle_23 : decode cX4_settle 23 = .ok (.iload_n 2, 1) := by decide +kernel
theorem dX4_settle_24 : decode cX4_settle 24 = .ok (.invokevirtual 51, 3) := by decide +kernel
theorem dX4_settle_27 : decode cX4_settle 27 = .ok (.getfield 55, 3) := by decide +kernel
theorem dX4_settle_30 : decode cX4_settle 30 = .ok (.invokevirtual 60, 3) := by decide +kernel
theorem dX4_settle_33 : decode cX4_settle 33 = .ok (.iinc 2 1, 3) := by decide +kernel
theorem dX4_settle_36 : decode cX4_settle 36 = .ok (.goto (-27), 3) := by decide +kernel
theorem dX4_settle_39 : decode cX4_settle 39 = .ok (.aload_n 0, 1) := by decide +kernel
theorem dX4_settle_40 : decode cX4_settle 40 = .ok (.aload_n 1, 1) := by decide +kernel
theorem dX4_settle_41 : decode cX4_settle 41 = .ok (.getfield 46, 3) := by decide +kernel
theorem dX4_settle_44 : decode cX4_settle 44 = .ok (.putfield 23, 3) := by decide +kernel
theorem dX4_settle_47 : decode cX4_settle 47 = .ok (.aload_n 0, 1) := by decide +kernel
theorem dX4_settle_48 : decode cX4_settle 48 = .ok (.iconst 0, 1) := by decide +kernel
theorem dX4_settle_49 : decode cX4_settle 49 = .ok (.putfield 27, 3) := by decide +kernel
theorem dX4_settle_52 : decode cX4_settle 52 = .ok (.aload_n 0, 1) := by decide +kernel
theorem dX4_settle_53 : decode cX4_settle 53 = .ok (.iconst (-1), 1) := by decide +kernel
theorem dX4_settle_54 : decode cX4_settle 54 = .ok (.iconst 0, 1) := by decide +kernel
theorem dX4_settle_55 : decode cX4_settle 55 = .ok (.invokevirtual 64, 3) := by decide +kernel
theorem dX4_settle_58 : decode cX4_settle 58 = .ok (.aload_n 0, 1) := by decide +kernel
theorem dX4_settle_59 : decode cX4_settle 59 = .ok (.aload_n 1, 1) := by decide +kernel
theorem dX4_settle_60 : decode cX4_settle 60 = .ok (.getfield 67, 3) := by decide +kernel
theorem dX4_settle_63 : decode cX4_settle 63 = .ok (.putfield 36, 3) := by decide +kernel
theorem dX4_settle_66 : decode cX4_settle 66 = .ok (.aload_n 0, 1) := by decide +kernel
theorem dX4_settle_67 : decode cX4_settle 67 = .ok (.aload_n 1, 1) := by decide +kernel
theorem dX4_settle_68 : decode cX4_settle 68 = .ok (.iconst (-1), 1) := by decide +kernel
theorem dX4_settle_69 : decode cX4_settle 69 = .ok (.invokevirtual 68, 3) := by decide +kernel
theorem dX4_settle_72 : decode cX4_settle 72 = .ok (.putfield 39, 3) := by decide +kernel
theorem dX4_settle_75 : decode cX4_settle 75 = .ok (.return_, 1) := by decide +kernel
theorem dX4_copy_0 : decode cX4_copy 0 = .ok (.aload_n 0, 1) := by decide +kernel
theorem dX4_copy_1 : decode cX4_copy 1 = .ok (.getfield 14, 3) := by decide +kernel
theorem dX4_copy_4 : decode cX4_copy 4 = .ok (.aload_n 1, 1) := by decide +kernel
theorem dX4_copy_5 : decode cX4_copy 5 = .ok (.getfield 14, 3) := by decide +kernel
theorem dX4_copy_8 : decode cX4_copy 8 = .ok (.invokevirtual 72, 3) := by decide +kernel
theorem dX4_copy_11 : decode cX4_copy 11 = .ok (.aload_n 0, 1) := by decide +kernel
theorem dX4_copy_12 : decode cX4_copy 12 = .ok (.getfield 20, 3) := by decide +kernel
theorem dX4_copy_15 : decode cX4_copy 15 = .ok (.aload_n 1, 1) := by decide +kernel
theorem dX4_copy_16 : decode cX4_copy 16 = .ok (.getfield 20, 3) := by decide +kernel
theorem dX4_copy_19 : decode cX4_copy 19 = .ok (.invokevirtual 72, 3) := by decide +kernel
theorem dX4_copy_22 : decode cX4_copy 22 = .ok (.aload_n 0, 1) := by decide +kernel
theorem dX4_copy_23 : decode cX4_copy 23 = .ok (.aload_n 1, 1) := by decide +kernel
theorem dX4_copy_24 : decode cX4_copy 24 = .ok (.getfield 23, 3) := by decide +kernel
theorem dX4_copy_27 : decode cX4_copy 27 = .ok (.putfield 23, 3) := by decide +kernel
theorem dX4_copy_30 : decode cX4_copy 30 = .ok (.aload_n 0, 1) := by decide +kernel
theorem dX4_copy_31 : decode cX4_copy 31 = .ok (.aload_n 1, 1) := by decide +kernel
theorem dX4_copy_32 : decode cX4_copy 32 = .ok (.getfield 27, 3) := by decide +kernel
theorem dX4_copy_35 : decode cX4_copy 35 = .ok (.putfield 27, 3) := by decide +kernel
theorem dX4_copy_38 : decode cX4_copy 38 = .ok (.aload_n 0, 1) := by decide +kernel
theorem dX4_copy_39 : decode cX4_copy 39 = .ok (.aload_n 1, 1) := by decide +kernel
theorem dX4_copy_40 : decode cX4_copy 40 = .ok (.getfield 30, 3) := by decide +kernel
theorem dX4_copy_43 : decode cX4_copy 43 = .ok (.putfield 30, 3) := by decide +kernel
theorem dX4_copy_46 : decode cX4_copy 46 = .ok (.aload_n 0, 1) := by decide +kernel
theorem dX4_copy_47 : decode cX4_copy 47 = .ok (.aload_n 1, 1) := by decide +kernel
theorem dX4_copy_48 : decode cX4_copy 48 = .ok (.getfield 33, 3) := by decide +kernel
theorem dX4_copy_51 : decode cX4_copy 51 = .ok (.putfield 33, 3) := by decide +kernel
theorem dX4_copy_54 : decode cX4_copy 54 = .ok (.aload_n 0, 1) := by decide +kernel
theorem dX4_copy_55 : decode cX4_copy 55 = .ok (.aload_n 1, 1) := by decide +kernel
theorem dX4_copy_56 : decode cX4_copy 56 = .ok (.getfield 36, 3) := by decide +kernel
theorem dX4_copy_59 : decode cX4_copy 59 = .ok (.putfield 36, 3) := by decide +kernel
theorem dX4_copy_62 : decode cX4_copy 62 = .ok (.aload_n 0, 1) := by decide +kernel
theorem dX4_copy_63 : decode cX4_copy 63 = .ok (.aload_n 1, 1) := by decide +kernel
theorem dX4_copy_64 : decode cX4_copy 64 = .ok (.getfield 39, 3) := by decide +kernel
theorem dX4_copy_67 : decode cX4_copy 67 = .ok (.putfield 39, 3) := by decide +kernel
theorem dX4_copy_70 : decode cX4_copy 70 = .ok (.return_, 1) := by decide +kernel
theorem dX4_letSay_0 : decode cX4_letSay 0 = .ok (.aload_n 0, 1) := by decide +kernel
theorem dX4_letSay_1 : decode cX4_letSay 1 = .ok (.iload_n 2, 1) := by decide +kernel
theorem dX4_letSay_2 : decode cX4_letSay 2 = .ok (.ifCond .ne 7, 3) := by decide +kernel
theorem dX4_letSay_5 : decode cX4_letSay 5 = .ok (.iconst (-1), 1) := by decide +kernel
theorem dX4_letSay_6 : decode cX4_letSay 6 = .ok (.goto 4, 3) := by decide +kernel
theorem dX4_letSay_9 : decode cX4_letSay 9 = .ok (.iload_n 1, 1) := by decide +kernel
theorem dX4_letSay_10 : decode cX4_letSay 10 = .ok (.putfield 30, 3) := by decide +kernel
theorem dX4_letSay_13 : decode cX4_letSay 13 = .ok (.aload_n 0, 1) := by decide +kernel
theorem dX4_letSay_14 : decode cX4_letSay 14 = .ok (.iload_n 2, 1) := by decide +kernel
theorem dX4_letSay_15 : decode cX4_letSay 15 = .ok (.putfield 33, 3) := by decide +kernel
theorem dX4_letSay_18 : decode cX4_letSay 18 = .ok (.return_, 1) := by decide +kernel
theorem dX4_placeOf_0 : decode cX4_placeOf 0 = .ok (.iconst 0, 1) := by decide +kernel
theorem dX4_placeOf_1 : decode cX4_placeOf 1 = .ok (.istore_n 2, 1) := by decide +kernel
theorem dX4_placeOf_2 : decode cX4_placeOf 2 = .ok (.iload_n 2, 1) := by decide +kernel
theorem dX4_placeOf_3 : decode cX4_placeOf 3 = .ok (.aload_n 0, 1) := by decide +kernel
theorem dX4_placeOf_4 : decode cX4_placeOf 4 = .ok (.getfield 23, 3) := by decide +kernel
theorem dX4_placeOf_7 : decode cX4_placeOf 7 = .ok (.if_icmp .ge 23, 3) := by decide +kernel
theorem dX4_placeOf_10 : decode cX4_placeOf 10 = .ok (.aload_n 0, 1) := by decide +kernel
theorem dX4_placeOf_11 : decode cX4_placeOf 11 = .ok (.getfield 14, 3) := by decide +kernel
theorem dX4_placeOf_14 : decode cX4_placeOf 14 = .ok (.iload_n 2, 1) := by decide +kernel
theorem dX4_placeOf_15 : decode cX4_placeOf 15 = .ok (.invokevirtual 76, 3) := by decide +kernel
theorem dX4_placeOf_18 : decode cX4_placeOf 18 = .ok (.iload_n 1, 1) := by decide +kernel
theorem dX4_placeOf_19 : decode cX4_placeOf 19 = .ok (.if_icmp .ne 5, 3) := by decide +kernel
theorem dX4_placeOf_22 : decode cX4_placeOf 22 = .ok (.iload_n 2, 1) := by decide +kernel
theorem dX4_placeOf_23 : decode cX4_placeOf 23 = .ok (.ireturn, 1) := by decide +kernel
theorem dX4_placeOf_24 : decode cX4_placeOf 24 = .ok (.iinc 2 1, 3) := by decide +kernel
theorem dX4_placeOf_27 : decode cX4_placeOf 27 = .ok (.goto (-25), 3) := by decide +kernel
theorem dX4_placeOf_30 : decode cX4_placeOf 30 = .ok (.iconst (-1), 1) := by decide +kernel
theorem dX4_placeOf_31 : decode cX4_placeOf 31 = .ok (.ireturn, 1) := by decide +kernel
theorem dX4_isBolsterAhead_0 : decode cX4_isBolsterAhead 0 = .ok (.aload_n 0, 1) := by decide +kernel
theorem dX4_isBolsterAhead_1 : decode cX4_isBolsterAhead 1 = .ok (.getfield 36, 3) := by decide +kernel
theorem dX4_isBolsterAhead_4 : decode cX4_isBolsterAhead 4 = .ok (.iload_n 1, 1) := by decide +kernel
theorem dX4_isBolsterAhead_5 : decode cX4_isBolsterAhead 5 = .ok (.ishr, 1) := by decide +kernel
theorem dX4_isBolsterAhead_6 : decode cX4_isBolsterAhead 6 = .ok (.iconst 1, 1) := by decide +kernel
theorem dX4_isBolsterAhead_7 : decode cX4_isBolsterAhead 7 = .ok (.iand, 1) := by decide +kernel
theorem dX4_isBolsterAhead_8 : decode cX4_isBolsterAhead 8 = .ok (.iconst 1, 1) := by decide +kernel
theorem dX4_isBolsterAhead_9 : decode cX4_isBolsterAhead 9 = .ok (.if_icmp .ne 7, 3) := by decide +kernel
theorem dX4_isBolsterAhead_12 : decode cX4_isBolsterAhead 12 = .ok (.iconst 1, 1) := by decide +kernel
theorem dX4_isBolsterAhead_13 : decode cX4_isBolsterAhead 13 = .ok (.goto 4, 3) := by decide +kernel
theorem dX4_isBolsterAhead_16 : decode cX4_isBolsterAhead 16 = .ok (.iconst 0, 1) := by decide +kernel
theorem dX4_isBolsterAhead_17 : decode cX4_isBolsterAhead 17 = .ok (.ireturn, 1) := by decide +kernel
theorem dX4_changeBolster_0 : decode cX4_changeBolster 0 = .ok (.aload_n 0, 1) := by decide +kernel
theorem dX4_changeBolster_1 : decode cX4_changeBolster 1 = .ok (.dup, 1) := by decide +kernel
theorem dX4_changeBolster_2 : decode cX4_changeBolster 2 = .ok (.getfield 36, 3) := by decide +kernel
theorem dX4_changeBolster_5 : decode cX4_changeBolster 5 = .ok (.iconst 1, 1) := by decide +kernel
theorem dX4_changeBolster_6 : decode cX4_changeBolster 6 = .ok (.iload_n 1, 1) := by decide +kernel
theorem dX4_changeBolster_7 : decode cX4_changeBolster 7 = .ok (.ishl, 1) := by decide +kernel
theorem dX4_changeBolster_8 : decode cX4_changeBolster 8 = .ok (.ixor, 1) := by decide +kernel
theorem dX4_changeBolster_9 : decode cX4_changeBolster 9 = .ok (.putfield 36, 3) := by decide +kernel
theorem dX4_changeBolster_12 : decode cX4_changeBolster 12 = .ok (.return_, 1) := by decide +kernel
theorem dX4_nextOrder_0 : decode cX4_nextOrder 0 = .ok (.aload_n 0, 1) := by decide +kernel
theorem dX4_nextOrder_1 : decode cX4_nextOrder 1 = .ok (.getfield 23, 3) := by decide +kernel
theorem dX4_nextOrder_4 : decode cX4_nextOrder 4 = .ok (.iconst 2, 1) := by decide +kernel
theorem dX4_nextOrder_5 : decode cX4_nextOrder 5 = .ok (.isub, 1) := by decide +kernel
theorem dX4_nextOrder_6 : decode cX4_nextOrder 6 = .ok (.istore_n 1, 1) := by decide +kernel
theorem dX4_nextOrder_7 : decode cX4_nextOrder 7 = .ok (.iload_n 1, 1) := by decide +kernel
theorem dX4_nextOrder_8 : decode cX4_nextOrder 8 = .ok (.ifCond .lt 30, 3) := by decide +kernel
theorem dX4_nextOrder_11 : decode cX4_nextOrder 11 = .ok (.aload_n 0, 1) := by decide +kernel
theorem dX4_nextOrder_12 : decode cX4_nextOrder 12 = .ok (.getfield 14, 3) := by decide +kernel
theorem dX4_nextOrder_15 : decode cX4_nextOrder 15 = .ok (.iload_n 1, 1) := by decide +kernel
theorem dX4_nextOrder_16 : decode cX4_nextOrder 16 = .ok (.invokevirtual 76, 3) := by decide +kernel
theorem dX4_nextOrder_19 : decode cX4_nextOrder 19 = .ok (.aload_n 0, 1) := by decide +kernel
theorem dX4_nextOrder_20 : decode cX4_nextOrder 20 = .ok (.getfield 14, 3) := by decide +kernel
theorem dX4_nextOrder_23 : decode cX4_nextOrder 23 = .ok (.iload_n 1, 1) := by decide +kernel
theorem dX4_nextOrder_24 : decode cX4_nextOrder 24 = .ok (.iconst 1, 1) := by decide +kernel
theorem dX4_nextOrder_25 : decode cX4_nextOrder 25 = .ok (.iadd, 1) := by decide +kernel
theorem dX4_nextOrder_26 : decode cX4_nextOrder 26 = .ok (.invokevirtual 76, 3) := by decide +kernel
theorem dX4_nextOrder_29 : decode cX4_nextOrder 29 = .ok (.if_icmp .le 9, 3) := by decide +kernel
theorem dX4_nextOrder_32 : decode cX4_nextOrder 32 = .ok (.iinc 1 (-1), 3) := by decide +kernel
theorem dX4_nextOrder_35 : decode cX4_nextOrder 35 = .ok (.goto (-28), 3) := by decide +kernel
theorem dX4_nextOrder_38 : decode cX4_nextOrder 38 = .ok (.iload_n 1, 1) := by decide +kernel
theorem dX4_nextOrder_39 : decode cX4_nextOrder 39 = .ok (.ifCond .ge 5, 3) := by decide +kernel
theorem dX4_nextOrder_42 : decode cX4_nextOrder 42 = .ok (.iconst 0, 1) := by decide +kernel
theorem dX4_nextOrder_43 : decode cX4_nextOrder 43 = .ok (.ireturn, 1) := by decide +kernel
theorem dX4_nextOrder_44 : decode cX4_nextOrder 44 = .ok (.aload_n 0, 1) := by decide +kernel
theorem dX4_nextOrder_45 : decode cX4_nextOrder 45 = .ok (.getfield 23, 3) := by decide +kernel
theorem dX4_nextOrder_48 : decode cX4_nextOrder 48 = .ok (.iconst 1, 1) := by decide +kernel
theorem dX4_nextOrder_49 : decode cX4_nextOrder 49 = .ok (.isub, 1) := by decide +kernel
theorem dX4_nextOrder_50 : decode cX4_nextOrder 50 = .ok (.istore_n 2, 1) := by decide +kernel
theorem dX4_nextOrder_51 : decode cX4_nextOrder 51 = .ok (.iload_n 2, 1) := by decide +kernel
theorem dX4_nextOrder_52 : decode cX4_nextOrder 52 = .ok (.iload_n 1, 1) := by decide +kernel
theorem dX4_nextOrder_53 : decode cX4_nextOrder 53 = .ok (.if_icmp .le 28, 3) := by decide +kernel
theorem dX4_nextOrder_56 : decode cX4_nextOrder 56 = .ok (.aload_n 0, 1) := by decide +kernel
theorem dX4_nextOrder_57 : decode cX4_nextOrder 57 = .ok (.getfield 14, 3) := by decide +kernel
theorem dX4_nextOrder_60 : decode cX4_nextOrder 60 = .ok (.iload_n 2, 1) := by decide +kernel
theorem dX4_nextOrder_61 : decode cX4_nextOrder 61 = .ok (.invokevirtual 76, 3) := by decide +kernel
theorem dX4_nextOrder_64 : decode cX4_nextOrder 64 = .ok (.aload_n 0, 1) := by decide +kernel
theorem dX4_nextOrder_65 : decode cX4_nextOrder 65 = .ok (.getfield 14, 3) := by decide +kernel
theorem dX4_nextOrder_68 : decode cX4_nextOrder 68 = .ok (.iload_n 1, 1) := by decide +kernel
theorem dX4_nextOrder_69 : decode cX4_nextOrder 69 = .ok (.invokevirtual 76, 3) := by decide +kernel
theorem dX4_nextOrder_72 : decode cX4_nextOrder 72 = .ok (.if_icmp .ge 9, 3) := by decide +kernel
theorem dX4_nextOrder_75 : decode cX4_nextOrder 75 = .ok (.iinc 2 (-1), 3) := by decide +kernel
theorem dX4_nextOrder_78 : decode cX4_nextOrder 78 = .ok (.goto (-27), 3) := by decide +kernel
theorem dX4_nextOrder_81 : decode cX4_nextOrder 81 = .ok (.aload_n 0, 1) := by decide +kernel
theorem dX4_nextOrder_82 : decode cX4_nextOrder 82 = .ok (.getfield 14, 3) := by decide +kernel
theorem dX4_nextOrder_85 : decode cX4_nextOrder 85 = .ok (.iload_n 1, 1) := by decide +kernel
theorem dX4_nextOrder_86 : decode cX4_nextOrder 86 = .ok (.iload_n 2, 1) := by decide +kernel
theorem dX4_nextOrder_87 : decode cX4_nextOrder 87 = .ok (.invokevirtual 80, 3) := by decide +kernel
theorem dX4_nextOrder_90 : decode cX4_nextOrder 90 = .ok (.iload_n 1, 1) := by decide +kernel
theorem dX4_nextOrder_91 : decode cX4_nextOrder 91 = .ok (.iconst 1, 1) := by decide +kernel
theorem dX4_nextOrder_92 : decode cX4_nextOrder 92 = .ok (.iadd, 1) := by decide +kernel
theorem dX4_nextOrder_93 : decode cX4_nextOrder 93 = .ok (.istore_n 3, 1) := by decide +kernel
theorem dX4_nextOrder_94 : decode cX4_nextOrder 94 = .ok (.aload_n 0, 1) := by decide +kernel
theorem dX4_nextOrder_95 : decode cX4_nextOrder 95 = .ok (.getfield 23, 3) := by decide +kernel
theorem dX4_nextOrder_98 : decode cX4_nextOrder 98 = .ok (.iconst 1, 1) := by decide +kernel
theorem dX4_nextOrder_99 : decode cX4_nextOrder 99 = .ok (.isub, 1) := by decide +kernel
theorem dX4_nextOrder_100 : decode cX4_nextOrder 100 = .ok (.istore 4, 2) := by decide +kernel
theorem dX4_nextOrder_102 : decode cX4_nextOrder 102 = .ok (.iload_n 3, 1) := by decide +kernel
theorem dX4_nextOrder_103 : decode cX4_nextOrder 103 = .ok (.iload 4, 2) := by decide +kernel
theorem dX4_nextOrder_105 : decode cX4_nextOrder 105 = .ok (.if_icmp .ge 22, 3) := by decide +kernel
theorem dX4_nextOrder_108 : decode cX4_nextOrder 108 = .ok (.aload_n 0, 1) := by decide +kernel
theorem dX4_nextOrder_109 : decode cX4_nextOrder 109 = .ok (.getfield 14, 3) := by decide +kernel
theorem dX4_nextOrder_112 : decode cX4_nextOrder 112 = .ok (.iload_n 3, 1) := by decide +kernel
theorem dX4_nextOrder_113 : decode cX4_nextOrder 113 = .ok (.iload 4, 2) := by decide +kernel
theorem dX4_nextOrder_115 : decode cX4_nextOrder 115 = .ok (.invokevirtual 80, 3) := by decide +kernel
theorem dX4_nextOrder_118 : decode cX4_nextOrder 118 = .ok (.iinc 3 1, 3) := by decide +kernel
theorem dX4_nextOrder_121 : decode cX4_nextOrder 121 = .ok (.iinc 4 (-1), 3) := by decide +kernel
theorem dX4_nextOrder_124 : decode cX4_nextOrder 124 = .ok (.goto (-22), 3) := by decide +kernel
theorem dX4_nextOrder_127 : decode cX4_nextOrder 127 = .ok (.iconst 1, 1) := by decide +kernel
theorem dX4_nextOrder_128 : decode cX4_nextOrder 128 = .ok (.ireturn, 1) := by decide +kernel
theorem dX4_moveToEdge_0 : decode cX4_moveToEdge 0 = .ok (.aload_n 0, 1) := by decide +kernel
theorem dX4_moveToEdge_1 : decode cX4_moveToEdge 1 = .ok (.getfield 23, 3) := by decide +kernel
theorem dX4_moveToEdge_4 : decode cX4_moveToEdge 4 = .ok (.iconst 1, 1) := by decide +kernel
theorem dX4_moveToEdge_5 : decode cX4_moveToEdge 5 = .ok (.isub, 1) := by decide +kernel
theorem dX4_moveToEdge_6 : decode cX4_moveToEdge 6 = .ok (.istore_n 1, 1) := by decide +kernel
theorem dX4_moveToEdge_7 : decode cX4_moveToEdge 7 = .ok (.iload_n 1, 1) := by decide +kernel
theorem dX4_moveToEdge_8 : decode cX4_moveToEdge 8 = .ok (.ifCond .le 20, 3) := by decide +kernel
theorem dX4_moveToEdge_11 : decode cX4_moveToEdge 11 = .ok (.aload_n 0, 1) := by decide +kernel
theorem dX4_moveToEdge_12 : decode cX4_moveToEdge 12 = .ok (.getfield 14, 3) := by decide +kernel
theorem dX4_moveToEdge_15 : decode cX4_moveToEdge 15 = .ok (.iload_n 1, 1) := by decide +kernel
theorem dX4_moveToEdge_16 : decode cX4_moveToEdge 16 = .ok (.iload_n 1, 1) := by decide +kernel
theorem dX4_moveToEdge_17 : decode cX4_moveToEdge 17 = .ok (.iconst 1, 1) := by decide +kernel
theorem dX4_moveToEdge_18 : decode cX4_moveToEdge 18 = .ok (.isub, 1) := by decide +kernel
theorem dX4_moveToEdge_19 : decode cX4_moveToEdge 19 = .ok (.invokevirtual 80, 3) := by decide +kernel
theorem dX4_moveToEdge_22 : decode cX4_moveToEdge 22 = .ok (.iinc 1 (-1), 3) := by decide +kernel
theorem dX4_moveToEdge_25 : decode cX4_moveToEdge 25 = .ok (.goto (-18), 3) := by decide +kernel
theorem dX4_moveToEdge_28 : decode cX4_moveToEdge 28 = .ok (.return_, 1) := by decide +kernel
theorem dX4_leaveOut_0 : decode cX4_leaveOut 0 = .ok (.aload_n 0, 1) := by decide +kernel
theorem dX4_leaveOut_1 : decode cX4_leaveOut 1 = .ok (.iload_n 1, 1) := by decide +kernel
theorem dX4_leaveOut_2 : decode cX4_leaveOut 2 = .ok (.invokevirtual 83, 3) := by decide +kernel
theorem dX4_leaveOut_5 : decode cX4_leaveOut 5 = .ok (.istore_n 2, 1) := by decide +kernel
theorem dX4_leaveOut_6 : decode cX4_leaveOut 6 = .ok (.iload_n 2, 1) := by decide +kernel
theorem dX4_leaveOut_7 : decode cX4_leaveOut 7 = .ok (.ifCond .lt 30, 3) := by decide +kernel
theorem dX4_leaveOut_10 : decode cX4_leaveOut 10 = .ok (.iload_n 2, 1) := by decide +kernel
theorem dX4_leaveOut_11 : decode cX4_leaveOut 11 = .ok (.aload_n 0, 1) := by decide +kernel
theorem dX4_leaveOut_12 : decode cX4_leaveOut 12 = .ok (.getfield 23, 3) := by decide +kernel
theorem dX4_leaveOut_15 : decode cX4_leaveOut 15 = .ok (.iconst 1, 1) := by decide +kernel
theorem dX4_leaveOut_16 : decode cX4_leaveOut 16 = .ok (.isub, 1) := by decide +kernel
theorem dX4_leaveOut_17 : decode cX4_leaveOut 17 = .ok (.if_icmp .ge 20, 3) := by decide +kernel
theorem dX4_leaveOut_20 : decode cX4_leaveOut 20 = .ok (.aload_n 0, 1) := by decide +kernel
theorem dX4_leaveOut_21 : decode cX4_leaveOut 21 = .ok (.getfield 14, 3) := by decide +kernel
theorem dX4_leaveOut_24 : decode cX4_leaveOut 24 = .ok (.iload_n 2, 1) := by decide +kernel
theorem dX4_leaveOut_25 : decode cX4_leaveOut 25 = .ok (.iload_n 2, 1) := by decide +kernel
theorem dX4_leaveOut_26 : decode cX4_leaveOut 26 = .ok (.iconst 1, 1) := by decide +kernel
theorem dX4_leaveOut_27 : decode cX4_leaveOut 27 = .ok (.iadd, 1) := by decide +kernel
theorem dX4_leaveOut_28 : decode cX4_leaveOut 28 = .ok (.invokevirtual 80, 3) := by decide +kernel
theorem dX4_leaveOut_31 : decode cX4_leaveOut 31 = .ok (.iinc 2 1, 3) := by decide +kernel
theorem dX4_leaveOut_34 : decode cX4_leaveOut 34 = .ok (.goto (-28), 3) := by decide +kernel
theorem dX4_leaveOut_37 : decode cX4_leaveOut 37 = .ok (.aload_n 0, 1) := by decide +kernel
theorem dX4_leaveOut_38 : decode cX4_leaveOut 38 = .ok (.dup, 1) := by decide +kernel
theorem dX4_leaveOut_39 : decode cX4_leaveOut 39 = .ok (.getfield 23, 3) := by decide +kernel
theorem dX4_leaveOut_42 : decode cX4_leaveOut 42 = .ok (.iconst 1, 1) := by decide +kernel
theorem dX4_leaveOut_43 : decode cX4_leaveOut 43 = .ok (.isub, 1) := by decide +kernel
theorem dX4_leaveOut_44 : decode cX4_leaveOut 44 = .ok (.putfield 23, 3) := by decide +kernel
theorem dX4_leaveOut_47 : decode cX4_leaveOut 47 = .ok (.aload_n 0, 1) := by decide +kernel
theorem dX4_leaveOut_48 : decode cX4_leaveOut 48 = .ok (.getfield 30, 3) := by decide +kernel
theorem dX4_leaveOut_51 : decode cX4_leaveOut 51 = .ok (.iload_n 1, 1) := by decide +kernel
theorem dX4_leaveOut_52 : decode cX4_leaveOut 52 = .ok (.if_icmp .ne 9, 3) := by decide +kernel
theorem dX4_leaveOut_55 : decode cX4_leaveOut 55 = .ok (.aload_n 0, 1) := by decide +kernel
theorem dX4_leaveOut_56 : decode cX4_leaveOut 56 = .ok (.iconst (-1), 1) := by decide +kernel
theorem dX4_leaveOut_57 : decode cX4_leaveOut 57 = .ok (.iconst 0, 1) := by decide +kernel
theorem dX4_leaveOut_58 : decode cX4_leaveOut 58 = .ok (.invokevirtual 64, 3) := by decide +kernel
theorem dX4_leaveOut_61 : decode cX4_leaveOut 61 = .ok (.return_, 1) := by decide +kernel
theorem dX4_drawOuts_0 : decode cX4_drawOuts 0 = .ok (.iload_n 2, 1) := by decide +kernel
theorem dX4_drawOuts_1 : decode cX4_drawOuts 1 = .ok (.istore_n 3, 1) := by decide +kernel
theorem dX4_drawOuts_2 : decode cX4_drawOuts 2 = .ok (.iconst 0, 1) := by decide +kernel
theorem dX4_drawOuts_3 : decode cX4_drawOuts 3 = .ok (.istore 4, 2) := by decide +kernel
theorem dX4_drawOuts_5 : decode cX4_drawOuts 5 = .ok (.iload 4, 2) := by decide +kernel
theorem dX4_drawOuts_7 : decode cX4_drawOuts 7 = .ok (.aload_n 1, 1) := by decide +kernel
theorem dX4_drawOuts_8 : decode cX4_drawOuts 8 = .ok (.getfield 46, 3) := by decide +kernel
theorem dX4_drawOuts_11 : decode cX4_drawOuts 11 = .ok (.if_icmp .ge 76, 3) := by decide +kernel
theorem dX4_drawOuts_14 : decode cX4_drawOuts 14 = .ok (.aload_n 1, 1) := by decide +kernel
theorem dX4_drawOuts_15 : decode cX4_drawOuts 15 = .ok (.iload 4, 2) := by decide +kernel
theorem dX4_drawOuts_17 : decode cX4_drawOuts 17 = .ok (.invokevirtual 51, 3) := by decide +kernel
theorem dX4_drawOuts_20 : decode cX4_drawOuts 20 = .ok (.astore 5, 2) := by decide +kernel
theorem dX4_drawOuts_22 : decode cX4_drawOuts 22 = .ok (.aload 5, 2) := by decide +kernel
theorem dX4_drawOuts_24 : decode cX4_drawOuts 24 = .ok (.getfield 86, 3) := by decide +kernel
theorem dX4_drawOuts_27 : decode cX4_drawOuts 27 = .ok (.iconst 3, 1) := by decide +kernel
theorem dX4_drawOuts_28 : decode cX4_drawOuts 28 = .ok (.if_icmp .eq 53, 3) := by decide +kernel
theorem dX4_drawOuts_31 : decode cX4_drawOuts 31 = .ok (.iload_n 3, 1) := by decide +kernel
theorem dX4_drawOuts_32 : decode cX4_drawOuts 32 = .ok (.invokestatic 89, 3) := by decide +kernel
theorem dX4_drawOuts_35 : decode cX4_drawOuts 35 = .ok (.istore_n 3, 1) := by decide +kernel
theorem dX4_drawOuts_36 : decode cX4_drawOuts 36 = .ok (.iconst 0, 1) := by decide +kernel
theorem dX4_drawOuts_37 : decode cX4_drawOuts 37 = .ok (.istore 6, 2) := by decide +kernel
theorem dX4_drawOuts_39 : decode cX4_drawOuts 39 = .ok (.iload_n 3, 1) := by decide +kernel
theorem dX4_drawOuts_40 : decode cX4_drawOuts 40 = .ok (.bipush 10, 2) := by decide +kernel
theorem dX4_drawOuts_42 : decode cX4_drawOuts 42 = .ok (.invokestatic 92, 3) := by decide +kernel
theorem dX4_drawOuts_45 : decode cX4_drawOuts 45 = .ok (.aload 5, 2) := by decide +kernel
theorem dX4_drawOuts_47 : decode cX4_drawOuts 47 = .ok (.getfield 96, 3) := by decide +kernel
theorem dX4_drawOuts_50 : decode cX4_drawOuts 50 = .ok (.if_icmp .ge 20, 3) := by decide +kernel
theorem dX4_drawOuts_53 : decode cX4_drawOuts 53 = .ok (.iload_n 3, 1) := by decide +kernel
theorem dX4_drawOuts_54 : decode cX4_drawOuts 54 = .ok (.invokestatic 89, 3) := by decide +kernel
theorem dX4_drawOuts_57 : decode cX4_drawOuts 57 = .ok (.istore_n 3, 1) := by decide +kernel
theorem dX4_drawOuts_58 : decode cX4_drawOuts 58 = .ok (.iconst 1, 1) := by decide +kernel
theorem dX4_drawOuts_59 : decode cX4_drawOuts 59 = .ok (.iload_n 3, 1) := by decide +kernel
theorem dX4_drawOuts_60 : decode cX4_drawOuts 60 = .ok (.aload_n 1, 1) := by decide +kernel
theorem dX4_drawOuts_61 : decode cX4_drawOuts 61 = .ok (.getfield 99, 3) := by decide +kernel
theorem dX4_drawOuts_64 : decode cX4_drawOuts 64 = .ok (.invokestatic 92, 3) := by decide +kernel
theorem dX4_drawOuts_67 : decode cX4_drawOuts 67 = .ok (.iadd, 1) := by decide +kernel
theorem dX4_drawOuts_68 : decode cX4_drawOuts 68 = .ok (.istore 6, 2) := by decide +kernel
theorem dX4_drawOuts_70 : decode cX4_drawOuts 70 = .ok (.aload_n 0, 1) := by decide +kernel
theorem dX4_drawOuts_71 : decode cX4_drawOuts 71 = .ok (.getfield 20, 3) := by decide +kernel
theorem dX4_drawOuts_74 : decode cX4_drawOuts 74 = .ok (.iload 4, 2) := by decide +kernel
theorem dX4_drawOuts_76 : decode cX4_drawOuts 76 = .ok (.iload 6, 2) := by decide +kernel
theorem dX4_drawOuts_78 : decode cX4_drawOuts 78 = .ok (.invokevirtual 60, 3) := by decide +kernel
theorem dX4_drawOuts_81 : decode cX4_drawOuts 81 = .ok (.iinc 4 1, 3) := by decide +kernel
theorem dX4_drawOuts_84 : decode cX4_drawOuts 84 = .ok (.goto (-79), 3) := by decide +kernel
theorem dX4_drawOuts_87 : decode cX4_drawOuts 87 = .ok (.iload_n 3, 1) := by decide +kernel
theorem dX4_drawOuts_88 : decode cX4_drawOuts 88 = .ok (.ireturn, 1) := by decide +kernel
theorem dX4_nextSeed_0 : decode cX4_nextSeed 0 = .ok (.iload_n 0, 1) := by decide +kernel
theorem dX4_nextSeed_1 : decode cX4_nextSeed 1 = .ok (.ldc 102, 2) := by decide +kernel
theorem dX4_nextSeed_3 : decode cX4_nextSeed 3 = .ok (.imul, 1) := by decide +kernel
theorem dX4_nextSeed_4 : decode cX4_nextSeed 4 = .ok (.sipush 12345, 3) := by decide +kernel
theorem dX4_nextSeed_7 : decode cX4_nextSeed 7 = .ok (.iadd, 1) := by decide +kernel
theorem dX4_nextSeed_8 : decode cX4_nextSeed 8 = .ok (.ireturn, 1) := by decide +kernel
theorem dX4_draw_0 : decode cX4_draw 0 = .ok (.iload_n 1, 1) := by decide +kernel
theorem dX4_draw_1 : decode cX4_draw 1 = .ok (.ifCond .gt 7, 3) := by decide +kernel
theorem dX4_draw_4 : decode cX4_draw 4 = .ok (.iconst 0, 1) := by decide +kernel
theorem dX4_draw_5 : decode cX4_draw 5 = .ok (.goto 13, 3) := by decide +kernel
theorem dX4_draw_8 : decode cX4_draw 8 = .ok (.iload_n 0, 1) := by decide +kernel
theorem dX4_draw_9 : decode cX4_draw 9 = .ok (.bipush 16, 2) := by decide +kernel
theorem dX4_draw_11 : decode cX4_draw 11 = .ok (.iushr, 1) := by decide +kernel
theorem dX4_draw_12 : decode cX4_draw 12 = .ok (.sipush 32767, 3) := by decide +kernel
theorem dX4_draw_15 : decode cX4_draw 15 = .ok (.iand, 1) := by decide +kernel
theorem dX4_draw_16 : decode cX4_draw 16 = .ok (.iload_n 1, 1) := by decide +kernel
theorem dX4_draw_17 : decode cX4_draw 17 = .ok (.irem, 1) := by decide +kernel
theorem dX4_draw_18 : decode cX4_draw 18 = .ok (.ireturn, 1) := by decide +kernel
