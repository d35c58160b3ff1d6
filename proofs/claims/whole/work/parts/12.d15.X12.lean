theorem dX12_lies_41 : decode cX12_lies 41 = .ok (.ifCond .ne 9, 3) := by decide +kernel
theorem dX12_lies_44 : decode cX12_lies 44 = .ok (.aload_n 0, 1) := by decide +kernel
theorem dX12_lies_45 : decode cX12_lies 45 = .ok (.iconst 2, 1) := by decide +kernel
theorem dX12_lies_46 : decode cX12_lies 46 = .ok (.invokevirtual 302, 3) := by decide +kernel
theorem dX12_lies_49 : decode cX12_lies 49 = .ok (.ireturn, 1) := by decide +kernel
theorem dX12_lies_50 : decode cX12_lies 50 = .ok (.aload_n 0, 1) := by decide +kernel
theorem dX12_lies_51 : decode cX12_lies 51 = .ok (.invokevirtual 413, 3) := by decide +kernel
theorem dX12_lies_54 : decode cX12_lies 54 = .ok (.aload_n 0, 1) := by decide +kernel
theorem dX12_lies_55 : decode cX12_lies 55 = .ok (.aload_n 0, 1) := by decide +kernel
theorem dX12_lies_56 : decode cX12_lies 56 = .ok (.getfield 315, 3) := by decide +kernel
theorem dX12_lies_59 : decode cX12_lies 59 = .ok (.iload_n 2, 1) := by decide +kernel
theorem dX12_lies_60 : decode cX12_lies 60 = .ok (.invokevirtual 416, 3) := by decide +kernel
theorem dX12_lies_63 : decode cX12_lies 63 = .ok (.iload_n 3, 1) := by decide +kernel
theorem dX12_lies_64 : decode cX12_lies 64 = .ok (.ifCond .ne 12, 3) := by decide +kernel
theorem dX12_lies_67 : decode cX12_lies 67 = .ok (.aload_n 0, 1) := by decide +kernel
theorem dX12_lies_68 : decode cX12_lies 68 = .ok (.getfield 96, 3) := by decide +kernel
theorem dX12_lies_71 : decode cX12_lies 71 = .ok (.iload_n 1, 1) := by decide +kernel
theorem dX12_lies_72 : decode cX12_lies 72 = .ok (.iaload, 1) := by decide +kernel
theorem dX12_lies_73 : decode cX12_lies 73 = .ok (.goto 16, 3) := by decide +kernel
theorem dX12_lies_76 : decode cX12_lies 76 = .ok (.aload_n 0, 1) := by decide +kernel
theorem dX12_lies_77 : decode cX12_lies 77 = .ok (.iload_n 1, 1) := by decide +kernel
theorem dX12_lies_78 : decode cX12_lies 78 = .ok (.invokevirtual 376, 3) := by decide +kernel
theorem dX12_lies_81 : decode cX12_lies 81 = .ok (.ifCond .eq 7, 3) := by decide +kernel
theorem dX12_lies_84 : decode cX12_lies 84 = .ok (.iconst 1, 1) := by decide +kernel
theorem dX12_lies_85 : decode cX12_lies 85 = .ok (.goto 4, 3) := by decide +kernel
theorem dX12_lies_88 : decode cX12_lies 88 = .ok (.iconst 0, 1) := by decide +kernel
theorem dX12_lies_89 : decode cX12_lies 89 = .ok (.ireturn, 1) := by decide +kernel
theorem dX12_turn_0 : decode cX12_turn 0 = .ok (.aload_n 0, 1) := by decide +kernel
theorem dX12_turn_1 : decode cX12_turn 1 = .ok (.iconst 0, 1) := by decide +kernel
theorem dX12_turn_2 : decode cX12_turn 2 = .ok (.putfield 159, 3) := by decide +kernel
theorem dX12_turn_5 : decode cX12_turn 5 = .ok (.iload_n 2, 1) := by decide +kernel
theorem dX12_turn_6 : decode cX12_turn 6 = .ok (.i2l, 1) := by decide +kernel
theorem dX12_turn_7 : decode cX12_turn 7 = .ok (.lconst 0, 1) := by decide +kernel
theorem dX12_turn_8 : decode cX12_turn 8 = .ok (.ldc2_w 442, 3) := by decide +kernel
theorem dX12_turn_11 : decode cX12_turn 11 = .ok (.invokestatic 162, 3) := by decide +kernel
theorem dX12_turn_14 : decode cX12_turn 14 = .ok (.ifCond .ne 9, 3) := by decide +kernel
theorem dX12_turn_17 : decode cX12_turn 17 = .ok (.aload_n 0, 1) := by decide +kernel
theorem dX12_turn_18 : decode cX12_turn 18 = .ok (.iconst 1, 1) := by decide +kernel
theorem dX12_turn_19 : decode cX12_turn 19 = .ok (.invokevirtual 302, 3) := by decide +kernel
theorem dX12_turn_22 : decode cX12_turn 22 = .ok (.ireturn, 1) := by decide +kernel
theorem dX12_turn_23 : decode cX12_turn 23 = .ok (.aload_n 0, 1) := by decide +kernel
theorem dX12_turn_24 : decode cX12_turn 24 = .ok (.invokevirtual 444, 3) := by decide +kernel
theorem dX12_turn_27 : decode cX12_turn 27 = .ok (.iload_n 1, 1) := by decide +kernel
theorem dX12_turn_28 : decode cX12_turn 28 = .ok (.i2l, 1) := by decide +kernel
theorem dX12_turn_29 : decode cX12_turn 29 = .ok (.lconst 0, 1) := by decide +kernel
theorem dX12_turn_30 : decode cX12_turn 30 = .ok (.aload_n 0, 1) := by decide +kernel
theorem dX12_turn_31 : decode cX12_turn 31 = .ok (.getfield 365, 3) := by decide +kernel
theorem dX12_turn_34 : decode cX12_turn 34 = .ok (.sipush 1200, 3) := by decide +kernel
theorem dX12_turn_37 : decode cX12_turn 37 = .ok (.invokestatic 196, 3) := by decide +kernel
theorem dX12_turn_40 : decode cX12_turn 40 = .ok (.iconst 1, 1) := by decide +kernel
theorem dX12_turn_41 : decode cX12_turn 41 = .ok (.isub, 1) := by decide +kernel
theorem dX12_turn_42 : decode cX12_turn 42 = .ok (.i2l, 1) := by decide +kernel
theorem dX12_turn_43 : decode cX12_turn 43 = .ok (.invokestatic 162, 3) := by decide +kernel
theorem dX12_turn_46 : decode cX12_turn 46 = .ok (.ifCond .ne 9, 3) := by decide +kernel
theorem dX12_turn_49 : decode cX12_turn 49 = .ok (.aload_n 0, 1) := by decide +kernel
theorem dX12_turn_50 : decode cX12_turn 50 = .ok (.iconst 1, 1) := by decide +kernel
theorem dX12_turn_51 : decode cX12_turn 51 = .ok (.invokevirtual 302, 3) := by decide +kernel
theorem dX12_turn_54 : decode cX12_turn 54 = .ok (.ireturn, 1) := by decide +kernel
theorem dX12_turn_55 : decode cX12_turn 55 = .ok (.iload_n 2, 1) := by decide +kernel
theorem dX12_turn_56 : decode cX12_turn 56 = .ok (.ifCond .ne 12, 3) := by decide +kernel
theorem dX12_turn_59 : decode cX12_turn 59 = .ok (.aload_n 0, 1) := by decide +kernel
theorem dX12_turn_60 : decode cX12_turn 60 = .ok (.getfield 111, 3) := by decide +kernel
theorem dX12_turn_63 : decode cX12_turn 63 = .ok (.iload_n 1, 1) := by decide +kernel
theorem dX12_turn_64 : decode cX12_turn 64 = .ok (.iaload, 1) := by decide +kernel
theorem dX12_turn_65 : decode cX12_turn 65 = .ok (.goto 37, 3) := by decide +kernel
theorem dX12_turn_68 : decode cX12_turn 68 = .ok (.iload_n 2, 1) := by decide +kernel
theorem dX12_turn_69 : decode cX12_turn 69 = .ok (.iconst 1, 1) := by decide +kernel
theorem dX12_turn_70 : decode cX12_turn 70 = .ok (.if_icmp .ne 12, 3) := by decide +kernel
theorem dX12_turn_73 : decode cX12_turn 73 = .ok (.aload_n 0, 1) := by decide +kernel
theorem dX12_turn_74 : decode cX12_turn 74 = .ok (.getfield 114, 3) := by decide +kernel
theorem dX12_turn_77 : decode cX12_turn 77 = .ok (.iload_n 1, 1) := by decide +kernel
theorem dX12_turn_78 : decode cX12_turn 78 = .ok (.iaload, 1) := by decide +kernel
theorem dX12_turn_79 : decode cX12_turn 79 = .ok (.goto 23, 3) := by decide +kernel
theorem dX12_turn_82 : decode cX12_turn 82 = .ok (.iload_n 2, 1) := by decide +kernel
theorem dX12_turn_83 : decode cX12_turn 83 = .ok (.iconst 2, 1) := by decide +kernel
theorem dX12_turn_84 : decode cX12_turn 84 = .ok (.if_icmp .ne 12, 3) := by decide +kernel
theorem dX12_turn_87 : decode cX12_turn 87 = .ok (.aload_n 0, 1) := by decide +kernel
theorem dX12_turn_88 : decode cX12_turn 88 = .ok (.getfield 117, 3) := by decide +kernel
theorem dX12_turn_91 : decode cX12_turn 91 = .ok (.iload_n 1, 1) := by decide +kernel
theorem dX12_turn_92 : decode cX12_turn 92 = .ok (.iaload, 1) := by decide +kernel
theorem dX12_turn_93 : decode cX12_turn 93 = .ok (.goto 9, 3) := by decide +kernel
theorem dX12_turn_96 : decode cX12_turn 96 = .ok (.aload_n 0, 1) := by decide +kernel
theorem dX12_turn_97 : decode cX12_turn 97 = .ok (.getfield 120, 3) := by decide +kernel
theorem dX12_turn_100 : decode cX12_turn 100 = .ok (.iload_n 1, 1) := by decide +kernel
theorem dX12_turn_101 : decode cX12_turn 101 = .ok (.iaload, 1) := by decide +kernel
theorem dX12_turn_102 : decode cX12_turn 102 = .ok (.ireturn, 1) := by decide +kernel
theorem dX12_valueOf_0 : decode cX12_valueOf 0 = .ok (.iload_n 1, 1) := by decide +kernel
theorem dX12_valueOf_1 : decode cX12_valueOf 1 = .ok (.iconst 2, 1) := by decide +kernel
theorem dX12_valueOf_2 : decode cX12_valueOf 2 = .ok (.if_icmp .ne 8, 3) := by decide +kernel
theorem dX12_valueOf_5 : decode cX12_valueOf 5 = .ok (.aload_n 0, 1) := by decide +kernel
theorem dX12_valueOf_6 : decode cX12_valueOf 6 = .ok (.invokevirtual 453, 3) := by decide +kernel
theorem dX12_valueOf_9 : decode cX12_valueOf 9 = .ok (.ireturn, 1) := by decide +kernel
theorem dX12_valueOf_10 : decode cX12_valueOf 10 = .ok (.aload_n 0, 1) := by decide +kernel
theorem dX12_valueOf_11 : decode cX12_valueOf 11 = .ok (.aload_n 0, 1) := by decide +kernel
theorem dX12_valueOf_12 : decode cX12_valueOf 12 = .ok (.getfield 315, 3) := by decide +kernel
theorem dX12_valueOf_15 : decode cX12_valueOf 15 = .ok (.aload_n 0, 1) := by decide +kernel
theorem dX12_valueOf_16 : decode cX12_valueOf 16 = .ok (.getfield 38, 3) := by decide +kernel
theorem dX12_valueOf_19 : decode cX12_valueOf 19 = .ok (.iconst 3, 1) := by decide +kernel
theorem dX12_valueOf_20 : decode cX12_valueOf 20 = .ok (.iaload, 1) := by decide +kernel
theorem dX12_valueOf_21 : decode cX12_valueOf 21 = .ok (.invokevirtual 416, 3) := by decide +kernel
theorem dX12_valueOf_24 : decode cX12_valueOf 24 = .ok (.aload_n 0, 1) := by decide +kernel
theorem dX12_valueOf_25 : decode cX12_valueOf 25 = .ok (.invokevirtual 447, 3) := by decide +kernel
theorem dX12_valueOf_28 : decode cX12_valueOf 28 = .ok (.ireturn, 1) := by decide +kernel
theorem dX12_tenthsNow_0 : decode cX12_tenthsNow 0 = .ok (.iconst 0, 1) := by decide +kernel
theorem dX12_tenthsNow_1 : decode cX12_tenthsNow 1 = .ok (.istore_n 1, 1) := by decide +kernel
theorem dX12_tenthsNow_2 : decode cX12_tenthsNow 2 = .ok (.iconst 0, 1) := by decide +kernel
theorem dX12_tenthsNow_3 : decode cX12_tenthsNow 3 = .ok (.istore_n 2, 1) := by decide +kernel
theorem dX12_tenthsNow_4 : decode cX12_tenthsNow 4 = .ok (.aload_n 0, 1) := by decide +kernel
theorem dX12_tenthsNow_5 : decode cX12_tenthsNow 5 = .ok (.getfield 341, 3) := by decide +kernel
theorem dX12_tenthsNow_8 : decode cX12_tenthsNow 8 = .ok (.iconst 1, 1) := by decide +kernel
theorem dX12_tenthsNow_9 : decode cX12_tenthsNow 9 = .ok (.isub, 1) := by decide +kernel
theorem dX12_tenthsNow_10 : decode cX12_tenthsNow 10 = .ok (.istore_n 3, 1) := by decide +kernel
theorem dX12_tenthsNow_11 : decode cX12_tenthsNow 11 = .ok (.iload_n 3, 1) := by decide +kernel
theorem dX12_tenthsNow_12 : decode cX12_tenthsNow 12 = .ok (.ifCond .lt 46, 3) := by decide +kernel
theorem dX12_tenthsNow_15 : decode cX12_tenthsNow 15 = .ok (.iload_n 1, 1) := by decide +kernel
theorem dX12_tenthsNow_16 : decode cX12_tenthsNow 16 = .ok (.aload_n 0, 1) := by decide +kernel
theorem dX12_tenthsNow_17 : decode cX12_tenthsNow 17 = .ok (.getfield 56, 3) := by decide +kernel
theorem dX12_tenthsNow_20 : decode cX12_tenthsNow 20 = .ok (.aload_n 0, 1) := by decide +kernel
theorem dX12_tenthsNow_21 : decode cX12_tenthsNow 21 = .ok (.getfield 90, 3) := by decide +kernel
theorem dX12_tenthsNow_24 : decode cX12_tenthsNow 24 = .ok (.iload_n 3, 1) := by decide +kernel
theorem dX12_tenthsNow_25 : decode cX12_tenthsNow 25 = .ok (.iaload, 1) := by decide +kernel
theorem dX12_tenthsNow_26 : decode cX12_tenthsNow 26 = .ok (.iaload, 1) := by decide +kernel
theorem dX12_tenthsNow_27 : decode cX12_tenthsNow 27 = .ok (.iload_n 2, 1) := by decide +kernel
theorem dX12_tenthsNow_28 : decode cX12_tenthsNow 28 = .ok (.imul, 1) := by decide +kernel
theorem dX12_tenthsNow_29 : decode cX12_tenthsNow 29 = .ok (.iadd, 1) := by decide +kernel
theorem dX12_tenthsNow_30 : decode cX12_tenthsNow 30 = .ok (.istore_n 1, 1) := by decide +kernel
theorem dX12_tenthsNow_31 : decode cX12_tenthsNow 31 = .ok (.iload_n 2, 1) := by decide +kernel
theorem dX12_tenthsNow_32 : decode cX12_tenthsNow 32 = .ok (.aload_n 0, 1) := by decide +kernel
theorem dX12_tenthsNow_33 : decode cX12_tenthsNow 33 = .ok (.aload_n 0, 1) := by decide +kernel
theorem dX12_tenthsNow_34 : decode cX12_tenthsNow 34 = .ok (.getfield 90, 3) := by decide +kernel
theorem dX12_tenthsNow_37 : decode cX12_tenthsNow 37 = .ok (.iload_n 3, 1) := by decide +kernel
theorem dX12_tenthsNow_38 : decode cX12_tenthsNow 38 = .ok (.iaload, 1) := by decide +kernel
theorem dX12_tenthsNow_39 : decode cX12_tenthsNow 39 = .ok (.invokevirtual 373, 3) := by decide +kernel
theorem dX12_tenthsNow_42 : decode cX12_tenthsNow 42 = .ok (.ifCond .eq 7, 3) := by decide +kernel
theorem dX12_tenthsNow_45 : decode cX12_tenthsNow 45 = .ok (.iconst 0, 1) := by decide +kernel
theorem dX12_tenthsNow_46 : decode cX12_tenthsNow 46 = .ok (.goto 4, 3) := by decide +kernel
theorem dX12_tenthsNow_49 : decode cX12_tenthsNow 49 = .ok (.iconst 1, 1) := by decide +kernel
theorem dX12_tenthsNow_50 : decode cX12_tenthsNow 50 = .ok (.iadd, 1) := by decide +kernel
theorem dX12_tenthsNow_51 : decode cX12_tenthsNow 51 = .ok (.istore_n 2, 1) := by decide +kernel
theorem dX12_tenthsNow_52 : decode cX12_tenthsNow 52 = .ok (.iinc 3 (-1), 3) := by decide +kernel
theorem dX12_tenthsNow_55 : decode cX12_tenthsNow 55 = .ok (.goto (-44), 3) := by decide +kernel
theorem dX12_tenthsNow_58 : decode cX12_tenthsNow 58 = .ok (.iload_n 1, 1) := by decide +kernel
theorem dX12_tenthsNow_59 : decode cX12_tenthsNow 59 = .ok (.ireturn, 1) := by decide +kernel
theorem dX12_orderOn_0 : decode cX12_orderOn 0 = .ok (.iload_n 1, 1) := by decide +kernel
theorem dX12_orderOn_1 : decode cX12_orderOn 1 = .ok (.aload_n 0, 1) := by decide +kernel
theorem dX12_orderOn_2 : decode cX12_orderOn 2 = .ok (.getfield 341, 3) := by decide +kernel
theorem dX12_orderOn_5 : decode cX12_orderOn 5 = .ok (.if_icmp .ne 85, 3) := by decide +kernel
theorem dX12_orderOn_8 : decode cX12_orderOn 8 = .ok (.aload_n 0, 1) := by decide +kernel
theorem dX12_orderOn_9 : decode cX12_orderOn 9 = .ok (.dup, 1) := by decide +kernel
theorem dX12_orderOn_10 : decode cX12_orderOn 10 = .ok (.getfield 456, 3) := by decide +kernel
theorem dX12_orderOn_13 : decode cX12_orderOn 13 = .ok (.iconst 1, 1) := by decide +kernel
theorem dX12_orderOn_14 : decode cX12_orderOn 14 = .ok (.iadd, 1) := by decide +kernel
theorem dX12_orderOn_15 : decode cX12_orderOn 15 = .ok (.putfield 456, 3) := by decide +kernel
theorem dX12_orderOn_18 : decode cX12_orderOn 18 = .ok (.iload_n 3, 1) := by decide +kernel
theorem dX12_orderOn_19 : decode cX12_orderOn 19 = .ok (.ifCond .ne 7, 3) := by decide +kernel
theorem dX12_orderOn_22 : decode cX12_orderOn 22 = .ok (.iconst 0, 1) := by decide +kernel
theorem dX12_orderOn_23 : decode cX12_orderOn 23 = .ok (.goto 8, 3) := by decide +kernel
theorem dX12_orderOn_26 : decode cX12_orderOn 26 = .ok (.aload_n 0, 1) := by decide +kernel
theorem dX12_orderOn_27 : decode cX12_orderOn 27 = .ok (.iload_n 3, 1) := by decide +kernel
theorem dX12_orderOn_28 : decode cX12_orderOn 28 = .ok (.invokevirtual 459, 3) := by decide +kernel
theorem dX12_orderOn_31 : decode cX12_orderOn 31 = .ok (.istore 4, 2) := by decide +kernel
theorem dX12_orderOn_33 : decode cX12_orderOn 33 = .ok (.aload_n 0, 1) := by decide +kernel
theorem dX12_orderOn_34 : decode cX12_orderOn 34 = .ok (.getfield 456, 3) := by decide +kernel
theorem dX12_orderOn_37 : decode cX12_orderOn 37 = .ok (.iconst 1, 1) := by decide +kernel
theorem dX12_orderOn_38 : decode cX12_orderOn 38 = .ok (.if_icmp .le 13, 3) := by decide +kernel
theorem dX12_orderOn_41 : decode cX12_orderOn 41 = .ok (.iload 4, 2) := by decide +kernel
theorem dX12_orderOn_43 : decode cX12_orderOn 43 = .ok (.aload_n 0, 1) := by decide +kernel
theorem dX12_orderOn_44 : decode cX12_orderOn 44 = .ok (.getfield 462, 3) := by decide +kernel
theorem dX12_orderOn_47 : decode cX12_orderOn 47 = .ok (.if_icmp .lt 4, 3) := by decide +kernel
theorem dX12_orderOn_50 : decode cX12_orderOn 50 = .ok (.return_, 1) := by decide +kernel
theorem dX12_orderOn_51 : decode cX12_orderOn 51 = .ok (.aload_n 0, 1) := by decide +kernel
theorem dX12_orderOn_52 : decode cX12_orderOn 52 = .ok (.iload 4, 2) := by decide +kernel
theorem dX12_orderOn_54 : decode cX12_orderOn 54 = .ok (.putfield 462, 3) := by decide +kernel
theorem dX12_orderOn_57 : decode cX12_orderOn 57 = .ok (.iconst 0, 1) := by decide +kernel
theorem dX12_orderOn_58 : decode cX12_orderOn 58 = .ok (.istore 5, 2) := by decide +kernel
theorem dX12_orderOn_60 : decode cX12_orderOn 60 = .ok (.iload 5, 2) := by decide +kernel
theorem dX12_orderOn_62 : decode cX12_orderOn 62 = .ok (.aload_n 0, 1) := by decide +kernel
theorem dX12_orderOn_63 : decode cX12_orderOn 63 = .ok (.getfield 341, 3) := by decide +kernel
theorem dX12_orderOn_66 : decode cX12_orderOn 66 = .ok (.if_icmp .ge 23, 3) := by decide +kernel
theorem dX12_orderOn_69 : decode cX12_orderOn 69 = .ok (.aload_n 0, 1) := by decide +kernel
theorem dX12_orderOn_70 : decode cX12_orderOn 70 = .ok (.getfield 126, 3) := by decide +kernel
theorem dX12_orderOn_73 : decode cX12_orderOn 73 = .ok (.iload 5, 2) := by decide +kernel
theorem dX12_orderOn_75 : decode cX12_orderOn 75 = .ok (.aload_n 0, 1) := by decide +kernel
theorem dX12_orderOn_76 : decode cX12_orderOn 76 = .ok (.getfield 90, 3) := by decide +kernel
theorem dX12_orderOn_79 : decode cX12_orderOn 79 = .ok (.iload 5, 2) := by decide +kernel
theorem dX12_orderOn_81 : decode cX12_orderOn 81 = .ok (.iaload, 1) := by decide +kernel
theorem dX12_orderOn_82 : decode cX12_orderOn 82 = .ok (.iastore, 1) := by decide +kernel
theorem dX12_orderOn_83 : decode cX12_orderOn 83 = .ok (.iinc 5 1, 3) := by decide +kernel
theorem dX12_orderOn_86 : decode cX12_orderOn 86 = .ok (.goto (-26), 3) := by decide +kernel
theorem dX12_orderOn_89 : decode cX12_orderOn 89 = .ok (.return_, 1) := by decide +kernel
theorem dX12_orderOn_90 : decode cX12_orderOn 90 = .ok (.iconst 0, 1) := by decide +kernel
theorem dX12_orderOn_91 : decode cX12_orderOn 91 = .ok (.istore 4, 2) := by decide +kernel
theorem dX12_orderOn_93 : decode cX12_orderOn 93 = .ok (.iload 4, 2) := by decide +kernel
theorem dX12_orderOn_95 : decode cX12_orderOn 95 = .ok (.aload_n 0, 1) := by decide +kernel
theorem dX12_orderOn_96 : decode cX12_orderOn 96 = .ok (.getfield 38, 3) := by decide +kernel
theorem dX12_orderOn_99 : decode cX12_orderOn 99 = .ok (.iconst 0, 1) := by decide +kernel
theorem dX12_orderOn_100 : decode cX12_orderOn 100 = .ok (.iaload, 1) := by decide +kernel
theorem dX12_orderOn_101 : decode cX12_orderOn 101 = .ok (.if_icmp .ge 76, 3) := by decide +kernel
theorem dX12_orderOn_104 : decode cX12_orderOn 104 = .ok (.iload_n 2, 1) := by decide +kernel
theorem dX12_orderOn_105 : decode cX12_orderOn 105 = .ok (.iload 4, 2) := by decide +kernel
theorem dX12_orderOn_107 : decode cX12_orderOn 107 = .ok (.ishr, 1) := by decide +kernel
theorem dX12_orderOn_108 : decode cX12_orderOn 108 = .ok (.iconst 1, 1) := by decide +kernel
theorem dX12_orderOn_109 : decode cX12_orderOn 109 = .ok (.iand, 1) := by decide +kernel
theorem dX12_orderOn_110 : decode cX12_orderOn 110 = .ok (.ifCond .eq 61, 3) := by decide +kernel
theorem dX12_orderOn_113 : decode cX12_orderOn 113 = .ok (.iload_n 3, 1) := by decide +kernel
theorem dX12_orderOn_114 : decode cX12_orderOn 114 = .ok (.iconst 2, 1) := by decide +kernel
theorem dX12_orderOn_115 : decode cX12_orderOn 115 = .ok (.if_icmp .ge 32, 3) := by decide +kernel
theorem dX12_orderOn_118 : decode cX12_orderOn 118 = .ok (.iload_n 1, 1) := by decide +kernel
theorem dX12_orderOn_119 : decode cX12_orderOn 119 = .ok (.ifCond .le 28, 3) := by decide +kernel
theorem dX12_orderOn_122 : decode cX12_orderOn 122 = .ok (.aload_n 0, 1) := by decide +kernel
theorem dX12_orderOn_123 : decode cX12_orderOn 123 = .ok (.getfield 59, 3) := by decide +kernel
theorem dX12_orderOn_126 : decode cX12_orderOn 126 = .ok (.aload_n 0, 1) := by decide +kernel
theorem dX12_orderOn_127 : decode cX12_orderOn 127 = .ok (.getfield 90, 3) := by decide +kernel
theorem dX12_orderOn_130 : decode cX12_orderOn 130 = .ok (.iload_n 1, 1) := by decide +kernel
theorem dX12_orderOn_131 : decode cX12_orderOn 131 = .ok (.iconst 1, 1) := by decide +kernel
theorem dX12_orderOn_132 : decode cX12_orderOn 132 = .ok (.isub, 1) := by decide +kernel
theorem dX12_orderOn_133 : decode cX12_orderOn 133 = .ok (.iaload, 1) := by decide +kernel
theorem dX12_orderOn_134 : decode cX12_orderOn 134 = .ok (.iaload, 1) := by decide +kernel
theorem dX12_orderOn_135 : decode cX12_orderOn 135 = .ok (.iload 4, 2) := by decide +kernel
theorem dX12_orderOn_137 : decode cX12_orderOn 137 = .ok (.ishr, 1) := by decide +kernel
theorem dX12_orderOn_138 : decode cX12_orderOn 138 = .ok (.iconst 1, 1) := by decide +kernel
theorem dX12_orderOn_139 : decode cX12_orderOn 139 = .ok (.iand, 1) := by decide +kernel
theorem dX12_orderOn_140 : decode cX12_orderOn 140 = .ok (.iconst 1, 1) := by decide +kernel
theorem dX12_orderOn_141 : decode cX12_orderOn 141 = .ok (.if_icmp .ne 6, 3) := by decide +kernel
theorem dX12_orderOn_144 : decode cX12_orderOn 144 = .ok (.goto 27, 3) := by decide +kernel
theorem dX12_orderOn_147 : decode cX12_orderOn 147 = .ok (.aload_n 0, 1) := by decide +kernel
theorem dX12_orderOn_148 : decode cX12_orderOn 148 = .ok (.getfield 90, 3) := by decide +kernel
theorem dX12_orderOn_151 : decode cX12_orderOn 151 = .ok (.iload_n 1, 1) := by decide +kernel
theorem dX12_orderOn_152 : decode cX12_orderOn 152 = .ok (.iload 4, 2) := by decide +kernel
theorem dX12_orderOn_154 : decode cX12_orderOn 154 = .ok (.iastore, 1) := by decide +kernel
theorem dX12_orderOn_155 : decode cX12_orderOn 155 = .ok (.aload_n 0, 1) := by decide +kernel
theorem dX12_orderOn_156 : decode cX12_orderOn 156 = .ok (.iload_n 1, 1) := by decide +kernel
theorem dX12_orderOn_157 : decode cX12_orderOn 157 = .ok (.iconst 1, 1) := by decide +kernel
theorem dX12_orderOn_158 : decode cX12_orderOn 158 = .ok (.iadd, 1) := by decide +kernel
theorem dX12_orderOn_159 : decode cX12_orderOn 159 = .ok (.iload_n 2, 1) := by decide +kernel
theorem dX12_orderOn_160 : decode cX12_orderOn 160 = .ok (.iconst 1, 1) := by decide +kernel
theorem dX12_orderOn_161 : decode cX12_orderOn 161 = .ok (.iload 4, 2) := by decide +kernel
theorem dX12_orderOn_163 : decode cX12_orderOn 163 = .ok (.ishl, 1) := by decide +kernel
theorem dX12_orderOn_164 : decode cX12_orderOn 164 = .ok (.iconst (-1), 1) := by decide +kernel
theorem dX12_orderOn_165 : decode cX12_orderOn 165 = .ok (.ixor, 1) := by decide +kernel
theorem dX12_orderOn_166 : decode cX12_orderOn 166 = .ok (.iand, 1) := by decide +kernel
theorem dX12_orderOn_167 : decode cX12_orderOn 167 = .ok (.iload_n 3, 1) := by decide +kernel
theorem dX12_orderOn_168 : decode cX12_orderOn 168 = .ok (.invokevirtual 465, 3) := by decide +kernel
theorem dX12_orderOn_171 : decode cX12_orderOn 171 = .ok (.iinc 4 1, 3) := by decide +kernel
theorem dX12_orderOn_174 : decode cX12_orderOn 174 = .ok (.goto (-81), 3) := by decide +kernel
theorem dX12_orderOn_177 : decode cX12_orderOn 177 = .ok (.return_, 1) := by decide +kernel
theorem dX12_tellOrders_0 : decode cX12_tellOrders 0 = .ok (.aload_n 0, 1) := by decide +kernel
theorem dX12_tellOrders_1 : decode cX12_tellOrders 1 = .ok (.invokevirtual 413, 3) := by decide +kernel
theorem dX12_tellOrders_4 : decode cX12_tellOrders 4 = .ok (.aload_n 0, 1) := by decide +kernel
theorem dX12_tellOrders_5 : decode cX12_tellOrders 5 = .ok (.iconst 0, 1) := by decide +kernel
theorem dX12_tellOrders_6 : decode cX12_tellOrders 6 = .ok (.putfield 456, 3) := by decide +kernel
theorem dX12_tellOrders_9 : decode cX12_tellOrders 9 = .ok (.aload_n 0, 1) := by decide +kernel
theorem dX12_tellOrders_10 : decode cX12_tellOrders 10 = .ok (.iconst 0, 1) := by decide +kernel
theorem dX12_tellOrders_11 : decode cX12_tellOrders 11 = .ok (.iconst 1, 1) := by decide +kernel
theorem dX12_tellOrders_12 : decode cX12_tellOrders 12 = .ok (.aload_n 0, 1) := by decide +kernel
theorem dX12_tellOrders_13 : decode cX12_tellOrders 13 = .ok (.getfield 341, 3) := by decide +kernel
theorem dX12_tellOrders_16 : decode cX12_tellOrders 16 = .ok (.ishl, 1) := by decide +kernel
theorem dX12_tellOrders_17 : decode cX12_tellOrders 17 = .ok (.iconst 1, 1) := by decide +kernel
theorem dX12_tellOrders_18 : decode cX12_tellOrders 18 = .ok (.isub, 1) := by decide +kernel
theorem dX12_tellOrders_19 : decode cX12_tellOrders 19 = .ok (.iload_n 1, 1) := by decide +kernel
theorem dX12_tellOrders_20 : decode cX12_tellOrders 20 = .ok (.invokevirtual 465, 3) := by decide +kernel
theorem dX12_tellOrders_23 : decode cX12_tellOrders 23 = .ok (.return_, 1) := by decide +kernel
theorem dX12_keepBest_0 : decode cX12_keepBest 0 = .ok (.aload_n 0, 1) := by decide +kernel
theorem dX12_keepBest_1 : decode cX12_keepBest 1 = .ok (.iconst 1, 1) := by decide +kernel
theorem dX12_keepBest_2 : decode cX12_keepBest 2 = .ok (.putfield 330, 3) := by decide +kernel
theorem dX12_keepBest_5 : decode cX12_keepBest 5 = .ok (.iconst 0, 1) := by decide +kernel
theorem dX12_keepBest_6 : decode cX12_keepBest 6 = .ok (.istore_n 1, 1) := by decide +kernel
theorem dX12_keepBest_7 : decode cX12_keepBest 7 = .ok (.iload_n 1, 1) := by decide +kernel
theorem dX12_keepBest_8 : decode cX12_keepBest 8 = .ok (.aload_n 0, 1) := by decide +kernel
theorem dX12_keepBest_9 : decode cX12_keepBest 9 = .ok (.getfield 341, 3) := by decide +kernel
theorem dX12_keepBest_12 : decode cX12_keepBest 12 = .ok (.if_icmp .ge 21, 3) := by decide +kernel
theorem dX12_keepBest_15 : decode cX12_keepBest 15 = .ok (.aload_n 0, 1) := by decide +kernel
theorem dX12_keepBest_16 : decode cX12_keepBest 16 = .ok (.getfield 123, 3) := by decide +kernel
theorem dX12_keepBest_19 : decode cX12_keepBest 19 = .ok (.iload_n 1, 1) := by decide +kernel
theorem dX12_keepBest_20 : decode cX12_keepBest 20 = .ok (.aload_n 0, 1) := by decide +kernel
theorem dX12_keepBest_21 : decode cX12_keepBest 21 = .ok (.getfield 126, 3) := by decide +kernel
theorem dX12_keepBest_24 : decode cX12_keepBest 24 = .ok (.iload_n 1, 1) := by decide +kernel
theorem dX12_keepBest_25 : decode cX12_keepBest 25 = .ok (.iaload, 1) := by decide +kernel
theorem dX12_keepBest_26 : decode cX12_keepBest 26 = .ok (.iastore, 1) := by decide +kernel
theorem dX12_keepBest_27 : decode cX12_keepBest 27 = .ok (.iinc 1 1, 3) := by decide +kernel
theorem dX12_keepBest_30 : decode cX12_keepBest 30 = .ok (.goto (-23), 3) := by decide +kernel
theorem dX12_keepBest_33 : decode cX12_keepBest 33 = .ok (.return_, 1) := by decide +kernel
theorem dX12_orders_0 : decode cX12_orders 0 = .ok (.aload_n 0, 1) := by decide +kernel
theorem dX12_orders_1 : decode cX12_orders 1 = .ok (.iconst 0, 1) := by decide +kernel
theorem dX12_orders_2 : decode cX12_orders 2 = .ok (.putfield 159, 3) := by decide +kernel
theorem dX12_orders_5 : decode cX12_orders 5 = .ok (.aload_n 0, 1) := by decide +kernel
theorem dX12_orders_6 : decode cX12_orders 6 = .ok (.getfield 38, 3) := by decide +kernel
theorem dX12_orders_9 : decode cX12_orders 9 = .ok (.iconst 0, 1) := by decide +kernel
theorem dX12_orders_10 : decode cX12_orders 10 = .ok (.iaload, 1) := by decide +kernel
theorem dX12_orders_11 : decode cX12_orders 11 = .ok (.bipush 6, 2) := by decide +kernel
theorem dX12_orders_13 : decode cX12_orders 13 = .ok (.if_icmp .le 6, 3) := by decide +kernel
theorem dX12_orders_16 : decode cX12_orders 16 = .ok (.bipush (-2), 2) := by decide +kernel
theorem dX12_orders_18 : decode cX12_orders 18 = .ok (.ireturn, 1) := by decide +kernel
theorem dX12_orders_19 : decode cX12_orders 19 = .ok (.aload_n 0, 1) := by decide +kernel
theorem dX12_orders_20 : decode cX12_orders 20 = .ok (.iconst 0, 1) := by decide +kernel
theorem dX12_orders_21 : decode cX12_orders 21 = .ok (.invokevirtual 469, 3) := by decide +kernel
theorem dX12_orders_24 : decode cX12_orders 24 = .ok (.aload_n 0, 1) := by decide +kernel
theorem dX12_orders_25 : decode cX12_orders 25 = .ok (.getfield 456, 3) := by decide +kernel
theorem dX12_orders_28 : decode cX12_orders 28 = .ok (.ireturn, 1) := by decide +kernel
theorem dX12_order_0 : decode cX12_order 0 = .ok (.aload_n 0, 1) := by decide +kernel
theorem dX12_order_1 : decode cX12_order 1 = .ok (.iconst 0, 1) := by decide +kernel
theorem dX12_order_2 : decode cX12_order 2 = .ok (.putfield 159, 3) := by decide +kernel
theorem dX12_order_5 : decode cX12_order 5 = .ok (.aload_n 0, 1) := by decide +kernel
theorem dX12_order_6 : decode cX12_order 6 = .ok (.getfield 38, 3) := by decide +kernel
theorem dX12_order_9 : decode cX12_order 9 = .ok (.iconst 0, 1) := by decide +kernel
theorem dX12_order_10 : decode cX12_order 10 = .ok (.iaload, 1) := by decide +kernel
theorem dX12_order_11 : decode cX12_order 11 = .ok (.bipush 6, 2) := by decide +kernel
theorem dX12_order_13 : decode cX12_order 13 = .ok (.if_icmp .le 6, 3) := by decide +kernel
theorem dX12_order_16 : decode cX12_order 16 = .ok (.bipush (-2), 2) := by decide +kernel
theorem dX12_order_18 : decode cX12_order 18 = .ok (.ireturn, 1) := by decide +kernel
theorem dX12_order_19 : decode cX12_order 19 = .ok (.aload_n 0, 1) := by decide +kernel
theorem dX12_order_20 : decode cX12_order 20 = .ok (.iconst 1, 1) := by decide +kernel
theorem dX12_order_21 : decode cX12_order 21 = .ok (.invokevirtual 469, 3) := by decide +kernel
theorem dX12_order_24 : decode cX12_order 24 = .ok (.aload_n 0, 1) := by decide +kernel
theorem dX12_order_25 : decode cX12_order 25 = .ok (.getfield 456, 3) := by decide +kernel
theorem dX12_order_28 : decode cX12_order 28 = .ok (.ifCond .ne 5, 3) := by decide +kernel
theorem dX12_order_31 : decode cX12_order 31 = .ok (.iconst (-1), 1) := by decide +kernel
theorem dX12_order_32 : decode cX12_order 32 = .ok (.ireturn, 1) := by decide +kernel
theorem dX12_order_33 : decode cX12_order 33 = .ok (.aload_n 0, 1) := by decide +kernel
theorem dX12_order_34 : decode cX12_order 34 = .ok (.invokevirtual 472, 3) := by decide +kernel
theorem dX12_order_37 : decode cX12_order 37 = .ok (.aload_n 0, 1) := by decide +kernel
theorem dX12_order_38 : decode cX12_order 38 = .ok (.getfield 462, 3) := by decide +kernel
theorem dX12_order_41 : decode cX12_order 41 = .ok (.ireturn, 1) := by decide +kernel
theorem dX12_kept_0 : decode cX12_kept 0 = .ok (.aload_n 0, 1) := by decide +kernel
theorem dX12_kept_1 : decode cX12_kept 1 = .ok (.iconst 0, 1) := by decide +kernel
theorem dX12_kept_2 : decode cX12_kept 2 = .ok (.putfield 159, 3) := by decide +kernel
theorem dX12_kept_5 : decode cX12_kept 5 = .ok (.aload_n 0, 1) := by decide +kernel
theorem dX12_kept_6 : decode cX12_kept 6 = .ok (.getfield 330, 3) := by decide +kernel
theorem dX12_kept_9 : decode cX12_kept 9 = .ok (.ifCond .eq 20, 3) := by decide +kernel
theorem dX12_kept_12 : decode cX12_kept 12 = .ok (.aload_n 0, 1) := by decide +kernel
theorem dX12_kept_13 : decode cX12_kept 13 = .ok (.iload_n 1, 1) := by decide +kernel
theorem dX12_kept_14 : decode cX12_kept 14 = .ok (.invokevirtual 420, 3) := by decide +kernel
theorem dX12_kept_17 : decode cX12_kept 17 = .ok (.ifCond .eq 12, 3) := by decide +kernel
theorem dX12_kept_20 : decode cX12_kept 20 = .ok (.aload_n 0, 1) := by decide +kernel
theorem dX12_kept_21 : decode cX12_kept 21 = .ok (.getfield 123, 3) := by decide +kernel
theorem dX12_kept_24 : decode cX12_kept 24 = .ok (.iload_n 1, 1) := by decide +kernel
theorem dX12_kept_25 : decode cX12_kept 25 = .ok (.iaload, 1) := by decide +kernel
theorem dX12_kept_26 : decode cX12_kept 26 = .ok (.goto 8, 3) := by decide +kernel
theorem dX12_kept_29 : decode cX12_kept 29 = .ok (.aload_n 0, 1) := by decide +kernel
theorem dX12_kept_30 : decode cX12_kept 30 = .ok (.iconst 1, 1) := by decide +kernel
theorem dX12_kept_31 : decode cX12_kept 31 = .ok (.invokevirtual 302, 3) := by decide +kernel
theorem dX12_kept_34 : decode cX12_kept 34 = .ok (.ireturn, 1) := by decide +kernel
theorem dX12_every_0 : decode cX12_every 0 = .ok (.aload_n 0, 1) := by decide +kernel
theorem dX12_every_1 : decode cX12_every 1 = .ok (.iconst 0, 1) := by decide +kernel
theorem dX12_every_2 : decode cX12_every 2 = .ok (.putfield 159, 3) := by decide +kernel
theorem dX12_every_5 : decode cX12_every 5 = .ok (.aload_n 0, 1) := by decide +kernel
theorem dX12_every_6 : decode cX12_every 6 = .ok (.iload_n 1, 1) := by decide +kernel
theorem dX12_every_7 : decode cX12_every 7 = .ok (.invokevirtual 420, 3) := by decide +kernel
theorem dX12_every_10 : decode cX12_every 10 = .ok (.ifCond .eq 12, 3) := by decide +kernel
theorem dX12_every_13 : decode cX12_every 13 = .ok (.iload_n 2, 1) := by decide +kernel
theorem dX12_every_14 : decode cX12_every 14 = .ok (.ifCond .lt 8, 3) := by decide +kernel
theorem dX12_every_17 : decode cX12_every 17 = .ok (.iload_n 2, 1) := by decide +kernel
theorem dX12_every_18 : decode cX12_every 18 = .ok (.iconst 1, 1) := by decide +kernel
theorem dX12_every_19 : decode cX12_every 19 = .ok (.if_icmp .le 9, 3) := by decide +kernel
theorem dX12_every_22 : decode cX12_every 22 = .ok (.aload_n 0, 1) := by decide +kernel
theorem dX12_every_23 : decode cX12_every 23 = .ok (.iconst 1, 1) := by decide +kernel
theorem dX12_every_24 : decode cX12_every 24 = .ok (.invokevirtual 302, 3) := by decide +kernel
theorem dX12_every_27 : decode cX12_every 27 = .ok (.ireturn, 1) := by decide +kernel
theorem dX12_every_28 : decode cX12_every 28 = .ok (.aload_n 0, 1) := by decide +kernel
theorem dX12_every_29 : decode cX12_every 29 = .ok (.getfield 42, 3) := by decide +kernel
theorem dX12_every_32 : decode cX12_every 32 = .ok (.iload_n 1, 1) := by decide +kernel
theorem dX12_every_33 : decode cX12_every 33 = .ok (.iaload, 1) := by decide +kernel
theorem dX12_every_34 : decode cX12_every 34 = .ok (.iconst 3, 1) := by decide +kernel
theorem dX12_every_35 : decode cX12_every 35 = .ok (.if_icmp .ne 9, 3) := by decide +kernel
theorem dX12_every_38 : decode cX12_every 38 = .ok (.aload_n 0, 1) := by decide +kernel
theorem dX12_every_39 : decode cX12_every 39 = .ok (.iconst 2, 1) := by decide +kernel
theorem dX12_every_40 : decode cX12_every 40 = .ok (.invokevirtual 302, 3) := by decide +kernel
theorem dX12_every_43 : decode cX12_every 43 = .ok (.ireturn, 1) := by decide +kernel
theorem dX12_every_44 : decode cX12_every 44 = .ok (.aload_n 0, 1) := by decide +kernel
theorem dX12_every_45 : decode cX12_every 45 = .ok (.invokevirtual 413, 3) := by decide +kernel
theorem dX12_every_48 : decode cX12_every 48 = .ok (.aload_n 0, 1) := by decide +kernel
theorem dX12_every_49 : decode cX12_every 49 = .ok (.iload_n 1, 1) := by decide +kernel
theorem dX12_every_50 : decode cX12_every 50 = .ok (.putfield 344, 3) := by decide +kernel
theorem dX12_every_53 : decode cX12_every 53 = .ok (.iconst (-1), 1) := by decide +kernel
theorem dX12_every_54 : decode cX12_every 54 = .ok (.istore_n 3, 1) := by decide +kernel
theorem dX12_every_55 : decode cX12_every 55 = .ok (.iconst 0, 1) := by decide +kernel
theorem dX12_every_56 : decode cX12_every 56 = .ok (.istore 4, 2) := by decide +kernel
theorem dX12_every_58 : decode cX12_every 58 = .ok (.aload_n 0, 1) := by decide +kernel
theorem dX12_every_59 : decode cX12_every 59 = .ok (.iconst 0, 1) := by decide +kernel
theorem dX12_every_60 : decode cX12_every 60 = .ok (.putfield 347, 3) := by decide +kernel
theorem dX12_every_63 : decode cX12_every 63 = .ok (.aload_n 0, 1) := by decide +kernel
theorem dX12_every_64 : decode cX12_every 64 = .ok (.getfield 347, 3) := by decide +kernel
theorem dX12_every_67 : decode cX12_every 67 = .ok (.sipush 240, 3) := by decide +kernel
theorem dX12_every_70 : decode cX12_every 70 = .ok (.if_icmp .gt 60, 3) := by decide +kernel
theorem dX12_every_73 : decode cX12_every 73 = .ok (.aload_n 0, 1) := by decide +kernel
theorem dX12_every_74 : decode cX12_every 74 = .ok (.aload_n 0, 1) := by decide +kernel
theorem dX12_every_75 : decode cX12_every 75 = .ok (.getfield 315, 3) := by decide +kernel
theorem dX12_every_78 : decode cX12_every 78 = .ok (.aload_n 0, 1) := by decide +kernel
theorem dX12_every_79 : decode cX12_every 79 = .ok (.getfield 38, 3) := by decide +kernel
theorem dX12_every_82 : decode cX12_every 82 = .ok (.iconst 3, 1) := by decide +kernel
theorem dX12_every_83 : decode cX12_every 83 = .ok (.iaload, 1) := by decide +kernel
theorem dX12_every_84 : decode cX12_every 84 = .ok (.invokevirtual 416, 3) := by decide +kernel
theorem dX12_every_87 : decode cX12_every 87 = .ok (.aload_n 0, 1) := by decide +kernel
theorem dX12_every_88 : decode cX12_every 88 = .ok (.invokevirtual 447, 3) := by decide +kernel
theorem dX12_every_91 : decode cX12_every 91 = .ok (.istore 5, 2) := by decide +kernel
theorem dX12_every_93 : decode cX12_every 93 = .ok (.iload_n 3, 1) := by decide +kernel
theorem dX12_every_94 : decode cX12_every 94 = .ok (.iconst (-1), 1) := by decide +kernel
theorem dX12_every_95 : decode cX12_every 95 = .ok (.if_icmp .eq 13, 3) := by decide +kernel
theorem dX12_every_98 : decode cX12_every 98 = .ok (.iload 5, 2) := by decide +kernel
theorem dX12_every_100 : decode cX12_every 100 = .ok (.iload 4, 2) := by decide +kernel
theorem dX12_every_102 : decode cX12_every 102 = .ok (.if_icmp .lt 6, 3) := by decide +kernel
theorem dX12_every_105 : decode cX12_every 105 = .ok (.goto 12, 3) := by decide +kernel
theorem dX12_every_108 : decode cX12_every 108 = .ok (.aload_n 0, 1) := by decide +kernel
theorem dX12_every_109 : decode cX12_every 109 = .ok (.getfield 347, 3) := by decide +kernel
theorem dX12_every_112 : decode cX12_every 112 = .ok (.istore_n 3, 1) := by decide +kernel
theorem dX12_every_113 : decode cX12_every 113 = .ok (.iload 5, 2) := by decide +kernel
theorem dX12_every_115 : decode cX12_every 115 = .ok (.istore 4, 2) := by decide +kernel
theorem dX12_every_117 : decode cX12_every 117 = .ok (.aload_n 0, 1) := by decide +kernel
theorem dX12_every_118 : decode cX12_every 118 = .ok (.dup, 1) := by decide +kernel
theorem dX12_every_119 : decode cX12_every 119 = .ok (.getfield 347, 3) := by decide +kernel
theorem dX12_every_122 : decode cX12_every 122 = .ok (.iconst 1, 1) := by decide +kernel
theorem dX12_every_123 : decode cX12_every 123 = .ok (.iadd, 1) := by decide +kernel
theorem dX12_every_124 : decode cX12_every 124 = .ok (.putfield 347, 3) := by decide +kernel
theorem dX12_every_127 : decode cX12_every 127 = .ok (.goto (-64), 3) := by decide +kernel
theorem dX12_every_130 : decode cX12_every 130 = .ok (.iload_n 2, 1) := by decide +kernel
theorem dX12_every_131 : decode cX12_every 131 = .ok (.ifCond .ne 7, 3) := by decide +kernel
theorem dX12_every_134 : decode cX12_every 134 = .ok (.iload_n 3, 1) := by decide +kernel
theorem dX12_every_135 : decode cX12_every 135 = .ok (.goto 5, 3) := by decide +kernel
theorem dX12_every_138 : decode cX12_every 138 = .ok (.iload 4, 2) := by decide +kernel
theorem dX12_every_140 : decode cX12_every 140 = .ok (.ireturn, 1) := by decide +kernel
theorem dX12_bitsOf_0 : decode cX12_bitsOf 0 = .ok (.iconst 0, 1) := by decide +kernel
theorem dX12_bitsOf_1 : decode cX12_bitsOf 1 = .ok (.istore_n 1, 1) := by decide +kernel
theorem dX12_bitsOf_2 : decode cX12_bitsOf 2 = .ok (.iload_n 0, 1) := by decide +kernel
theorem dX12_bitsOf_3 : decode cX12_bitsOf 3 = .ok (.istore_n 2, 1) := by decide +kernel
theorem dX12_bitsOf_4 : decode cX12_bitsOf 4 = .ok (.iload_n 2, 1) := by decide +kernel
theorem dX12_bitsOf_5 : decode cX12_bitsOf 5 = .ok (.ifCond .eq 15, 3) := by decide +kernel
theorem dX12_bitsOf_8 : decode cX12_bitsOf 8 = .ok (.iinc 1 1, 3) := by decide +kernel
theorem dX12_bitsOf_11 : decode cX12_bitsOf 11 = .ok (.iload_n 2, 1) := by decide +kernel
theorem dX12_bitsOf_12 : decode cX12_bitsOf 12 = .ok (.iload_n 2, 1) := by decide +kernel
theorem dX12_bitsOf_13 : decode cX12_bitsOf 13 = .ok (.iconst 1, 1) := by decide +kernel
theorem dX12_bitsOf_14 : decode cX12_bitsOf 14 = .ok (.isub, 1) := by decide +kernel
theorem dX12_bitsOf_15 : decode cX12_bitsOf 15 = .ok (.iand, 1) := by decide +kernel
theorem dX12_bitsOf_16 : decode cX12_bitsOf 16 = .ok (.istore_n 2, 1) := by decide +kernel
theorem dX12_bitsOf_17 : decode cX12_bitsOf 17 = .ok (.goto (-13), 3) := by decide +kernel
theorem dX12_bitsOf_20 : decode cX12_bitsOf 20 = .ok (.iload_n 1, 1) := by decide +kernel
theorem dX12_bitsOf_21 : decode cX12_bitsOf 21 = .ok (.ireturn, 1) := by decide +kernel
theorem dX12_bolsters_0 : decode cX12_bolsters 0 = .ok (.aload_n 0, 1) := by decide +kernel
theorem dX12_bolsters_1 : decode cX12_bolsters 1 = .ok (.iconst 0, 1) := by decide +kernel
theorem dX12_bolsters_2 : decode cX12_bolsters 2 = .ok (.putfield 159, 3) := by decide +kernel
theorem dX12_bolsters_5 : decode cX12_bolsters 5 = .ok (.iload_n 1, 1) := by decide +kernel
theorem dX12_bolsters_6 : decode cX12_bolsters 6 = .ok (.ifCond .lt 8, 3) := by decide +kernel
theorem dX12_bolsters_9 : decode cX12_bolsters 9 = .ok (.iload_n 1, 1) := by decide +kernel
theorem dX12_bolsters_10 : decode cX12_bolsters 10 = .ok (.iconst 1, 1) := by decide +kernel
theorem dX12_bolsters_11 : decode cX12_bolsters 11 = .ok (.if_icmp .le 9, 3) := by decide +kernel
theorem dX12_bolsters_14 : decode cX12_bolsters 14 = .ok (.aload_n 0, 1) := by decide +kernel
theorem dX12_bolsters_15 : decode cX12_bolsters 15 = .ok (.iconst 1, 1) := by decide +kernel
theorem dX12_bolsters_16 : decode cX12_bolsters 16 = .ok (.invokevirtual 302, 3) := by decide +kernel
theorem dX12_bolsters_19 : decode cX12_bolsters 19 = .ok (.ireturn, 1) := by decide +kernel
theorem dX12_bolsters_20 : decode cX12_bolsters 20 = .ok (.aload_n 0, 1) := by decide +kernel
theorem dX12_bolsters_21 : decode cX12_bolsters 21 = .ok (.invokevirtual 413, 3) := by decide +kernel
theorem dX12_bolsters_24 : decode cX12_bolsters 24 = .ok (.iconst (-1), 1) := by decide +kernel
theorem dX12_bolsters_25 : decode cX12_bolsters 25 = .ok (.istore_n 2, 1) := by decide +kernel
theorem dX12_bolsters_26 : decode cX12_bolsters 26 = .ok (.iconst 0, 1) := by decide +kernel
theorem dX12_bolsters_27 : decode cX12_bolsters 27 = .ok (.istore_n 3, 1) := by decide +kernel
theorem dX12_bolsters_28 : decode cX12_bolsters 28 = .ok (.iconst 0, 1) := by decide +kernel
theorem dX12_bolsters_29 : decode cX12_bolsters 29 = .ok (.istore 4, 2) := by decide +kernel
theorem dX12_bolsters_31 : decode cX12_bolsters 31 = .ok (.iload 4, 2) := by decide +kernel
theorem dX12_bolsters_33 : decode cX12_bolsters 33 = .ok (.iconst 1, 1) := by decide +kernel
theorem dX12_bolsters_34 : decode cX12_bolsters 34 = .ok (.iconst 0, 1) := by decide +kernel
theorem dX12_bolsters_35 : decode cX12_bolsters 35 = .ok (.aload_n 0, 1) := by decide +kernel
theorem dX12_bolsters_36 : decode cX12_bolsters 36 = .ok (.getfield 341, 3) := by decide +kernel
theorem dX12_bolsters_39 : decode cX12_bolsters 39 = .ok (.iconst 1, 1) := by decide +kernel
theorem dX12_bolsters_40 : decode cX12_bolsters 40 = .ok (.isub, 1) := by decide +kernel
theorem dX12_bolsters_41 : decode cX12_bolsters 41 = .ok (.invokestatic 391, 3) := by decide +kernel
theorem dX12_bolsters_44 : decode cX12_bolsters 44 = .ok (.ishl, 1) := by decide +kernel
theorem dX12_bolsters_45 : decode cX12_bolsters 45 = .ok (.if_icmp .ge 79, 3) := by decide +kernel
theorem dX12_bolsters_48 : decode cX12_bolsters 48 = .ok (.aload_n 0, 1) := by decide +kernel
theorem dX12_bolsters_49 : decode cX12_bolsters 49 = .ok (.iconst 2, 1) := by decide +kernel
theorem dX12_bolsters_50 : decode cX12_bolsters 50 = .ok (.iload 4, 2) := by decide +kernel
theorem dX12_bolsters_52 : decode cX12_bolsters 52 = .ok (.imul, 1) := by decide +kernel
theorem dX12_bolsters_53 : decode cX12_bolsters 53 = .ok (.putfield 350, 3) := by decide +kernel
theorem dX12_bolsters_56 : decode cX12_bolsters 56 = .ok (.aload_n 0, 1) := by decide +kernel
theorem dX12_bolsters_57 : decode cX12_bolsters 57 = .ok (.aload_n 0, 1) := by decide +kernel
theorem dX12_bolsters_58 : decode cX12_bolsters 58 = .ok (.getfield 315, 3) := by decide +kernel
theorem dX12_bolsters_61 : decode cX12_bolsters 61 = .ok (.aload_n 0, 1) := by decide +kernel
theorem dX12_bolsters_62 : decode cX12_bolsters 62 = .ok (.getfield 38, 3) := by decide +kernel
theorem dX12_bolsters_65 : decode cX12_bolsters 65 = .ok (.iconst 3, 1) := by decide +kernel
theorem dX12_bolsters_66 : decode cX12_bolsters 66 = .ok (.iaload, 1) := by decide +kernel
theorem dX12_bolsters_67 : decode cX12_bolsters 67 = .ok (.invokevirtual 416, 3) := by decide +kernel
theorem dX12_bolsters_70 : decode cX12_bolsters 70 = .ok (.aload_n 0, 1) := by decide +kernel
theorem dX12_bolsters_71 : decode cX12_bolsters 71 = .ok (.invokevirtual 447, 3) := by decide +kernel
theorem dX12_bolsters_74 : decode cX12_bolsters 74 = .ok (.istore 5, 2) := by decide +kernel
theorem dX12_bolsters_76 : decode cX12_bolsters 76 = .ok (.iload_n 2, 1) := by decide +kernel
theorem dX12_bolsters_77 : decode cX12_bolsters 77 = .ok (.iconst (-1), 1) := by decide +kernel
theorem dX12_bolsters_78 : decode cX12_bolsters 78 = .ok (.if_icmp .eq 32, 3) := by decide +kernel
theorem dX12_bolsters_81 : decode cX12_bolsters 81 = .ok (.iload 5, 2) := by decide +kernel
theorem dX12_bolsters_83 : decode cX12_bolsters 83 = .ok (.iload_n 3, 1) := by decide +kernel
theorem dX12_bolsters_84 : decode cX12_bolsters 84 = .ok (.if_icmp .gt 34, 3) := by decide +kernel
theorem dX12_bolsters_87 : decode cX12_bolsters 87 = .ok (.iload 5, 2) := by decide +kernel
theorem dX12_bolsters_89 : decode cX12_bolsters 89 = .ok (.iload_n 3, 1) := by decide +kernel
theorem dX12_bolsters_90 : decode cX12_bolsters 90 = .ok (.if_icmp .ne 20, 3) := by decide +kernel
theorem dX12_bolsters_93 : decode cX12_bolsters 93 = .ok (.iconst 2, 1) := by decide +kernel
theorem dX12_bolsters_94 : decode cX12_bolsters 94 = .ok (.iload 4, 2) := by decide +kernel
theorem dX12_bolsters_96 : decode cX12_bolsters 96 = .ok (.imul, 1) := by decide +kernel
theorem dX12_bolsters_97 : decode cX12_bolsters 97 = .ok (.invokestatic 475, 3) := by decide +kernel
theorem dX12_bolsters_100 : decode cX12_bolsters 100 = .ok (.iload_n 2, 1) := by decide +kernel
theorem dX12_bolsters_101 : decode cX12_bolsters 101 = .ok (.invokestatic 475, 3) := by decide +kernel
theorem dX12_bolsters_104 : decode cX12_bolsters 104 = .ok (.if_icmp .lt 6, 3) := by decide +kernel
theorem dX12_bolsters_107 : decode cX12_bolsters 107 = .ok (.goto 11, 3) := by decide +kernel
theorem dX12_bolsters_110 : decode cX12_bolsters 110 = .ok (.iconst 2, 1) := by decide +kernel
theorem dX12_bolsters_111 : decode cX12_bolsters 111 = .ok (.iload 4, 2) := by decide +kernel
theorem dX12_bolsters_113 : decode cX12_bolsters 113 = .ok (.imul, 1) := by decide +kernel
theorem dX12_bolsters_114 : decode cX12_bolsters 114 = .ok (.istore_n 2, 1) := by decide +kernel
theorem dX12_bolsters_115 : decode cX12_bolsters 115 = .ok (.iload 5, 2) := by decide +kernel
theorem dX12_bolsters_117 : decode cX12_bolsters 117 = .ok (.istore_n 3, 1) := by decide +kernel
theorem dX12_bolsters_118 : decode cX12_bolsters 118 = .ok (.iinc 4 1, 3) := by decide +kernel
theorem dX12_bolsters_121 : decode cX12_bolsters 121 = .ok (.goto (-90), 3) := by decide +kernel
theorem dX12_bolsters_124 : decode cX12_bolsters 124 = .ok (.iload_n 1, 1) := by decide +kernel
theorem dX12_bolsters_125 : decode cX12_bolsters 125 = .ok (.ifCond .ne 7, 3) := by decide +kernel
theorem dX12_bolsters_128 : decode cX12_bolsters 128 = .ok (.iload_n 2, 1) := by decide +kernel
theorem dX12_bolsters_129 : decode cX12_bolsters 129 = .ok (.goto 4, 3) := by decide +kernel
theorem dX12_bolsters_132 : decode cX12_bolsters 132 = .ok (.iload_n 3, 1) := by decide +kernel
theorem dX12_bolsters_133 : decode cX12_bolsters 133 = .ok (.ireturn, 1) := by decide +kernel
theorem dX12_free_0 : decode cX12_free 0 = .ok (.aload_n 0, 1) := by decide +kernel
theorem dX12_free_1 : decode cX12_free 1 = .ok (.iconst 0, 1) := by decide +kernel
theorem dX12_free_2 : decode cX12_free 2 = .ok (.putfield 159, 3) := by decide +kernel
theorem dX12_free_5 : decode cX12_free 5 = .ok (.aload_n 0, 1) := by decide +kernel
theorem dX12_free_6 : decode cX12_free 6 = .ok (.iload_n 1, 1) := by decide +kernel
theorem dX12_free_7 : decode cX12_free 7 = .ok (.invokevirtual 420, 3) := by decide +kernel
theorem dX12_free_10 : decode cX12_free 10 = .ok (.ifCond .ne 9, 3) := by decide +kernel
theorem dX12_free_13 : decode cX12_free 13 = .ok (.aload_n 0, 1) := by decide +kernel
theorem dX12_free_14 : decode cX12_free 14 = .ok (.iconst 1, 1) := by decide +kernel
theorem dX12_free_15 : decode cX12_free 15 = .ok (.invokevirtual 302, 3) := by decide +kernel
theorem dX12_free_18 : decode cX12_free 18 = .ok (.ireturn, 1) := by decide +kernel
theorem dX12_free_19 : decode cX12_free 19 = .ok (.aload_n 0, 1) := by decide +kernel
theorem dX12_free_20 : decode cX12_free 20 = .ok (.invokevirtual 413, 3) := by decide +kernel
theorem dX12_free_23 : decode cX12_free 23 = .ok (.aload_n 0, 1) := by decide +kernel
theorem dX12_free_24 : decode cX12_free 24 = .ok (.iconst 1, 1) := by decide +kernel
theorem dX12_free_25 : decode cX12_free 25 = .ok (.putfield 356, 3) := by decide +kernel
theorem dX12_free_28 : decode cX12_free 28 = .ok (.aload_n 0, 1) := by decide +kernel
theorem dX12_free_29 : decode cX12_free 29 = .ok (.aload_n 0, 1) := by decide +kernel
theorem dX12_free_30 : decode cX12_free 30 = .ok (.getfield 315, 3) := by decide +kernel
theorem dX12_free_33 : decode cX12_free 33 = .ok (.aload_n 0, 1) := by decide +kernel
theorem dX12_free_34 : decode cX12_free 34 = .ok (.getfield 38, 3) := by decide +kernel
theorem dX12_free_37 : decode cX12_free 37 = .ok (.iconst 3, 1) := by decide +kernel
theorem dX12_free_38 : decode cX12_free 38 = .ok (.iaload, 1) := by decide +kernel
theorem dX12_free_39 : decode cX12_free 39 = .ok (.invokevirtual 416, 3) := by decide +kernel
theorem dX12_free_42 : decode cX12_free 42 = .ok (.aload_n 0, 1) := by decide +kernel
theorem dX12_free_43 : decode cX12_free 43 = .ok (.getfield 105, 3) := by decide +kernel
theorem dX12_free_46 : decode cX12_free 46 = .ok (.iload_n 1, 1) := by decide +kernel
theorem dX12_free_47 : decode cX12_free 47 = .ok (.iaload, 1) := by decide +kernel
theorem dX12_free_48 : decode cX12_free 48 = .ok (.ireturn, 1) := by decide +kernel
theorem dX12_common_0 : decode cX12_common 0 = .ok (.iload_n 0, 1) := by decide +kernel
theorem dX12_common_1 : decode cX12_common 1 = .ok (.istore_n 2, 1) := by decide +kernel
theorem dX12_common_2 : decode cX12_common 2 = .ok (.iload_n 1, 1) := by decide +kernel
theorem dX12_common_3 : decode cX12_common 3 = .ok (.istore_n 3, 1) := by decide +kernel
theorem dX12_common_4 : decode cX12_common 4 = .ok (.iload_n 3, 1) := by decide +kernel
theorem dX12_common_5 : decode cX12_common 5 = .ok (.ifCond .eq 16, 3) := by decide +kernel
theorem dX12_common_8 : decode cX12_common 8 = .ok (.iload_n 2, 1) := by decide +kernel
theorem dX12_common_9 : decode cX12_common 9 = .ok (.iload_n 3, 1) := by decide +kernel
theorem dX12_common_10 : decode cX12_common 10 = .ok (.irem, 1) := by decide +kernel
theorem dX12_common_11 : decode cX12_common 11 = .ok (.istore 4, 2) := by decide +kernel
theorem dX12_common_13 : decode cX12_common 13 = .ok (.iload_n 3, 1) := by decide +kernel
theorem dX12_common_14 : decode cX12_common 14 = .ok (.istore_n 2, 1) := by decide +kernel
theorem dX12_common_15 : decode cX12_common 15 = .ok (.iload 4, 2) := by decide +kernel
theorem dX12_common_17 : decode cX12_common 17 = .ok (.istore_n 3, 1) := by decide +kernel
theorem dX12_common_18 : decode cX12_common 18 = .ok (.goto (-14), 3) := by decide +kernel
theorem dX12_common_21 : decode cX12_common 21 = .ok (.iload_n 2, 1) := by decide +kernel
theorem dX12_common_22 : decode cX12_common 22 = .ok (.ireturn, 1) := by decide +kernel
theorem dX12_outs_0 : decode cX12_outs 0 = .ok (.aload_n 0, 1) := by decide +kernel
theorem dX12_outs_1 : decode cX12_outs 1 = .ok (.iconst 0, 1) := by decide +kernel
theorem dX12_outs_2 : decode cX12_outs 2 = .ok (.putfield 159, 3) := by decide +kernel
theorem dX12_outs_5 : decode cX12_outs 5 = .ok (.iload_n 1, 1) := by decide +kernel
theorem dX12_outs_6 : decode cX12_outs 6 = .ok (.ifCond .lt 8, 3) := by decide +kernel
theorem dX12_outs_9 : decode cX12_outs 9 = .ok (.iload_n 1, 1) := by decide +kernel
theorem dX12_outs_10 : decode cX12_outs 10 = .ok (.iconst 1, 1) := by decide +kernel
theorem dX12_outs_11 : decode cX12_outs 11 = .ok (.if_icmp .le 9, 3) := by decide +kernel
theorem dX12_outs_14 : decode cX12_outs 14 = .ok (.aload_n 0, 1) := by decide +kernel
theorem dX12_outs_15 : decode cX12_outs 15 = .ok (.iconst 1, 1) := by decide +kernel
theorem dX12_outs_16 : decode cX12_outs 16 = .ok (.invokevirtual 302, 3) := by decide +kernel
theorem dX12_outs_19 : decode cX12_outs 19 = .ok (.ireturn, 1) := by decide +kernel
theorem dX12_outs_20 : decode cX12_outs 20 = .ok (.aload_n 0, 1) := by decide +kernel
theorem dX12_outs_21 : decode cX12_outs 21 = .ok (.invokevirtual 413, 3) := by decide +kernel
theorem dX12_outs_24 : decode cX12_outs 24 = .ok (.aload_n 0, 1) := by decide +kernel
theorem dX12_outs_25 : decode cX12_outs 25 = .ok (.invokevirtual 453, 3) := by decide +kernel
theorem dX12_outs_28 : decode cX12_outs 28 = .ok (.istore_n 2, 1) := by decide +kernel
theorem dX12_outs_29 : decode cX12_outs 29 = .ok (.bipush 10, 2) := by decide +kernel
theorem dX12_outs_31 : decode cX12_outs 31 = .ok (.iload_n 2, 1) := by decide +kernel
theorem dX12_outs_32 : decode cX12_outs 32 = .ok (.invokestatic 478, 3) := by decide +kernel
theorem dX12_outs_35 : decode cX12_outs 35 = .ok (.istore_n 3, 1) := by decide +kernel
theorem dX12_outs_36 : decode cX12_outs 36 = .ok (.iload_n 1, 1) := by decide +kernel
theorem dX12_outs_37 : decode cX12_outs 37 = .ok (.ifCond .ne 9, 3) := by decide +kernel
theorem dX12_outs_40 : decode cX12_outs 40 = .ok (.iload_n 2, 1) := by decide +kernel
theorem dX12_outs_41 : decode cX12_outs 41 = .ok (.iload_n 3, 1) := by decide +kernel
theorem dX12_outs_42 : decode cX12_outs 42 = .ok (.idiv, 1) := by decide +kernel
theorem dX12_outs_43 : decode cX12_outs 43 = .ok (.goto 7, 3) := by decide +kernel
theorem dX12_outs_46 : decode cX12_outs 46 = .ok (.bipush 10, 2) := by decide +kernel
theorem dX12_outs_48 : decode cX12_outs 48 = .ok (.iload_n 3, 1) := by decide +kernel
theorem dX12_outs_49 : decode cX12_outs 49 = .ok (.idiv, 1) := by decide +kernel
theorem dX12_outs_50 : decode cX12_outs 50 = .ok (.ireturn, 1) := by decide +kernel
theorem dX12_edge_0 : decode cX12_edge 0 = .ok (.aload_n 0, 1) := by decide +kernel
theorem dX12_edge_1 : decode cX12_edge 1 = .ok (.iconst 0, 1) := by decide +kernel
theorem dX12_edge_2 : decode cX12_edge 2 = .ok (.putfield 159, 3) := by decide +kernel
theorem dX12_edge_5 : decode cX12_edge 5 = .ok (.aload_n 0, 1) := by decide +kernel
theorem dX12_edge_6 : decode cX12_edge 6 = .ok (.getfield 38, 3) := by decide +kernel
theorem dX12_edge_9 : decode cX12_edge 9 = .ok (.iconst 0, 1) := by decide +kernel
theorem dX12_edge_10 : decode cX12_edge 10 = .ok (.iaload, 1) := by decide +kernel
theorem dX12_edge_11 : decode cX12_edge 11 = .ok (.bipush 6, 2) := by decide +kernel
theorem dX12_edge_13 : decode cX12_edge 13 = .ok (.if_icmp .le 6, 3) := by decide +kernel
theorem dX12_edge_16 : decode cX12_edge 16 = .ok (.bipush (-2), 2) := by decide +kernel
theorem dX12_edge_18 : decode cX12_edge 18 = .ok (.ireturn, 1) := by decide +kernel
theorem dX12_edge_19 : decode cX12_edge 19 = .ok (.aload_n 0, 1) := by decide +kernel
theorem dX12_edge_20 : decode cX12_edge 20 = .ok (.iconst 2, 1) := by decide +kernel
theorem dX12_edge_21 : decode cX12_edge 21 = .ok (.invokevirtual 469, 3) := by decide +kernel
theorem dX12_edge_24 : decode cX12_edge 24 = .ok (.aload_n 0, 1) := by decide +kernel
theorem dX12_edge_25 : decode cX12_edge 25 = .ok (.invokevirtual 472, 3) := by decide +kernel
theorem dX12_edge_28 : decode cX12_edge 28 = .ok (.aload_n 0, 1) := by decide +kernel
theorem dX12_edge_29 : decode cX12_edge 29 = .ok (.getfield 462, 3) := by decide +kernel
theorem dX12_edge_32 : decode cX12_edge 32 = .ok (.ireturn, 1) := by decide +kernel
theorem dX12_fair_0 : decode cX12_fair 0 = .ok (.aload_n 0, 1) := by decide +kernel
theorem dX12_fair_1 : decode cX12_fair 1 = .ok (.iconst 0, 1) := by decide +kernel
theorem dX12_fair_2 : decode cX12_fair 2 = .ok (.putfield 159, 3) := by decide +kernel
theorem dX12_fair_5 : decode cX12_fair 5 = .ok (.iload_n 2, 1) := by decide +kernel
theorem dX12_fair_6 : decode cX12_fair 6 = .ok (.i2l, 1) := by decide +kernel
theorem dX12_fair_7 : decode cX12_fair 7 = .ok (.ldc2_w 481, 3) := by decide +kernel
theorem dX12_fair_10 : decode cX12_fair 10 = .ok (.aload_n 0, 1) := by decide +kernel
theorem dX12_fair_11 : decode cX12_fair 11 = .ok (.getfield 38, 3) := by decide +kernel
theorem dX12_fair_14 : decode cX12_fair 14 = .ok (.iconst 0, 1) := by decide +kernel
theorem dX12_fair_15 : decode cX12_fair 15 = .ok (.iaload, 1) := by decide +kernel
theorem dX12_fair_16 : decode cX12_fair 16 = .ok (.iconst 1, 1) := by decide +kernel
theorem dX12_fair_17 : decode cX12_fair 17 = .ok (.isub, 1) := by decide +kernel
theorem dX12_fair_18 : decode cX12_fair 18 = .ok (.i2l, 1) := by decide +kernel
theorem dX12_fair_19 : decode cX12_fair 19 = .ok (.invokestatic 162, 3) := by decide +kernel
theorem dX12_fair_22 : decode cX12_fair 22 = .ok (.ifCond .ne 9, 3) := by decide +kernel
theorem dX12_fair_25 : decode cX12_fair 25 = .ok (.aload_n 0, 1) := by decide +kernel
theorem dX12_fair_26 : decode cX12_fair 26 = .ok (.iconst 1, 1) := by decide +kernel
theorem dX12_fair_27 : decode cX12_fair 27 = .ok (.invokevirtual 302, 3) := by decide +kernel
theorem dX12_fair_30 : decode cX12_fair 30 = .ok (.ireturn, 1) := by decide +kernel
theorem dX12_fair_31 : decode cX12_fair 31 = .ok (.iload_n 1, 1) := by decide +kernel
theorem dX12_fair_32 : decode cX12_fair 32 = .ok (.i2l, 1) := by decide +kernel
theorem dX12_fair_33 : decode cX12_fair 33 = .ok (.lconst 0, 1) := by decide +kernel
theorem dX12_fair_34 : decode cX12_fair 34 = .ok (.ldc2_w 483, 3) := by decide +kernel
theorem dX12_fair_37 : decode cX12_fair 37 = .ok (.invokestatic 162, 3) := by decide +kernel
theorem dX12_fair_40 : decode cX12_fair 40 = .ok (.ifCond .ne 9, 3) := by decide +kernel
theorem dX12_fair_43 : decode cX12_fair 43 = .ok (.aload_n 0, 1) := by decide +kernel
theorem dX12_fair_44 : decode cX12_fair 44 = .ok (.iconst 2, 1) := by decide +kernel
theorem dX12_fair_45 : decode cX12_fair 45 = .ok (.invokevirtual 302, 3) := by decide +kernel
theorem dX12_fair_48 : decode cX12_fair 48 = .ok (.ireturn, 1) := by decide +kernel
theorem dX12_fair_49 : decode cX12_fair 49 = .ok (.aload_n 0, 1) := by decide +kernel
theorem dX12_fair_50 : decode cX12_fair 50 = .ok (.invokevirtual 413, 3) := by decide +kernel
theorem dX12_fair_53 : decode cX12_fair 53 = .ok (.iconst 0, 1) := by decide +kernel
theorem dX12_fair_54 : decode cX12_fair 54 = .ok (.istore_n 3, 1) := by decide +kernel
theorem dX12_fair_55 : decode cX12_fair 55 = .ok (.iload_n 3, 1) := by decide +kernel
theorem dX12_fair_56 : decode cX12_fair 56 = .ok (.bipush 7, 2) := by decide +kernel
theorem dX12_fair_58 : decode cX12_fair 58 = .ok (.if_icmp .ge 16, 3) := by decide +kernel
theorem dX12_fair_61 : decode cX12_fair 61 = .ok (.aload_n 0, 1) := by decide +kernel
theorem dX12_fair_62 : decode cX12_fair 62 = .ok (.getfield 129, 3) := by decide +kernel
theorem dX12_fair_65 : decode cX12_fair 65 = .ok (.iload_n 3, 1) := by decide +kernel
theorem dX12_fair_66 : decode cX12_fair 66 = .ok (.iconst 0, 1) := by decide +kernel
theorem dX12_fair_67 : decode cX12_fair 67 = .ok (.iastore, 1) := by decide +kernel
theorem dX12_fair_68 : decode cX12_fair 68 = .ok (.iinc 3 1, 3) := by decide +kernel
theorem dX12_fair_71 : decode cX12_fair 71 = .ok (.goto (-16), 3) := by decide +kernel
theorem dX12_fair_74 : decode cX12_fair 74 = .ok (.iconst 0, 1) := by decide +kernel
theorem dX12_fair_75 : decode cX12_fair 75 = .ok (.istore_n 3, 1) := by decide +kernel
theorem dX12_fair_76 : decode cX12_fair 76 = .ok (.iload_n 3, 1) := by decide +kernel
theorem dX12_fair_77 : decode cX12_fair 77 = .ok (.iload_n 1, 1) := by decide +kernel
theorem dX12_fair_78 : decode cX12_fair 78 = .ok (.if_icmp .ge 132, 3) := by decide +kernel
theorem dX12_fair_81 : decode cX12_fair 81 = .ok (.aload_n 0, 1) := by decide +kernel
theorem dX12_fair_82 : decode cX12_fair 82 = .ok (.aload_n 0, 1) := by decide +kernel
theorem dX12_fair_83 : decode cX12_fair 83 = .ok (.getfield 315, 3) := by decide +kernel
theorem dX12_fair_86 : decode cX12_fair 86 = .ok (.aload_n 0, 1) := by decide +kernel
theorem dX12_fair_87 : decode cX12_fair 87 = .ok (.getfield 38, 3) := by decide +kernel
theorem dX12_fair_90 : decode cX12_fair 90 = .ok (.iconst 3, 1) := by decide +kernel
theorem dX12_fair_91 : decode cX12_fair 91 = .ok (.iaload, 1) := by decide +kernel
theorem dX12_fair_92 : decode cX12_fair 92 = .ok (.invokevirtual 416, 3) := by decide +kernel
theorem dX12_fair_95 : decode cX12_fair 95 = .ok (.iconst 0, 1) := by decide +kernel
theorem dX12_fair_96 : decode cX12_fair 96 = .ok (.istore 4, 2) := by decide +kernel
theorem dX12_fair_98 : decode cX12_fair 98 = .ok (.iload 4, 2) := by decide +kernel
theorem dX12_fair_100 : decode cX12_fair 100 = .ok (.aload_n 0, 1) := by decide +kernel
theorem dX12_fair_101 : decode cX12_fair 101 = .ok (.getfield 341, 3) := by decide +kernel
theorem dX12_fair_104 : decode cX12_fair 104 = .ok (.if_icmp .ge 26, 3) := by decide +kernel
theorem dX12_fair_107 : decode cX12_fair 107 = .ok (.aload_n 0, 1) := by decide +kernel
theorem dX12_fair_108 : decode cX12_fair 108 = .ok (.getfield 129, 3) := by decide +kernel
theorem dX12_fair_111 : decode cX12_fair 111 = .ok (.iload 4, 2) := by decide +kernel
theorem dX12_fair_113 : decode cX12_fair 113 = .ok (.dup2, 1) := by decide +kernel
theorem dX12_fair_114 : decode cX12_fair 114 = .ok (.iaload, 1) := by decide +kernel
theorem dX12_fair_115 : decode cX12_fair 115 = .ok (.aload_n 0, 1) := by decide +kernel
theorem dX12_fair_116 : decode cX12_fair 116 = .ok (.getfield 105, 3) := by decide +kernel
theorem dX12_fair_119 : decode cX12_fair 119 = .ok (.iload 4, 2) := by decide +kernel
theorem dX12_fair_121 : decode cX12_fair 121 = .ok (.iaload, 1) := by decide +kernel
theorem dX12_fair_122 : decode cX12_fair 122 = .ok (.iadd, 1) := by decide +kernel
theorem dX12_fair_123 : decode cX12_fair 123 = .ok (.iastore, 1) := by decide +kernel
theorem dX12_fair_124 : decode cX12_fair 124 = .ok (.iinc 4 1, 3) := by decide +kernel
theorem dX12_fair_127 : decode cX12_fair 127 = .ok (.goto (-29), 3) := by decide +kernel
theorem dX12_fair_130 : decode cX12_fair 130 = .ok (.aload_n 0, 1) := by decide +kernel
theorem dX12_fair_131 : decode cX12_fair 131 = .ok (.getfield 341, 3) := by decide +kernel
theorem dX12_fair_134 : decode cX12_fair 134 = .ok (.ifCond .ne 7, 3) := by decide +kernel
theorem dX12_fair_137 : decode cX12_fair 137 = .ok (.iconst (-1), 1) := by decide +kernel
theorem dX12_fair_138 : decode cX12_fair 138 = .ok (.goto 14, 3) := by decide +kernel
theorem dX12_fair_141 : decode cX12_fair 141 = .ok (.aload_n 0, 1) := by decide +kernel
theorem dX12_fair_142 : decode cX12_fair 142 = .ok (.getfield 90, 3) := by decide +kernel
theorem dX12_fair_145 : decode cX12_fair 145 = .ok (.aload_n 0, 1) := by decide +kernel
theorem dX12_fair_146 : decode cX12_fair 146 = .ok (.getfield 341, 3) := by decide +kernel
theorem dX12_fair_149 : decode cX12_fair 149 = .ok (.iconst 1, 1) := by decide +kernel
theorem dX12_fair_150 : decode cX12_fair 150 = .ok (.isub, 1) := by decide +kernel
theorem dX12_fair_151 : decode cX12_fair 151 = .ok (.iaload, 1) := by decide +kernel
theorem dX12_fair_152 : decode cX12_fair 152 = .ok (.istore 4, 2) := by decide +kernel
theorem dX12_fair_154 : decode cX12_fair 154 = .ok (.aload_n 0, 1) := by decide +kernel
theorem dX12_fair_155 : decode cX12_fair 155 = .ok (.getfield 341, 3) := by decide +kernel
theorem dX12_fair_158 : decode cX12_fair 158 = .ok (.iconst 1, 1) := by decide +kernel
theorem dX12_fair_159 : decode cX12_fair 159 = .ok (.isub, 1) := by decide +kernel
theorem dX12_fair_160 : decode cX12_fair 160 = .ok (.istore 5, 2) := by decide +kernel
theorem dX12_fair_162 : decode cX12_fair 162 = .ok (.iload 5, 2) := by decide +kernel
theorem dX12_fair_164 : decode cX12_fair 164 = .ok (.ifCond .le 25, 3) := by decide +kernel
theorem dX12_fair_167 : decode cX12_fair 167 = .ok (.aload_n 0, 1) := by decide +kernel
theorem dX12_fair_168 : decode cX12_fair 168 = .ok (.getfield 90, 3) := by decide +kernel
theorem dX12_fair_171 : decode cX12_fair 171 = .ok (.iload 5, 2) := by decide +kernel
theorem dX12_fair_173 : decode cX12_fair 173 = .ok (.aload_n 0, 1) := by decide +kernel
theorem dX12_fair_174 : decode cX12_fair 174 = .ok (.getfield 90, 3) := by decide +kernel
theorem dX12_fair_177 : decode cX12_fair 177 = .ok (.iload 5, 2) := by decide +kernel
theorem dX12_fair_179 : decode cX12_fair 179 = .ok (.iconst 1, 1) := by decide +kernel
theorem dX12_fair_180 : decode cX12_fair 180 = .ok (.isub, 1) := by decide +kernel
theorem dX12_fair_181 : decode cX12_fair 181 = .ok (.iaload, 1) := by decide +kernel
theorem dX12_fair_182 : decode cX12_fair 182 = .ok (.iastore, 1) := by decide +kernel
theorem dX12_fair_183 : decode cX12_fair 183 = .ok (.iinc 5 (-1), 3) := by decide +kernel
theorem dX12_fair_186 : decode cX12_fair 186 = .ok (.goto (-24), 3) := by decide +kernel
theorem dX12_fair_189 : decode cX12_fair 189 = .ok (.aload_n 0, 1) := by decide +kernel
theorem dX12_fair_190 : decode cX12_fair 190 = .ok (.getfield 341, 3) := by decide +kernel
theorem dX12_fair_193 : decode cX12_fair 193 = .ok (.ifCond .le 11, 3) := by decide +kernel
theorem dX12_fair_196 : decode cX12_fair 196 = .ok (.aload_n 0, 1) := by decide +kernel
theorem dX12_fair_197 : decode cX12_fair 197 = .ok (.getfield 90, 3) := by decide +kernel
theorem dX12_fair_200 : decode cX12_fair 200 = .ok (.iconst 0, 1) := by decide +kernel
theorem dX12_fair_201 : decode cX12_fair 201 = .ok (.iload 4, 2) := by decide +kernel
theorem dX12_fair_203 : decode cX12_fair 203 = .ok (.iastore, 1) := by decide +kernel
theorem dX12_fair_204 : decode cX12_fair 204 = .ok (.iinc 3 1, 3) := by decide +kernel
theorem dX12_fair_207 : decode cX12_fair 207 = .ok (.goto (-131), 3) := by decide +kernel
theorem dX12_fair_210 : decode cX12_fair 210 = .ok (.iload_n 2, 1) := by decide +kernel
theorem dX12_fair_211 : decode cX12_fair 211 = .ok (.iconst (-1), 1) := by decide +kernel
theorem dX12_fair_212 : decode cX12_fair 212 = .ok (.if_icmp .eq 10, 3) := by decide +kernel
theorem dX12_fair_215 : decode cX12_fair 215 = .ok (.aload_n 0, 1) := by decide +kernel
theorem dX12_fair_216 : decode cX12_fair 216 = .ok (.getfield 129, 3) := by decide +kernel
theorem dX12_fair_219 : decode cX12_fair 219 = .ok (.iload_n 2, 1) := by decide +kernel
theorem dX12_fair_220 : decode cX12_fair 220 = .ok (.iaload, 1) := by decide +kernel
theorem dX12_fair_221 : decode cX12_fair 221 = .ok (.ireturn, 1) := by decide +kernel
theorem dX12_fair_222 : decode cX12_fair 222 = .ok (.iconst (-1), 1) := by decide +kernel
theorem dX12_fair_223 : decode cX12_fair 223 = .ok (.istore_n 3, 1) := by decide +kernel
theorem dX12_fair_224 : decode cX12_fair 224 = .ok (.iconst (-1), 1) := by decide +kernel
theorem dX12_fair_225 : decode cX12_fair 225 = .ok (.istore 4, 2) := by decide +kernel
theorem dX12_fair_227 : decode cX12_fair 227 = .ok (.iconst 0, 1) := by decide +kernel
theorem dX12_fair_228 : decode cX12_fair 228 = .ok (.istore 5, 2) := by decide +kernel
theorem dX12_fair_230 : decode cX12_fair 230 = .ok (.iload 5, 2) := by decide +kernel
theorem dX12_fair_232 : decode cX12_fair 232 = .ok (.aload_n 0, 1) := by decide +kernel
theorem dX12_fair_233 : decode cX12_fair 233 = .ok (.getfield 341, 3) := by decide +kernel
theorem dX12_fair_236 : decode cX12_fair 236 = .ok (.if_icmp .ge 63, 3) := by decide +kernel
theorem dX12_fair_239 : decode cX12_fair 239 = .ok (.aload_n 0, 1) := by decide +kernel
theorem dX12_fair_240 : decode cX12_fair 240 = .ok (.iload 5, 2) := by decide +kernel
theorem dX12_fair_242 : decode cX12_fair 242 = .ok (.invokevirtual 373, 3) := by decide +kernel
theorem dX12_fair_245 : decode cX12_fair 245 = .ok (.ifCond .eq 6, 3) := by decide +kernel
theorem dX12_fair_248 : decode cX12_fair 248 = .ok (.goto 45, 3) := by decide +kernel
theorem dX12_fair_251 : decode cX12_fair 251 = .ok (.iload_n 3, 1) := by decide +kernel
theorem dX12_fair_252 : decode cX12_fair 252 = .ok (.aload_n 0, 1) := by decide +kernel
theorem dX12_fair_253 : decode cX12_fair 253 = .ok (.getfield 129, 3) := by decide +kernel
theorem dX12_fair_256 : decode cX12_fair 256 = .ok (.iload 5, 2) := by decide +kernel
theorem dX12_fair_258 : decode cX12_fair 258 = .ok (.iaload, 1) := by decide +kernel
theorem dX12_fair_259 : decode cX12_fair 259 = .ok (.invokestatic 391, 3) := by decide +kernel
theorem dX12_fair_262 : decode cX12_fair 262 = .ok (.istore_n 3, 1) := by decide +kernel
theorem dX12_fair_263 : decode cX12_fair 263 = .ok (.iload 4, 2) := by decide +kernel
theorem dX12_fair_265 : decode cX12_fair 265 = .ok (.iconst (-1), 1) := by decide +kernel
theorem dX12_fair_266 : decode cX12_fair 266 = .ok (.if_icmp .ne 13, 3) := by decide +kernel
theorem dX12_fair_269 : decode cX12_fair 269 = .ok (.aload_n 0, 1) := by decide +kernel
theorem dX12_fair_270 : decode cX12_fair 270 = .ok (.getfield 129, 3) := by decide +kernel
theorem dX12_fair_273 : decode cX12_fair 273 = .ok (.iload 5, 2) := by decide +kernel
theorem dX12_fair_275 : decode cX12_fair 275 = .ok (.iaload, 1) := by decide +kernel
theorem dX12_fair_276 : decode cX12_fair 276 = .ok (.goto 15, 3) := by decide +kernel
theorem dX12_fair_279 : decode cX12_fair 279 = .ok (.iload 4, 2) := by decide +kernel
theorem dX12_fair_281 : decode cX12_fair 281 = .ok (.aload_n 0, 1) := by decide +kernel
theorem dX12_fair_282 : decode cX12_fair 282 = .ok (.getfield 129, 3) := by decide +kernel
theorem dX12_fair_285 : decode cX12_fair 285 = .ok (.iload 5, 2) := by decide +kernel
theorem dX12_fair_287 : decode cX12_fair 287 = .ok (.iaload, 1) := by decide +kernel
theorem dX12_fair_288 : decode cX12_fair 288 = .ok (.invokestatic 196, 3) := by decide +kernel
theorem dX12_fair_291 : decode cX12_fair 291 = .ok (.istore 4, 2) := by decide +kernel
theorem dX12_fair_293 : decode cX12_fair 293 = .ok (.iinc 5 1, 3) := by decide +kernel
theorem dX12_fair_296 : decode cX12_fair 296 = .ok (.goto (-66), 3) := by decide +kernel
theorem dX12_fair_299 : decode cX12_fair 299 = .ok (.iload_n 3, 1) := by decide +kernel
theorem dX12_fair_300 : decode cX12_fair 300 = .ok (.iload 4, 2) := by decide +kernel
theorem dX12_fair_302 : decode cX12_fair 302 = .ok (.isub, 1) := by decide +kernel
theorem dX12_fair_303 : decode cX12_fair 303 = .ok (.ireturn, 1) := by decide +kernel
theorem dX12_see_0 : decode cX12_see 0 = .ok (.aload_n 0, 1) := by decide +kernel
theorem dX12_see_1 : decode cX12_see 1 = .ok (.iconst 0, 1) := by decide +kernel
theorem dX12_see_2 : decode cX12_see 2 = .ok (.putfield 159, 3) := by decide +kernel
theorem dX12_see_5 : decode cX12_see 5 = .ok (.aload_n 0, 1) := by decide +kernel
theorem dX12_see_6 : decode cX12_see 6 = .ok (.iload_n 1, 1) := by decide +kernel
theorem dX12_see_7 : decode cX12_see 7 = .ok (.invokevirtual 420, 3) := by decide +kernel
theorem dX12_see_10 : decode cX12_see 10 = .ok (.ifCond .ne 9, 3) := by decide +kernel
theorem dX12_see_13 : decode cX12_see 13 = .ok (.aload_n 0, 1) := by decide +kernel
theorem dX12_see_14 : decode cX12_see 14 = .ok (.iconst 1, 1) := by decide +kernel
theorem dX12_see_15 : decode cX12_see 15 = .ok (.invokevirtual 302, 3) := by decide +kernel
theorem dX12_see_18 : decode cX12_see 18 = .ok (.ireturn, 1) := by decide +kernel
theorem dX12_see_19 : decode cX12_see 19 = .ok (.aload_n 0, 1) := by decide +kernel
theorem dX12_see_20 : decode cX12_see 20 = .ok (.getfield 327, 3) := by decide +kernel
theorem dX12_see_23 : decode cX12_see 23 = .ok (.bipush 8, 2) := by decide +kernel
theorem dX12_see_25 : decode cX12_see 25 = .ok (.if_icmp .eq 35, 3) := by decide +kernel
theorem dX12_see_28 : decode cX12_see 28 = .ok (.aload_n 0, 1) := by decide +kernel
theorem dX12_see_29 : decode cX12_see 29 = .ok (.getfield 42, 3) := by decide +kernel
theorem dX12_see_32 : decode cX12_see 32 = .ok (.iload_n 1, 1) := by decide +kernel
theorem dX12_see_33 : decode cX12_see 33 = .ok (.iaload, 1) := by decide +kernel
theorem dX12_see_34 : decode cX12_see 34 = .ok (.iconst 3, 1) := by decide +kernel
theorem dX12_see_35 : decode cX12_see 35 = .ok (.if_icmp .eq 25, 3) := by decide +kernel
theorem dX12_see_38 : decode cX12_see 38 = .ok (.iload_n 2, 1) := by decide +kernel
theorem dX12_see_39 : decode cX12_see 39 = .ok (.i2l, 1) := by decide +kernel
theorem dX12_see_40 : decode cX12_see 40 = .ok (.lconst 0, 1) := by decide +kernel
theorem dX12_see_41 : decode cX12_see 41 = .ok (.ldc2_w 437, 3) := by decide +kernel
theorem dX12_see_44 : decode cX12_see 44 = .ok (.invokestatic 162, 3) := by decide +kernel
theorem dX12_see_47 : decode cX12_see 47 = .ok (.ifCond .eq 13, 3) := by decide +kernel
theorem dX12_see_50 : decode cX12_see 50 = .ok (.iload_n 3, 1) := by decide +kernel
theorem dX12_see_51 : decode cX12_see 51 = .ok (.i2l, 1) := by decide +kernel
theorem dX12_see_52 : decode cX12_see 52 = .ok (.lconst 0, 1) := by decide +kernel
theorem dX12_see_53 : decode cX12_see 53 = .ok (.lconst 1, 1) := by decide +kernel
theorem dX12_see_54 : decode cX12_see 54 = .ok (.invokestatic 162, 3) := by decide +kernel
theorem dX12_see_57 : decode cX12_see 57 = .ok (.ifCond .ne 9, 3) := by decide +kernel
theorem dX12_see_60 : decode cX12_see 60 = .ok (.aload_n 0, 1) := by decide +kernel
theorem dX12_see_61 : decode cX12_see 61 = .ok (.iconst 2, 1) := by decide +kernel
theorem dX12_see_62 : decode cX12_see 62 = .ok (.invokevirtual 430, 3) := by decide +kernel
theorem dX12_see_65 : decode cX12_see 65 = .ok (.ireturn, 1) := by decide +kernel
theorem dX12_see_66 : decode cX12_see 66 = .ok (.aload_n 0, 1) := by decide +kernel
theorem dX12_see_67 : decode cX12_see 67 = .ok (.getfield 132, 3) := by decide +kernel
theorem dX12_see_70 : decode cX12_see 70 = .ok (.aload_n 0, 1) := by decide +kernel
theorem dX12_see_71 : decode cX12_see 71 = .ok (.getfield 327, 3) := by decide +kernel
theorem dX12_see_74 : decode cX12_see 74 = .ok (.iload_n 1, 1) := by decide +kernel
theorem dX12_see_75 : decode cX12_see 75 = .ok (.iastore, 1) := by decide +kernel
theorem dX12_see_76 : decode cX12_see 76 = .ok (.aload_n 0, 1) := by decide +kernel
theorem dX12_see_77 : decode cX12_see 77 = .ok (.getfield 135, 3) := by decide +kernel
theorem dX12_see_80 : decode cX12_see 80 = .ok (.aload_n 0, 1) := by decide +kernel
theorem dX12_see_81 : decode cX12_see 81 = .ok (.getfield 327, 3) := by decide +kernel
theorem dX12_see_84 : decode cX12_see 84 = .ok (.iload_n 2, 1) := by decide +kernel
theorem dX12_see_85 : decode cX12_see 85 = .ok (.iastore, 1) := by decide +kernel
theorem dX12_see_86 : decode cX12_see 86 = .ok (.aload_n 0, 1) := by decide +kernel
theorem dX12_see_87 : decode cX12_see 87 = .ok (.getfield 138, 3) := by decide +kernel
theorem dX12_see_90 : decode cX12_see 90 = .ok (.aload_n 0, 1) := by decide +kernel
theorem dX12_see_91 : decode cX12_see 91 = .ok (.getfield 327, 3) := by decide +kernel
theorem dX12_see_94 : decode cX12_see 94 = .ok (.iload_n 3, 1) := by decide +kernel
theorem dX12_see_95 : decode cX12_see 95 = .ok (.iastore, 1) := by decide +kernel
theorem dX12_see_96 : decode cX12_see 96 = .ok (.aload_n 0, 1) := by decide +kernel
theorem dX12_see_97 : decode cX12_see 97 = .ok (.dup, 1) := by decide +kernel
theorem dX12_see_98 : decode cX12_see 98 = .ok (.getfield 327, 3) := by decide +kernel
theorem dX12_see_101 : decode cX12_see 101 = .ok (.iconst 1, 1) := by decide +kernel
theorem dX12_see_102 : decode cX12_see 102 = .ok (.iadd, 1) := by decide +kernel
theorem dX12_see_103 : decode cX12_see 103 = .ok (.putfield 327, 3) := by decide +kernel
theorem dX12_see_106 : decode cX12_see 106 = .ok (.aload_n 0, 1) := by decide +kernel
theorem dX12_see_107 : decode cX12_see 107 = .ok (.getfield 327, 3) := by decide +kernel
theorem dX12_see_110 : decode cX12_see 110 = .ok (.ireturn, 1) := by decide +kernel
theorem dX12_forget_0 : decode cX12_forget 0 = .ok (.aload_n 0, 1) := by decide +kernel
theorem dX12_forget_1 : decode cX12_forget 1 = .ok (.iconst 0, 1) := by decide +kernel
theorem dX12_forget_2 : decode cX12_forget 2 = .ok (.putfield 159, 3) := by decide +kernel
theorem dX12_forget_5 : decode cX12_forget 5 = .ok (.aload_n 0, 1) := by decide +kernel
theorem dX12_forget_6 : decode cX12_forget 6 = .ok (.getfield 327, 3) := by decide +kernel
theorem dX12_forget_9 : decode cX12_forget 9 = .ok (.ifCond .ne 5, 3) := by decide +kernel
theorem dX12_forget_12 : decode cX12_forget 12 = .ok (.iconst (-1), 1) := by decide +kernel
theorem dX12_forget_13 : decode cX12_forget 13 = .ok (.ireturn, 1) := by decide +kernel
theorem dX12_forget_14 : decode cX12_forget 14 = .ok (.aload_n 0, 1) := by decide +kernel
theorem dX12_forget_15 : decode cX12_forget 15 = .ok (.dup, 1) := by decide +kernel
theorem dX12_forget_16 : decode cX12_forget 16 = .ok (.getfield 327, 3) := by decide +kernel
theorem dX12_forget_19 : decode cX12_forget 19 = .ok (.iconst 1, 1) := by decide +kernel
theorem dX12_forget_20 : decode cX12_forget 20 = .ok (.isub, 1) := by decide +kernel
theorem dX12_forget_21 : decode cX12_forget 21 = .ok (.putfield 327, 3) := by decide +kernel
theorem dX12_forget_24 : decode cX12_forget 24 = .ok (.aload_n 0, 1) := by decide +kernel
theorem dX12_forget_25 : decode cX12_forget 25 = .ok (.getfield 327, 3) := by decide +kernel
theorem dX12_forget_28 : decode cX12_forget 28 = .ok (.ireturn, 1) := by decide +kernel
theorem dX12_isAsSeen_0 : decode cX12_isAsSeen 0 = .ok (.iconst 0, 1) := by decide +kernel
theorem dX12_isAsSeen_1 : decode cX12_isAsSeen 1 = .ok (.istore_n 2, 1) := by decide +kernel
theorem dX12_isAsSeen_2 : decode cX12_isAsSeen 2 = .ok (.iload_n 2, 1) := by decide +kernel
theorem dX12_isAsSeen_3 : decode cX12_isAsSeen 3 = .ok (.aload_n 0, 1) := by decide +kernel
theorem dX12_isAsSeen_4 : decode cX12_isAsSeen 4 = .ok (.getfield 327, 3) := by decide +kernel
theorem dX12_isAsSeen_7 : decode cX12_isAsSeen 7 = .ok (.if_icmp .ge 51, 3) := by decide +kernel
theorem dX12_isAsSeen_10 : decode cX12_isAsSeen 10 = .ok (.aload_n 0, 1) := by decide +kernel
theorem dX12_isAsSeen_11 : decode cX12_isAsSeen 11 = .ok (.iload_n 1, 1) := by decide +kernel
theorem dX12_isAsSeen_12 : decode cX12_isAsSeen 12 = .ok (.aload_n 0, 1) := by decide +kernel
theorem dX12_isAsSeen_13 : decode cX12_isAsSeen 13 = .ok (.getfield 135, 3) := by decide +kernel
theorem dX12_isAsSeen_16 : decode cX12_isAsSeen 16 = .ok (.iload_n 2, 1) := by decide +kernel
theorem dX12_isAsSeen_17 : decode cX12_isAsSeen 17 = .ok (.iaload, 1) := by decide +kernel
theorem dX12_isAsSeen_18 : decode cX12_isAsSeen 18 = .ok (.aload_n 0, 1) := by decide +kernel
theorem dX12_isAsSeen_19 : decode cX12_isAsSeen 19 = .ok (.getfield 38, 3) := by decide +kernel
theorem dX12_isAsSeen_22 : decode cX12_isAsSeen 22 = .ok (.iconst 3, 1) := by decide +kernel
theorem dX12_isAsSeen_23 : decode cX12_isAsSeen 23 = .ok (.iaload, 1) := by decide +kernel
theorem dX12_isAsSeen_24 : decode cX12_isAsSeen 24 = .ok (.invokestatic 196, 3) := by decide +kernel
theorem dX12_isAsSeen_27 : decode cX12_isAsSeen 27 = .ok (.invokevirtual 416, 3) := by decide +kernel
theorem dX12_isAsSeen_30 : decode cX12_isAsSeen 30 = .ok (.aload_n 0, 1) := by decide +kernel
theorem dX12_isAsSeen_31 : decode cX12_isAsSeen 31 = .ok (.getfield 96, 3) := by decide +kernel
theorem dX12_isAsSeen_34 : decode cX12_isAsSeen 34 = .ok (.aload_n 0, 1) := by decide +kernel
theorem dX12_isAsSeen_35 : decode cX12_isAsSeen 35 = .ok (.getfield 132, 3) := by decide +kernel
theorem dX12_isAsSeen_38 : decode cX12_isAsSeen 38 = .ok (.iload_n 2, 1) := by decide +kernel
theorem dX12_isAsSeen_39 : decode cX12_isAsSeen 39 = .ok (.iaload, 1) := by decide +kernel
theorem dX12_isAsSeen_40 : decode cX12_isAsSeen 40 = .ok (.iaload, 1) := by decide +kernel
theorem dX12_isAsSeen_41 : decode cX12_isAsSeen 41 = .ok (.aload_n 0, 1) := by decide +kernel
theorem dX12_isAsSeen_42 : decode cX12_isAsSeen 42 = .ok (.getfield 138, 3) := by decide +kernel
theorem dX12_isAsSeen_45 : decode cX12_isAsSeen 45 = .ok (.iload_n 2, 1) := by decide +kernel
theorem dX12_isAsSeen_46 : decode cX12_isAsSeen 46 = .ok (.iaload, 1) := by decide +kernel
theorem dX12_isAsSeen_47 : decode cX12_isAsSeen 47 = .ok (.if_icmp .eq 5, 3) := by decide +kernel
theorem dX12_isAsSeen_50 : decode cX12_isAsSeen 50 = .ok (.iconst 0, 1) := by decide +kernel
theorem dX12_isAsSeen_51 : decode cX12_isAsSeen 51 = .ok (.ireturn, 1) := by decide +kernel
theorem dX12_isAsSeen_52 : decode cX12_isAsSeen 52 = .ok (.iinc 2 1, 3) := by decide +kernel
theorem dX12_isAsSeen_55 : decode cX12_isAsSeen 55 = .ok (.goto (-53), 3) := by decide +kernel
theorem dX12_isAsSeen_58 : decode cX12_isAsSeen 58 = .ok (.iconst 1, 1) := by decide +kernel
theorem dX12_isAsSeen_59 : decode cX12_isAsSeen 59 = .ok (.ireturn, 1) := by decide +kernel
theorem dX12_fits_0 : decode cX12_fits 0 = .ok (.aload_n 0, 1) := by decide +kernel
theorem dX12_fits_1 : decode cX12_fits 1 = .ok (.iconst 0, 1) := by decide +kernel
theorem dX12_fits_2 : decode cX12_fits 2 = .ok (.putfield 159, 3) := by decide +kernel
theorem dX12_fits_5 : decode cX12_fits 5 = .ok (.iload_n 1, 1) := by decide +kernel
theorem dX12_fits_6 : decode cX12_fits 6 = .ok (.ifCond .lt 8, 3) := by decide +kernel
theorem dX12_fits_9 : decode cX12_fits 9 = .ok (.iload_n 1, 1) := by decide +kernel
theorem dX12_fits_10 : decode cX12_fits 10 = .ok (.iconst 1, 1) := by decide +kernel
theorem dX12_fits_11 : decode cX12_fits 11 = .ok (.if_icmp .le 9, 3) := by decide +kernel
theorem dX12_fits_14 : decode cX12_fits 14 = .ok (.aload_n 0, 1) := by decide +kernel
theorem dX12_fits_15 : decode cX12_fits 15 = .ok (.iconst 1, 1) := by decide +kernel
theorem dX12_fits_16 : decode cX12_fits 16 = .ok (.invokevirtual 302, 3) := by decide +kernel
theorem dX12_fits_19 : decode cX12_fits 19 = .ok (.ireturn, 1) := by decide +kernel
theorem dX12_fits_20 : decode cX12_fits 20 = .ok (.aload_n 0, 1) := by decide +kernel
theorem dX12_fits_21 : decode cX12_fits 21 = .ok (.invokevirtual 413, 3) := by decide +kernel
theorem dX12_fits_24 : decode cX12_fits 24 = .ok (.iconst 0, 1) := by decide +kernel
theorem dX12_fits_25 : decode cX12_fits 25 = .ok (.istore_n 2, 1) := by decide +kernel
theorem dX12_fits_26 : decode cX12_fits 26 = .ok (.iconst (-1), 1) := by decide +kernel
theorem dX12_fits_27 : decode cX12_fits 27 = .ok (.istore_n 3, 1) := by decide +kernel
theorem dX12_fits_28 : decode cX12_fits 28 = .ok (.iconst 0, 1) := by decide +kernel
theorem dX12_fits_29 : decode cX12_fits 29 = .ok (.istore 4, 2) := by decide +kernel
theorem dX12_fits_31 : decode cX12_fits 31 = .ok (.iload 4, 2) := by decide +kernel
theorem dX12_fits_33 : decode cX12_fits 33 = .ok (.iconst 2, 1) := by decide +kernel
theorem dX12_fits_34 : decode cX12_fits 34 = .ok (.if_icmp .ge 100, 3) := by decide +kernel
theorem dX12_fits_37 : decode cX12_fits 37 = .ok (.iconst 0, 1) := by decide +kernel
theorem dX12_fits_38 : decode cX12_fits 38 = .ok (.istore 5, 2) := by decide +kernel
theorem dX12_fits_40 : decode cX12_fits 40 = .ok (.iload 5, 2) := by decide +kernel
theorem dX12_fits_42 : decode cX12_fits 42 = .ok (.bipush 60, 2) := by decide +kernel
theorem dX12_fits_44 : decode cX12_fits 44 = .ok (.if_icmp .gt 84, 3) := by decide +kernel
theorem dX12_fits_47 : decode cX12_fits 47 = .ok (.aload_n 0, 1) := by decide +kernel
theorem dX12_fits_48 : decode cX12_fits 48 = .ok (.iload 5, 2) := by decide +kernel
theorem dX12_fits_50 : decode cX12_fits 50 = .ok (.ifCond .eq 10, 3) := by decide +kernel
theorem dX12_fits_53 : decode cX12_fits 53 = .ok (.aload_n 0, 1) := by decide +kernel
theorem dX12_fits_54 : decode cX12_fits 54 = .ok (.getfield 341, 3) := by decide +kernel
theorem dX12_fits_57 : decode cX12_fits 57 = .ok (.ifCond .ne 7, 3) := by decide +kernel
theorem dX12_fits_60 : decode cX12_fits 60 = .ok (.iconst (-1), 1) := by decide +kernel
theorem dX12_fits_61 : decode cX12_fits 61 = .ok (.goto 19, 3) := by decide +kernel
theorem dX12_fits_64 : decode cX12_fits 64 = .ok (.aload_n 0, 1) := by decide +kernel
theorem dX12_fits_65 : decode cX12_fits 65 = .ok (.getfield 81, 3) := by decide +kernel
theorem dX12_fits_68 : decode cX12_fits 68 = .ok (.iconst (-1), 1) := by decide +kernel
theorem dX12_fits_69 : decode cX12_fits 69 = .ok (.if_icmp .ne 7, 3) := by decide +kernel
theorem dX12_fits_72 : decode cX12_fits 72 = .ok (.iconst 0, 1) := by decide +kernel
theorem dX12_fits_73 : decode cX12_fits 73 = .ok (.goto 7, 3) := by decide +kernel
theorem dX12_fits_76 : decode cX12_fits 76 = .ok (.aload_n 0, 1) := by decide +kernel
theorem dX12_fits_77 : decode cX12_fits 77 = .ok (.getfield 81, 3) := by decide +kernel
theorem dX12_fits_80 : decode cX12_fits 80 = .ok (.putfield 344, 3) := by decide +kernel
theorem dX12_fits_83 : decode cX12_fits 83 = .ok (.aload_n 0, 1) := by decide +kernel
theorem dX12_fits_84 : decode cX12_fits 84 = .ok (.iload 5, 2) := by decide +kernel
theorem dX12_fits_86 : decode cX12_fits 86 = .ok (.putfield 347, 3) := by decide +kernel
theorem dX12_fits_89 : decode cX12_fits 89 = .ok (.aload_n 0, 1) := by decide +kernel
theorem dX12_fits_90 : decode cX12_fits 90 = .ok (.iload 4, 2) := by decide +kernel
theorem dX12_fits_92 : decode cX12_fits 92 = .ok (.invokevirtual 485, 3) := by decide +kernel
theorem dX12_fits_95 : decode cX12_fits 95 = .ok (.ifCond .ne 6, 3) := by decide +kernel
theorem dX12_fits_98 : decode cX12_fits 98 = .ok (.goto 24, 3) := by decide +kernel
theorem dX12_fits_101 : decode cX12_fits 101 = .ok (.iinc 2 1, 3) := by decide +kernel
theorem dX12_fits_104 : decode cX12_fits 104 = .ok (.iload_n 3, 1) := by decide +kernel
theorem dX12_fits_105 : decode cX12_fits 105 = .ok (.iconst (-1), 1) := by decide +kernel
theorem dX12_fits_106 : decode cX12_fits 106 = .ok (.if_icmp .ne 14, 3) := by decide +kernel
theorem dX12_fits_109 : decode cX12_fits 109 = .ok (.bipush 100, 2) := by decide +kernel
theorem dX12_fits_111 : decode cX12_fits 111 = .ok (.iload 4, 2) := by decide +kernel
theorem dX12_fits_113 : decode cX12_fits 113 = .ok (.imul, 1) := by decide +kernel
theorem dX12_fits_114 : decode cX12_fits 114 = .ok (.iload 5, 2) := by decide +kernel
theorem dX12_fits_116 : decode cX12_fits 116 = .ok (.iadd, 1) := by decide +kernel
theorem dX12_fits_117 : decode cX12_fits 117 = .ok (.goto 4, 3) := by decide +kernel
theorem dX12_fits_120 : decode cX12_fits 120 = .ok (.iload_n 3, 1) := by decide +kernel
theorem dX12_fits_121 : decode cX12_fits 121 = .ok (.istore_n 3, 1) := by decide +kernel
theorem dX12_fits_122 : decode cX12_fits 122 = .ok (.iinc 5 1, 3) := by decide +kernel
theorem dX12_fits_125 : decode cX12_fits 125 = .ok (.goto (-85), 3) := by decide +kernel
theorem dX12_fits_128 : decode cX12_fits 128 = .ok (.iinc 4 1, 3) := by decide +kernel
theorem dX12_fits_131 : decode cX12_fits 131 = .ok (.goto (-100), 3) := by decide +kernel
theorem dX12_fits_134 : decode cX12_fits 134 = .ok (.iload_n 1, 1) := by decide +kernel
theorem dX12_fits_135 : decode cX12_fits 135 = .ok (.ifCond .ne 7, 3) := by decide +kernel
theorem dX12_fits_138 : decode cX12_fits 138 = .ok (.iload_n 2, 1) := by decide +kernel
theorem dX12_fits_139 : decode cX12_fits 139 = .ok (.goto 4, 3) := by decide +kernel
theorem dX12_fits_142 : decode cX12_fits 142 = .ok (.iload_n 3, 1) := by decide +kernel
theorem dX12_fits_143 : decode cX12_fits 143 = .ok (.ireturn, 1) := by decide +kernel
theorem dX12_without_0 : decode cX12_without 0 = .ok (.aload_n 0, 1) := by decide +kernel
theorem dX12_without_1 : decode cX12_without 1 = .ok (.iconst 0, 1) := by decide +kernel
theorem dX12_without_2 : decode cX12_without 2 = .ok (.putfield 159, 3) := by decide +kernel
theorem dX12_without_5 : decode cX12_without 5 = .ok (.aload_n 0, 1) := by decide +kernel
theorem dX12_without_6 : decode cX12_without 6 = .ok (.iload_n 1, 1) := by decide +kernel
theorem dX12_without_7 : decode cX12_without 7 = .ok (.invokevirtual 420, 3) := by decide +kernel
theorem dX12_without_10 : decode cX12_without 10 = .ok (.ifCond .ne 9, 3) := by decide +kernel
theorem dX12_without_13 : decode cX12_without 13 = .ok (.aload_n 0, 1) := by decide +kernel
theorem dX12_without_14 : decode cX12_without 14 = .ok (.iconst 1, 1) := by decide +kernel
theorem dX12_without_15 : decode cX12_without 15 = .ok (.invokevirtual 302, 3) := by decide +kernel
theorem dX12_without_18 : decode cX12_without 18 = .ok (.ireturn, 1) := by decide +kernel
theorem dX12_without_19 : decode cX12_without 19 = .ok (.aload_n 0, 1) := by decide +kernel
theorem dX12_without_20 : decode cX12_without 20 = .ok (.invokevirtual 444, 3) := by decide +kernel
theorem dX12_without_23 : decode cX12_without 23 = .ok (.aload_n 0, 1) := by decide +kernel
theorem dX12_without_24 : decode cX12_without 24 = .ok (.invokevirtual 447, 3) := by decide +kernel
theorem dX12_without_27 : decode cX12_without 27 = .ok (.aload_n 0, 1) := by decide +kernel
theorem dX12_without_28 : decode cX12_without 28 = .ok (.getfield 105, 3) := by decide +kernel
theorem dX12_without_31 : decode cX12_without 31 = .ok (.iload_n 1, 1) := by decide +kernel
theorem dX12_without_32 : decode cX12_without 32 = .ok (.iaload, 1) := by decide +kernel
theorem dX12_without_33 : decode cX12_without 33 = .ok (.isub, 1) := by decide +kernel
theorem dX12_without_34 : decode cX12_without 34 = .ok (.istore_n 2, 1) := by decide +kernel
theorem dX12_without_35 : decode cX12_without 35 = .ok (.aload_n 0, 1) := by decide +kernel
theorem dX12_without_36 : decode cX12_without 36 = .ok (.invokevirtual 413, 3) := by decide +kernel
theorem dX12_without_39 : decode cX12_without 39 = .ok (.aload_n 0, 1) := by decide +kernel
theorem dX12_without_40 : decode cX12_without 40 = .ok (.iload_n 1, 1) := by decide +kernel
theorem dX12_without_41 : decode cX12_without 41 = .ok (.invokevirtual 394, 3) := by decide +kernel
theorem dX12_without_44 : decode cX12_without 44 = .ok (.istore_n 3, 1) := by decide +kernel
theorem dX12_without_45 : decode cX12_without 45 = .ok (.aload_n 0, 1) := by decide +kernel
theorem dX12_without_46 : decode cX12_without 46 = .ok (.dup, 1) := by decide +kernel
theorem dX12_without_47 : decode cX12_without 47 = .ok (.getfield 341, 3) := by decide +kernel
theorem dX12_without_50 : decode cX12_without 50 = .ok (.iconst 1, 1) := by decide +kernel
theorem dX12_without_51 : decode cX12_without 51 = .ok (.isub, 1) := by decide +kernel
theorem dX12_without_52 : decode cX12_without 52 = .ok (.putfield 341, 3) := by decide +kernel
theorem dX12_without_55 : decode cX12_without 55 = .ok (.iload_n 3, 1) := by decide +kernel
theorem dX12_without_56 : decode cX12_without 56 = .ok (.istore 4, 2) := by decide +kernel
theorem dX12_without_58 : decode cX12_without 58 = .ok (.iload 4, 2) := by decide +kernel
theorem dX12_without_60 : decode cX12_without 60 = .ok (.aload_n 0, 1) := by decide +kernel
theorem dX12_without_61 : decode cX12_without 61 = .ok (.getfield 341, 3) := by decide +kernel
theorem dX12_without_64 : decode cX12_without 64 = .ok (.if_icmp .ge 25, 3) := by decide +kernel
theorem dX12_without_67 : decode cX12_without 67 = .ok (.aload_n 0, 1) := by decide +kernel
theorem dX12_without_68 : decode cX12_without 68 = .ok (.getfield 90, 3) := by decide +kernel
theorem dX12_without_71 : decode cX12_without 71 = .ok (.iload 4, 2) := by decide +kernel
theorem dX12_without_73 : decode cX12_without 73 = .ok (.aload_n 0, 1) := by decide +kernel
theorem dX12_without_74 : decode cX12_without 74 = .ok (.getfield 90, 3) := by decide +kernel
theorem dX12_without_77 : decode cX12_without 77 = .ok (.iload 4, 2) := by decide +kernel
theorem dX12_without_79 : decode cX12_without 79 = .ok (.iconst 1, 1) := by decide +kernel
theorem dX12_without_80 : decode cX12_without 80 = .ok (.iadd, 1) := by decide +kernel
theorem dX12_without_81 : decode cX12_without 81 = .ok (.iaload, 1) := by decide +kernel
theorem dX12_without_82 : decode cX12_without 82 = .ok (.iastore, 1) := by decide +kernel
theorem dX12_without_83 : decode cX12_without 83 = .ok (.iinc 4 1, 3) := by decide +kernel
theorem dX12_without_86 : decode cX12_without 86 = .ok (.goto (-28), 3) := by decide +kernel
theorem dX12_without_89 : decode cX12_without 89 = .ok (.aload_n 0, 1) := by decide +kernel
theorem dX12_without_90 : decode cX12_without 90 = .ok (.getfield 344, 3) := by decide +kernel
theorem dX12_without_93 : decode cX12_without 93 = .ok (.iload_n 1, 1) := by decide +kernel
theorem dX12_without_94 : decode cX12_without 94 = .ok (.if_icmp .ne 8, 3) := by decide +kernel
theorem dX12_without_97 : decode cX12_without 97 = .ok (.aload_n 0, 1) := by decide +kernel
theorem dX12_without_98 : decode cX12_without 98 = .ok (.iconst (-1), 1) := by decide +kernel
theorem dX12_without_99 : decode cX12_without 99 = .ok (.putfield 344, 3) := by decide +kernel
theorem dX12_without_102 : decode cX12_without 102 = .ok (.aload_n 0, 1) := by decide +kernel
theorem dX12_without_103 : decode cX12_without 103 = .ok (.invokevirtual 353, 3) := by decide +kernel
theorem dX12_without_106 : decode cX12_without 106 = .ok (.aload_n 0, 1) := by decide +kernel
theorem dX12_without_107 : decode cX12_without 107 = .ok (.aload_n 0, 1) := by decide +kernel
theorem dX12_without_108 : decode cX12_without 108 = .ok (.getfield 315, 3) := by decide +kernel
theorem dX12_without_111 : decode cX12_without 111 = .ok (.aload_n 0, 1) := by decide +kernel
theorem dX12_without_112 : decode cX12_without 112 = .ok (.getfield 38, 3) := by decide +kernel
theorem dX12_without_115 : decode cX12_without 115 = .ok (.iconst 3, 1) := by decide +kernel
theorem dX12_without_116 : decode cX12_without 116 = .ok (.iaload, 1) := by decide +kernel
theorem dX12_without_117 : decode cX12_without 117 = .ok (.invokevirtual 416, 3) := by decide +kernel
theorem dX12_without_120 : decode cX12_without 120 = .ok (.iload_n 2, 1) := by decide +kernel
theorem dX12_without_121 : decode cX12_without 121 = .ok (.aload_n 0, 1) := by decide +kernel
theorem dX12_without_122 : decode cX12_without 122 = .ok (.invokevirtual 447, 3) := by decide +kernel
theorem dX12_without_125 : decode cX12_without 125 = .ok (.isub, 1) := by decide +kernel
theorem dX12_without_126 : decode cX12_without 126 = .ok (.ireturn, 1) := by decide +kernel
theorem dX12_drawOf_0 : decode cX12_drawOf 0 = .ok (.aload_n 0, 1) := by decide +kernel
theorem dX12_drawOf_1 : decode cX12_drawOf 1 = .ok (.aload_n 0, 1) := by decide +kernel
theorem dX12_drawOf_2 : decode cX12_drawOf 2 = .ok (.getfield 488, 3) := by decide +kernel
theorem dX12_drawOf_5 : decode cX12_drawOf 5 = .ok (.ldc_w 491, 3) := by decide +kernel
theorem dX12_drawOf_8 : decode cX12_drawOf 8 = .ok (.imul, 1) := by decide +kernel
theorem dX12_drawOf_9 : decode cX12_drawOf 9 = .ok (.sipush 12345, 3) := by decide +kernel
theorem dX12_drawOf_12 : decode cX12_drawOf 12 = .ok (.iadd, 1) := by decide +kernel
theorem dX12_drawOf_13 : decode cX12_drawOf 13 = .ok (.putfield 488, 3) := by decide +kernel
theorem dX12_drawOf_16 : decode cX12_drawOf 16 = .ok (.aload_n 0, 1) := by decide +kernel
theorem dX12_drawOf_17 : decode cX12_drawOf 17 = .ok (.getfield 488, 3) := by decide +kernel
theorem dX12_drawOf_20 : decode cX12_drawOf 20 = .ok (.bipush 16, 2) := by decide +kernel
theorem dX12_drawOf_22 : decode cX12_drawOf 22 = .ok (.ishr, 1) := by decide +kernel
theorem dX12_drawOf_23 : decode cX12_drawOf 23 = .ok (.sipush 32767, 3) := by decide +kernel
theorem dX12_drawOf_26 : decode cX12_drawOf 26 = .ok (.iand, 1) := by decide +kernel
theorem dX12_drawOf_27 : decode cX12_drawOf 27 = .ok (.iload_n 1, 1) := by decide +kernel
theorem dX12_drawOf_28 : decode cX12_drawOf 28 = .ok (.irem, 1) := by decide +kernel
theorem dX12_drawOf_29 : decode cX12_drawOf 29 = .ok (.ireturn, 1) := by decide +kernel
theorem dX12_year_0 : decode cX12_year 0 = .ok (.aload_n 0, 1) := by decide +kernel
theorem dX12_year_1 : decode cX12_year 1 = .ok (.iconst 0, 1) := by decide +kernel
theorem dX12_year_2 : decode cX12_year 2 = .ok (.putfield 159, 3) := by decide +kernel
theorem dX12_year_5 : decode cX12_year 5 = .ok (.iload_n 3, 1) := by decide +kernel
theorem dX12_year_6 : decode cX12_year 6 = .ok (.i2l, 1) := by decide +kernel
theorem dX12_year_7 : decode cX12_year 7 = .ok (.lconst 0, 1) := by decide +kernel
theorem dX12_year_8 : decode cX12_year 8 = .ok (.ldc2_w 492, 3) := by decide +kernel
theorem dX12_year_11 : decode cX12_year 11 = .ok (.invokestatic 162, 3) := by decide +kernel
theorem dX12_year_14 : decode cX12_year 14 = .ok (.ifCond .ne 9, 3) := by decide +kernel
theorem dX12_year_17 : decode cX12_year 17 = .ok (.aload_n 0, 1) := by decide +kernel
theorem dX12_year_18 : decode cX12_year 18 = .ok (.iconst 1, 1) := by decide +kernel
theorem dX12_year_19 : decode cX12_year 19 = .ok (.invokevirtual 302, 3) := by decide +kernel
theorem dX12_year_22 : decode cX12_year 22 = .ok (.ireturn, 1) := by decide +kernel
theorem dX12_year_23 : decode cX12_year 23 = .ok (.iload_n 2, 1) := by decide +kernel
theorem dX12_year_24 : decode cX12_year 24 = .ok (.i2l, 1) := by decide +kernel
theorem dX12_year_25 : decode cX12_year 25 = .ok (.lconst 0, 1) := by decide +kernel
theorem dX12_year_26 : decode cX12_year 26 = .ok (.ldc2_w 494, 3) := by decide +kernel
theorem dX12_year_29 : decode cX12_year 29 = .ok (.invokestatic 162, 3) := by decide +kernel
theorem dX12_year_32 : decode cX12_year 32 = .ok (.ifCond .ne 9, 3) := by decide +kernel
theorem dX12_year_35 : decode cX12_year 35 = .ok (.aload_n 0, 1) := by decide +kernel
theorem dX12_year_36 : decode cX12_year 36 = .ok (.iconst 2, 1) := by decide +kernel
theorem dX12_year_37 : decode cX12_year 37 = .ok (.invokevirtual 302, 3) := by decide +kernel
theorem dX12_year_40 : decode cX12_year 40 = .ok (.ireturn, 1) := by decide +kernel
theorem dX12_year_41 : decode cX12_year 41 = .ok (.aload_n 0, 1) := by decide +kernel
theorem dX12_year_42 : decode cX12_year 42 = .ok (.invokevirtual 413, 3) := by decide +kernel
theorem dX12_year_45 : decode cX12_year 45 = .ok (.aload_n 0, 1) := by decide +kernel
theorem dX12_year_46 : decode cX12_year 46 = .ok (.iload_n 1, 1) := by decide +kernel
theorem dX12_year_47 : decode cX12_year 47 = .ok (.putfield 488, 3) := by decide +kernel
theorem dX12_year_50 : decode cX12_year 50 = .ok (.iconst 0, 1) := by decide +kernel
theorem dX12_year_51 : decode cX12_year 51 = .ok (.istore 4, 2) := by decide +kernel
theorem dX12_year_53 : decode cX12_year 53 = .ok (.iconst 0, 1) := by decide +kernel
theorem dX12_year_54 : decode cX12_year 54 = .ok (.istore 5, 2) := by decide +kernel
theorem dX12_year_56 : decode cX12_year 56 = .ok (.iconst 0, 1) := by decide +kernel
theorem dX12_year_57 : decode cX12_year 57 = .ok (.istore 6, 2) := by decide +kernel
theorem dX12_year_59 : decode cX12_year 59 = .ok (.iconst 0, 1) := by decide +kernel
theorem dX12_year_60 : decode cX12_year 60 = .ok (.istore 7, 2) := by decide +kernel
theorem dX12_year_62 : decode cX12_year 62 = .ok (.iload 7, 2) := by decide +kernel
theorem dX12_year_64 : decode cX12_year 64 = .ok (.iload_n 2, 1) := by decide +kernel
theorem dX12_year_65 : decode cX12_year 65 = .ok (.if_icmp .ge 128, 3) := by decide +kernel
theorem dX12_year_68 : decode cX12_year 68 = .ok (.iconst 0, 1) := by decide +kernel
theorem dX12_year_69 : decode cX12_year 69 = .ok (.istore 8, 2) := by decide +kernel
theorem dX12_year_71 : decode cX12_year 71 = .ok (.iload 8, 2) := by decide +kernel
theorem dX12_year_73 : decode cX12_year 73 = .ok (.aload_n 0, 1) := by decide +kernel
theorem dX12_year_74 : decode cX12_year 74 = .ok (.getfield 341, 3) := by decide +kernel
theorem dX12_year_77 : decode cX12_year 77 = .ok (.if_icmp .ge 59, 3) := by decide +kernel
theorem dX12_year_80 : decode cX12_year 80 = .ok (.aload_n 0, 1) := by decide +kernel
theorem dX12_year_81 : decode cX12_year 81 = .ok (.getfield 93, 3) := by decide +kernel
theorem dX12_year_84 : decode cX12_year 84 = .ok (.iload 8, 2) := by decide +kernel
theorem dX12_year_86 : decode cX12_year 86 = .ok (.aload_n 0, 1) := by decide +kernel
theorem dX12_year_87 : decode cX12_year 87 = .ok (.getfield 42, 3) := by decide +kernel
theorem dX12_year_90 : decode cX12_year 90 = .ok (.iload 8, 2) := by decide +kernel
theorem dX12_year_92 : decode cX12_year 92 = .ok (.iaload, 1) := by decide +kernel
theorem dX12_year_93 : decode cX12_year 93 = .ok (.iconst 3, 1) := by decide +kernel
theorem dX12_year_94 : decode cX12_year 94 = .ok (.if_icmp .eq 19, 3) := by decide +kernel
theorem dX12_year_97 : decode cX12_year 97 = .ok (.aload_n 0, 1) := by decide +kernel
theorem dX12_year_98 : decode cX12_year 98 = .ok (.bipush 10, 2) := by decide +kernel
theorem dX12_year_100 : decode cX12_year 100 = .ok (.invokevirtual 496, 3) := by decide +kernel
theorem dX12_year_103 : decode cX12_year 103 = .ok (.aload_n 0, 1) := by decide +kernel
theorem dX12_year_104 : decode cX12_year 104 = .ok (.getfield 56, 3) := by decide +kernel
theorem dX12_year_107 : decode cX12_year 107 = .ok (.iload 8, 2) := by decide +kernel
theorem dX12_year_109 : decode cX12_year 109 = .ok (.iaload, 1) := by decide +kernel
theorem dX12_year_110 : decode cX12_year 110 = .ok (.if_icmp .lt 7, 3) := by decide +kernel
theorem dX12_year_113 : decode cX12_year 113 = .ok (.iconst 0, 1) := by decide +kernel
theorem dX12_year_114 : decode cX12_year 114 = .ok (.goto 15, 3) := by decide +kernel
theorem dX12_year_117 : decode cX12_year 117 = .ok (.iconst 1, 1) := by decide +kernel
theorem dX12_year_118 : decode cX12_year 118 = .ok (.aload_n 0, 1) := by decide +kernel
theorem dX12_year_119 : decode cX12_year 119 = .ok (.aload_n 0, 1) := by decide +kernel
theorem dX12_year_120 : decode cX12_year 120 = .ok (.getfield 38, 3) := by decide +kernel
theorem dX12_year_123 : decode cX12_year 123 = .ok (.iconst 3, 1) := by decide +kernel
theorem dX12_year_124 : decode cX12_year 124 = .ok (.iaload, 1) := by decide +kernel
theorem dX12_year_125 : decode cX12_year 125 = .ok (.invokevirtual 496, 3) := by decide +kernel
theorem dX12_year_128 : decode cX12_year 128 = .ok (.iadd, 1) := by decide +kernel
theorem dX12_year_129 : decode cX12_year 129 = .ok (.iastore, 1) := by decide +kernel
theorem dX12_year_130 : decode cX12_year 130 = .ok (.iinc 8 1, 3) := by decide +kernel
theorem dX12_year_133 : decode cX12_year 133 = .ok (.goto (-62), 3) := by decide +kernel
theorem dX12_year_136 : decode cX12_year 136 = .ok (.aload_n 0, 1) := by decide +kernel
theorem dX12_year_137 : decode cX12_year 137 = .ok (.aload_n 0, 1) := by decide +kernel
theorem dX12_year_138 : decode cX12_year 138 = .ok (.getfield 315, 3) := by decide +kernel
theorem dX12_year_141 : decode cX12_year 141 = .ok (.aload_n 0, 1) := by decide +kernel
theorem dX12_year_142 : decode cX12_year 142 = .ok (.getfield 38, 3) := by decide +kernel
theorem dX12_year_145 : decode cX12_year 145 = .ok (.iconst 3, 1) := by decide +kernel
theorem dX12_year_146 : decode cX12_year 146 = .ok (.iaload, 1) := by decide +kernel
theorem dX12_year_147 : decode cX12_year 147 = .ok (.invokevirtual 416, 3) := by decide +kernel
theorem dX12_year_150 : decode cX12_year 150 = .ok (.aload_n 0, 1) := by decide +kernel
theorem dX12_year_151 : decode cX12_year 151 = .ok (.invokevirtual 447, 3) := by decide +kernel
theorem dX12_year_154 : decode cX12_year 154 = .ok (.istore 8, 2) := by decide +kernel
theorem dX12_year_156 : decode cX12_year 156 = .ok (.iload 4, 2) := by decide +kernel
theorem dX12_year_158 : decode cX12_year 158 = .ok (.iload 8, 2) := by decide +kernel
theorem dX12_year_160 : decode cX12_year 160 = .ok (.iadd, 1) := by decide +kernel
theorem dX12_year_161 : decode cX12_year 161 = .ok (.istore 4, 2) := by decide +kernel
theorem dX12_year_163 : decode cX12_year 163 = .ok (.iload 5, 2) := by decide +kernel
theorem dX12_year_165 : decode cX12_year 165 = .ok (.iload 8, 2) := by decide +kernel
theorem dX12_year_167 : decode cX12_year 167 = .ok (.invokestatic 391, 3) := by decide +kernel
theorem dX12_year_170 : decode cX12_year 170 = .ok (.istore 5, 2) := by decide +kernel
theorem dX12_year_172 : decode cX12_year 172 = .ok (.iload 6, 2) := by decide +kernel
theorem dX12_year_174 : decode cX12_year 174 = .ok (.iload 8, 2) := by decide +kernel
theorem dX12_year_176 : decode cX12_year 176 = .ok (.ifCond .ne 7, 3) := by decide +kernel
theorem dX12_year_179 : decode cX12_year 179 = .ok (.iconst 1, 1) := by decide +kernel
theorem dX12_year_180 : decode cX12_year 180 = .ok (.goto 4, 3) := by decide +kernel
theorem dX12_year_183 : decode cX12_year 183 = .ok (.iconst 0, 1) := by decide +kernel
theorem dX12_year_184 : decode cX12_year 184 = .ok (.iadd, 1) := by decide +kernel
theorem dX12_year_185 : decode cX12_year 185 = .ok (.istore 6, 2) := by decide +kernel
theorem dX12_year_187 : decode cX12_year 187 = .ok (.iinc 7 1, 3) := by decide +kernel
theorem dX12_year_190 : decode cX12_year 190 = .ok (.goto (-128), 3) := by decide +kernel
theorem dX12_year_193 : decode cX12_year 193 = .ok (.iload_n 3, 1) := by decide +kernel
theorem dX12_year_194 : decode cX12_year 194 = .ok (.ifCond .ne 8, 3) := by decide +kernel
theorem dX12_year_197 : decode cX12_year 197 = .ok (.iload 4, 2) := by decide +kernel
theorem dX12_year_199 : decode cX12_year 199 = .ok (.goto 15, 3) := by decide +kernel
theorem dX12_year_202 : decode cX12_year 202 = .ok (.iload_n 3, 1) := by decide +kernel
theorem dX12_year_203 : decode cX12_year 203 = .ok (.iconst 1, 1) := by decide +kernel
theorem dX12_year_204 : decode cX12_year 204 = .ok (.if_icmp .ne 8, 3) := by decide +kernel
theorem dX12_year_207 : decode cX12_year 207 = .ok (.iload 5, 2) := by decide +kernel
theorem dX12_year_209 : decode cX12_year 209 = .ok (.goto 5, 3) := by decide +kernel
theorem dX12_year_212 : decode cX12_year 212 = .ok (.iload 6, 2) := by decide +kernel
theorem dX12_year_214 : decode cX12_year 214 = .ok (.ireturn, 1) := by decide +kernel
theorem dX12_be_0 : decode cX12_be 0 = .ok (.iconst 0, 1) := by decide +kernel
theorem dX12_be_1 : decode cX12_be 1 = .ok (.istore_n 2, 1) := by decide +kernel
theorem dX12_be_2 : decode cX12_be 2 = .ok (.iload_n 2, 1) := by decide +kernel
theorem dX12_be_3 : decode cX12_be 3 = .ok (.aload_n 0, 1) := by decide +kernel
theorem dX12_be_4 : decode cX12_be 4 = .ok (.arraylength, 1) := by decide +kernel
theorem dX12_be_5 : decode cX12_be 5 = .ok (.if_icmp .ge 15, 3) := by decide +kernel
theorem dX12_be_8 : decode cX12_be 8 = .ok (.aload_n 0, 1) := by decide +kernel
theorem dX12_be_9 : decode cX12_be 9 = .ok (.iload_n 2, 1) := by decide +kernel
theorem dX12_be_10 : decode cX12_be 10 = .ok (.aload_n 1, 1) := by decide +kernel
theorem dX12_be_11 : decode cX12_be 11 = .ok (.iload_n 2, 1) := by decide +kernel
theorem dX12_be_12 : decode cX12_be 12 = .ok (.iaload, 1) := by decide +kernel
theorem dX12_be_13 : decode cX12_be 13 = .ok (.iastore, 1) := by decide +kernel
theorem dX12_be_14 : decode cX12_be 14 = .ok (.iinc 2 1, 3) := by decide +kernel
theorem dX12_be_17 : decode cX12_be 17 = .ok (.goto (-15), 3) := by decide +kernel
theorem dX12_be_20 : decode cX12_be 20 = .ok (.return_, 1) := by decide +kernel
theorem dX12_image_0 : decode cX12_image 0 = .ok (.aload_n 0, 1) := by decide +kernel
theorem dX12_image_1 : decode cX12_image 1 = .ok (.iconst 0, 1) := by decide +kernel
theorem dX12_image_2 : decode cX12_image 2 = .ok (.putfield 159, 3) := by decide +kernel
theorem dX12_image_5 : decode cX12_image 5 = .ok (.aload_n 0, 1) := by decide +kernel
theorem dX12_image_6 : decode cX12_image 6 = .ok (.iconst 1, 1) := by decide +kernel
theorem dX12_image_7 : decode cX12_image 7 = .ok (.putfield 334, 3) := by decide +kernel
theorem dX12_image_10 : decode cX12_image 10 = .ok (.aload_n 0, 1) := by decide +kernel
theorem dX12_image_11 : decode cX12_image 11 = .ok (.aload_n 0, 1) := by decide +kernel
theorem dX12_image_12 : decode cX12_image 12 = .ok (.getfield 324, 3) := by decide +kernel
theorem dX12_image_15 : decode cX12_image 15 = .ok (.putfield 499, 3) := by decide +kernel
theorem dX12_image_18 : decode cX12_image 18 = .ok (.aload_n 0, 1) := by decide +kernel
theorem dX12_image_19 : decode cX12_image 19 = .ok (.aload_n 0, 1) := by decide +kernel
theorem dX12_image_20 : decode cX12_image 20 = .ok (.getfield 327, 3) := by decide +kernel
theorem dX12_image_23 : decode cX12_image 23 = .ok (.putfield 502, 3) := by decide +kernel
theorem dX12_image_26 : decode cX12_image 26 = .ok (.aload_n 0, 1) := by decide +kernel
theorem dX12_image_27 : decode cX12_image 27 = .ok (.aload_n 0, 1) := by decide +kernel
theorem dX12_image_28 : decode cX12_image 28 = .ok (.getfield 141, 3) := by decide +kernel
theorem dX12_image_31 : decode cX12_image 31 = .ok (.iconst 0, 1) := by decide +kernel
theorem dX12_image_32 : decode cX12_image 32 = .ok (.invokevirtual 423, 3) := by decide +kernel
theorem dX12_image_35 : decode cX12_image 35 = .ok (.aload_n 0, 1) := by decide +kernel
theorem dX12_image_36 : decode cX12_image 36 = .ok (.getfield 144, 3) := by decide +kernel
theorem dX12_image_39 : decode cX12_image 39 = .ok (.aload_n 0, 1) := by decide +kernel
theorem dX12_image_40 : decode cX12_image 40 = .ok (.getfield 78, 3) := by decide +kernel
theorem dX12_image_43 : decode cX12_image 43 = .ok (.invokestatic 505, 3) := by decide +kernel
theorem dX12_image_46 : decode cX12_image 46 = .ok (.aload_n 0, 1) := by decide +kernel
theorem dX12_image_47 : decode cX12_image 47 = .ok (.getfield 147, 3) := by decide +kernel
theorem dX12_image_50 : decode cX12_image 50 = .ok (.aload_n 0, 1) := by decide +kernel
theorem dX12_image_51 : decode cX12_image 51 = .ok (.getfield 132, 3) := by decide +kernel
theorem dX12_image_54 : decode cX12_image 54 = .ok (.invokestatic 505, 3) := by decide +kernel
theorem dX12_image_57 : decode cX12_image 57 = .ok (.aload_n 0, 1) := by decide +kernel
theorem dX12_image_58 : decode cX12_image 58 = .ok (.getfield 150, 3) := by decide +kernel
theorem dX12_image_61 : decode cX12_image 61 = .ok (.aload_n 0, 1) := by decide +kernel
theorem dX12_image_62 : decode cX12_image 62 = .ok (.getfield 135, 3) := by decide +kernel
theorem dX12_image_65 : decode cX12_image 65 = .ok (.invokestatic 505, 3) := by decide +kernel
theorem dX12_image_68 : decode cX12_image 68 = .ok (.aload_n 0, 1) := by decide +kernel
theorem dX12_image_69 : decode cX12_image 69 = .ok (.getfield 153, 3) := by decide +kernel
theorem dX12_image_72 : decode cX12_image 72 = .ok (.aload_n 0, 1) := by decide +kernel
theorem dX12_image_73 : decode cX12_image 73 = .ok (.getfield 138, 3) := by decide +kernel
theorem dX12_image_76 : decode cX12_image 76 = .ok (.invokestatic 505, 3) := by decide +kernel
theorem dX12_image_79 : decode cX12_image 79 = .ok (.aload_n 0, 1) := by decide +kernel
theorem dX12_image_80 : decode cX12_image 80 = .ok (.getfield 156, 3) := by decide +kernel
theorem dX12_image_83 : decode cX12_image 83 = .ok (.aload_n 0, 1) := by decide +kernel
theorem dX12_image_84 : decode cX12_image 84 = .ok (.getfield 65, 3) := by decide +kernel
theorem dX12_image_87 : decode cX12_image 87 = .ok (.invokestatic 505, 3) := by decide +kernel
theorem dX12_image_90 : decode cX12_image 90 = .ok (.return_, 1) := by decide +kernel
theorem dX12_restore_0 : decode cX12_restore 0 = .ok (.aload_n 0, 1) := by decide +kernel
theorem dX12_restore_1 : decode cX12_restore 1 = .ok (.iconst 0, 1) := by decide +kernel
theorem dX12_restore_2 : decode cX12_restore 2 = .ok (.putfield 159, 3) := by decide +kernel
theorem dX12_restore_5 : decode cX12_restore 5 = .ok (.aload_n 0, 1) := by decide +kernel
theorem dX12_restore_6 : decode cX12_restore 6 = .ok (.getfield 334, 3) := by decide +kernel
theorem dX12_restore_9 : decode cX12_restore 9 = .ok (.ifCond .ne 5, 3) := by decide +kernel
theorem dX12_restore_12 : decode cX12_restore 12 = .ok (.iconst 0, 1) := by decide +kernel
theorem dX12_restore_13 : decode cX12_restore 13 = .ok (.ireturn, 1) := by decide +kernel
theorem dX12_restore_14 : decode cX12_restore 14 = .ok (.aload_n 0, 1) := by decide +kernel
theorem dX12_restore_15 : decode cX12_restore 15 = .ok (.aload_n 0, 1) := by decide +kernel
theorem dX12_restore_16 : decode cX12_restore 16 = .ok (.getfield 499, 3) := by decide +kernel
theorem dX12_restore_19 : decode cX12_restore 19 = .ok (.putfield 324, 3) := by decide +kernel
theorem dX12_restore_22 : decode cX12_restore 22 = .ok (.aload_n 0, 1) := by decide +kernel
theorem dX12_restore_23 : decode cX12_restore 23 = .ok (.aload_n 0, 1) := by decide +kernel
theorem dX12_restore_24 : decode cX12_restore 24 = .ok (.getfield 502, 3) := by decide +kernel
theorem dX12_restore_27 : decode cX12_restore 27 = .ok (.putfield 327, 3) := by decide +kernel
theorem dX12_restore_30 : decode cX12_restore 30 = .ok (.aload_n 0, 1) := by decide +kernel
theorem dX12_restore_31 : decode cX12_restore 31 = .ok (.aload_n 0, 1) := by decide +kernel
theorem dX12_restore_32 : decode cX12_restore 32 = .ok (.getfield 141, 3) := by decide +kernel
theorem dX12_restore_35 : decode cX12_restore 35 = .ok (.iconst 0, 1) := by decide +kernel
theorem dX12_restore_36 : decode cX12_restore 36 = .ok (.invokevirtual 439, 3) := by decide +kernel
theorem dX12_restore_39 : decode cX12_restore 39 = .ok (.aload_n 0, 1) := by decide +kernel
theorem dX12_restore_40 : decode cX12_restore 40 = .ok (.getfield 78, 3) := by decide +kernel
theorem dX12_restore_43 : decode cX12_restore 43 = .ok (.aload_n 0, 1) := by decide +kernel
theorem dX12_restore_44 : decode cX12_restore 44 = .ok (.getfield 144, 3) := by decide +kernel
theorem dX12_restore_47 : decode cX12_restore 47 = .ok (.invokestatic 505, 3) := by decide +kernel
theorem dX12_restore_50 : decode cX12_restore 50 = .ok (.aload_n 0, 1) := by decide +kernel
theorem dX12_restore_51 : decode cX12_restore 51 = .ok (.getfield 132, 3) := by decide +kernel
theorem dX12_restore_54 : decode cX12_restore 54 = .ok (.aload_n 0, 1) := by decide +kernel
theorem dX12_restore_55 : decode cX12_restore 55 = .ok (.getfield 147, 3) := by decide +kernel
theorem dX12_restore_58 : decode cX12_restore 58 = .ok (.invokestatic 505, 3) := by decide +kernel
theorem dX12_restore_61 : decode cX12_restore 61 = .ok (.aload_n 0, 1) := by decide +kernel
theorem dX12_restore_62 : decode cX12_restore 62 = .ok (.getfield 135, 3) := by decide +kernel
theorem dX12_restore_65 : decode cX12_restore 65 = .ok (.aload_n 0, 1) := by decide +kernel
theorem dX12_restore_66 : decode cX12_restore 66 = .ok (.getfield 150, 3) := by decide +kernel
theorem dX12_restore_69 : decode cX12_restore 69 = .ok (.invokestatic 505, 3) := by decide +kernel
theorem dX12_restore_72 : decode cX12_restore 72 = .ok (.aload_n 0, 1) := by decide +kernel
theorem dX12_restore_73 : decode cX12_restore 73 = .ok (.getfield 138, 3) := by decide +kernel
theorem dX12_restore_76 : decode cX12_restore 76 = .ok (.aload_n 0, 1) := by decide +kernel
theorem dX12_restore_77 : decode cX12_restore 77 = .ok (.getfield 153, 3) := by decide +kernel
theorem dX12_restore_80 : decode cX12_restore 80 = .ok (.invokestatic 505, 3) := by decide +kernel
theorem dX12_restore_83 : decode cX12_restore 83 = .ok (.aload_n 0, 1) := by decide +kernel
theorem dX12_restore_84 : decode cX12_restore 84 = .ok (.getfield 65, 3) := by decide +kernel
theorem dX12_restore_87 : decode cX12_restore 87 = .ok (.aload_n 0, 1) := by decide +kernel
theorem dX12_restore_88 : decode cX12_restore 88 = .ok (.getfield 156, 3) := by decide +kernel
theorem dX12_restore_91 : decode cX12_restore 91 = .ok (.invokestatic 505, 3) := by decide +kernel
theorem dX12_restore_94 : decode cX12_restore 94 = .ok (.iconst 1, 1) := by decide +kernel
theorem dX12_restore_95 : decode cX12_restore 95 = .ok (.ireturn, 1) := by decide +kernel
