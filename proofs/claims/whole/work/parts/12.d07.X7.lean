theorem dX7_init_0 : decode cX7_init 0 = .ok (.aload_n 0, 1) := by decide +kernel
theorem dX7_init_1 : decode cX7_init 1 = .ok (.invokespecial 3, 3) := by decide +kernel
theorem dX7_init_4 : decode cX7_init 4 = .ok (.aload_n 0, 1) := by decide +kernel
theorem dX7_init_5 : decode cX7_init 5 = .ok (.new 9, 3) := by decide +kernel
theorem dX7_init_8 : decode cX7_init 8 = .ok (.dup, 1) := by decide +kernel
theorem dX7_init_9 : decode cX7_init 9 = .ok (.sipush 600, 3) := by decide +kernel
theorem dX7_init_12 : decode cX7_init 12 = .ok (.invokespecial 11, 3) := by decide +kernel
theorem dX7_init_15 : decode cX7_init 15 = .ok (.putfield 14, 3) := by decide +kernel
theorem dX7_init_18 : decode cX7_init 18 = .ok (.aload_n 0, 1) := by decide +kernel
theorem dX7_init_19 : decode cX7_init 19 = .ok (.iconst 0, 1) := by decide +kernel
theorem dX7_init_20 : decode cX7_init 20 = .ok (.putfield 20, 3) := by decide +kernel
theorem dX7_init_23 : decode cX7_init 23 = .ok (.aload_n 0, 1) := by decide +kernel
theorem dX7_init_24 : decode cX7_init 24 = .ok (.new 9, 3) := by decide +kernel
theorem dX7_init_27 : decode cX7_init 27 = .ok (.dup, 1) := by decide +kernel
theorem dX7_init_28 : decode cX7_init 28 = .ok (.bipush 7, 2) := by decide +kernel
theorem dX7_init_30 : decode cX7_init 30 = .ok (.invokespecial 11, 3) := by decide +kernel
theorem dX7_init_33 : decode cX7_init 33 = .ok (.putfield 24, 3) := by decide +kernel
theorem dX7_init_36 : decode cX7_init 36 = .ok (.aload_n 0, 1) := by decide +kernel
theorem dX7_init_37 : decode cX7_init 37 = .ok (.new 9, 3) := by decide +kernel
theorem dX7_init_40 : decode cX7_init 40 = .ok (.dup, 1) := by decide +kernel
theorem dX7_init_41 : decode cX7_init 41 = .ok (.bipush 40, 2) := by decide +kernel
theorem dX7_init_43 : decode cX7_init 43 = .ok (.invokespecial 11, 3) := by decide +kernel
theorem dX7_init_46 : decode cX7_init 46 = .ok (.putfield 27, 3) := by decide +kernel
theorem dX7_init_49 : decode cX7_init 49 = .ok (.return_, 1) := by decide +kernel
theorem dX7_clear_0 : decode cX7_clear 0 = .ok (.aload_n 0, 1) := by decide +kernel
theorem dX7_clear_1 : decode cX7_clear 1 = .ok (.iconst 0, 1) := by decide +kernel
theorem dX7_clear_2 : decode cX7_clear 2 = .ok (.putfield 20, 3) := by decide +kernel
theorem dX7_clear_5 : decode cX7_clear 5 = .ok (.return_, 1) := by decide +kernel
theorem dX7_isTold_0 : decode cX7_isTold 0 = .ok (.aload_n 0, 1) := by decide +kernel
theorem dX7_isTold_1 : decode cX7_isTold 1 = .ok (.getfield 20, 3) := by decide +kernel
theorem dX7_isTold_4 : decode cX7_isTold 4 = .ok (.ifCond .le 7, 3) := by decide +kernel
theorem dX7_isTold_7 : decode cX7_isTold 7 = .ok (.iconst 1, 1) := by decide +kernel
theorem dX7_isTold_8 : decode cX7_isTold 8 = .ok (.goto 4, 3) := by decide +kernel
theorem dX7_isTold_11 : decode cX7_isTold 11 = .ok (.iconst 0, 1) := by decide +kernel
theorem dX7_isTold_12 : decode cX7_isTold 12 = .ok (.ireturn, 1) := by decide +kernel
theorem dX7_add_0 : decode cX7_add 0 = .ok (.aload_n 0, 1) := by decide +kernel
theorem dX7_add_1 : decode cX7_add 1 = .ok (.getfield 14, 3) := by decide +kernel
theorem dX7_add_4 : decode cX7_add 4 = .ok (.aload_n 0, 1) := by decide +kernel
theorem dX7_add_5 : decode cX7_add 5 = .ok (.getfield 20, 3) := by decide +kernel
theorem dX7_add_8 : decode cX7_add 8 = .ok (.iload_n 1, 1) := by decide +kernel
theorem dX7_add_9 : decode cX7_add 9 = .ok (.invokevirtual 30, 3) := by decide +kernel
theorem dX7_add_12 : decode cX7_add 12 = .ok (.aload_n 0, 1) := by decide +kernel
theorem dX7_add_13 : decode cX7_add 13 = .ok (.dup, 1) := by decide +kernel
theorem dX7_add_14 : decode cX7_add 14 = .ok (.getfield 20, 3) := by decide +kernel
theorem dX7_add_17 : decode cX7_add 17 = .ok (.iconst 1, 1) := by decide +kernel
theorem dX7_add_18 : decode cX7_add 18 = .ok (.iadd, 1) := by decide +kernel
theorem dX7_add_19 : decode cX7_add 19 = .ok (.putfield 20, 3) := by decide +kernel
theorem dX7_add_22 : decode cX7_add 22 = .ok (.return_, 1) := by decide +kernel
theorem dX7_setValue_0 : decode cX7_setValue 0 = .ok (.aload_n 0, 1) := by decide +kernel
theorem dX7_setValue_1 : decode cX7_setValue 1 = .ok (.getfield 24, 3) := by decide +kernel
theorem dX7_setValue_4 : decode cX7_setValue 4 = .ok (.iconst (-1), 1) := by decide +kernel
theorem dX7_setValue_5 : decode cX7_setValue 5 = .ok (.iload_n 1, 1) := by decide +kernel
theorem dX7_setValue_6 : decode cX7_setValue 6 = .ok (.isub, 1) := by decide +kernel
theorem dX7_setValue_7 : decode cX7_setValue 7 = .ok (.iload_n 2, 1) := by decide +kernel
theorem dX7_setValue_8 : decode cX7_setValue 8 = .ok (.invokevirtual 30, 3) := by decide +kernel
theorem dX7_setValue_11 : decode cX7_setValue 11 = .ok (.return_, 1) := by decide +kernel
theorem dX7_holds_0 : decode cX7_holds 0 = .ok (.iconst (-1), 1) := by decide +kernel
theorem dX7_holds_1 : decode cX7_holds 1 = .ok (.istore_n 1, 1) := by decide +kernel
theorem dX7_holds_2 : decode cX7_holds 2 = .ok (.iconst 0, 1) := by decide +kernel
theorem dX7_holds_3 : decode cX7_holds 3 = .ok (.istore_n 2, 1) := by decide +kernel
theorem dX7_holds_4 : decode cX7_holds 4 = .ok (.iload_n 2, 1) := by decide +kernel
theorem dX7_holds_5 : decode cX7_holds 5 = .ok (.aload_n 0, 1) := by decide +kernel
theorem dX7_holds_6 : decode cX7_holds 6 = .ok (.getfield 20, 3) := by decide +kernel
theorem dX7_holds_9 : decode cX7_holds 9 = .ok (.if_icmp .ge 133, 3) := by decide +kernel
theorem dX7_holds_12 : decode cX7_holds 12 = .ok (.aload_n 0, 1) := by decide +kernel
theorem dX7_holds_13 : decode cX7_holds 13 = .ok (.getfield 14, 3) := by decide +kernel
theorem dX7_holds_16 : decode cX7_holds 16 = .ok (.iload_n 2, 1) := by decide +kernel
theorem dX7_holds_17 : decode cX7_holds 17 = .ok (.invokevirtual 34, 3) := by decide +kernel
theorem dX7_holds_20 : decode cX7_holds 20 = .ok (.istore_n 3, 1) := by decide +kernel
theorem dX7_holds_21 : decode cX7_holds 21 = .ok (.iload_n 3, 1) := by decide +kernel
theorem dX7_holds_22 : decode cX7_holds 22 = .ok (.ifCond .lt 18, 3) := by decide +kernel
theorem dX7_holds_25 : decode cX7_holds 25 = .ok (.iinc 1 1, 3) := by decide +kernel
theorem dX7_holds_28 : decode cX7_holds 28 = .ok (.aload_n 0, 1) := by decide +kernel
theorem dX7_holds_29 : decode cX7_holds 29 = .ok (.getfield 27, 3) := by decide +kernel
theorem dX7_holds_32 : decode cX7_holds 32 = .ok (.iload_n 1, 1) := by decide +kernel
theorem dX7_holds_33 : decode cX7_holds 33 = .ok (.iload_n 3, 1) := by decide +kernel
theorem dX7_holds_34 : decode cX7_holds 34 = .ok (.invokevirtual 30, 3) := by decide +kernel
theorem dX7_holds_37 : decode cX7_holds 37 = .ok (.goto 99, 3) := by decide +kernel
theorem dX7_holds_40 : decode cX7_holds 40 = .ok (.iload_n 3, 1) := by decide +kernel
theorem dX7_holds_41 : decode cX7_holds 41 = .ok (.bipush (-7), 2) := by decide +kernel
theorem dX7_holds_43 : decode cX7_holds 43 = .ok (.if_icmp .lt 27, 3) := by decide +kernel
theorem dX7_holds_46 : decode cX7_holds 46 = .ok (.iinc 1 1, 3) := by decide +kernel
theorem dX7_holds_49 : decode cX7_holds 49 = .ok (.aload_n 0, 1) := by decide +kernel
theorem dX7_holds_50 : decode cX7_holds 50 = .ok (.getfield 27, 3) := by decide +kernel
theorem dX7_holds_53 : decode cX7_holds 53 = .ok (.iload_n 1, 1) := by decide +kernel
theorem dX7_holds_54 : decode cX7_holds 54 = .ok (.aload_n 0, 1) := by decide +kernel
theorem dX7_holds_55 : decode cX7_holds 55 = .ok (.getfield 24, 3) := by decide +kernel
theorem dX7_holds_58 : decode cX7_holds 58 = .ok (.iconst (-1), 1) := by decide +kernel
theorem dX7_holds_59 : decode cX7_holds 59 = .ok (.iload_n 3, 1) := by decide +kernel
theorem dX7_holds_60 : decode cX7_holds 60 = .ok (.isub, 1) := by decide +kernel
theorem dX7_holds_61 : decode cX7_holds 61 = .ok (.invokevirtual 34, 3) := by decide +kernel
theorem dX7_holds_64 : decode cX7_holds 64 = .ok (.invokevirtual 30, 3) := by decide +kernel
theorem dX7_holds_67 : decode cX7_holds 67 = .ok (.goto 69, 3) := by decide +kernel
theorem dX7_holds_70 : decode cX7_holds 70 = .ok (.iload_n 3, 1) := by decide +kernel
theorem dX7_holds_71 : decode cX7_holds 71 = .ok (.bipush (-10), 2) := by decide +kernel
theorem dX7_holds_73 : decode cX7_holds 73 = .ok (.if_icmp .ne 30, 3) := by decide +kernel
theorem dX7_holds_76 : decode cX7_holds 76 = .ok (.aload_n 0, 1) := by decide +kernel
theorem dX7_holds_77 : decode cX7_holds 77 = .ok (.getfield 27, 3) := by decide +kernel
theorem dX7_holds_80 : decode cX7_holds 80 = .ok (.iload_n 1, 1) := by decide +kernel
theorem dX7_holds_81 : decode cX7_holds 81 = .ok (.aload_n 0, 1) := by decide +kernel
theorem dX7_holds_82 : decode cX7_holds 82 = .ok (.getfield 27, 3) := by decide +kernel
theorem dX7_holds_85 : decode cX7_holds 85 = .ok (.iload_n 1, 1) := by decide +kernel
theorem dX7_holds_86 : decode cX7_holds 86 = .ok (.invokevirtual 34, 3) := by decide +kernel
theorem dX7_holds_89 : decode cX7_holds 89 = .ok (.ifCond .ne 7, 3) := by decide +kernel
theorem dX7_holds_92 : decode cX7_holds 92 = .ok (.iconst 1, 1) := by decide +kernel
theorem dX7_holds_93 : decode cX7_holds 93 = .ok (.goto 4, 3) := by decide +kernel
theorem dX7_holds_96 : decode cX7_holds 96 = .ok (.iconst 0, 1) := by decide +kernel
theorem dX7_holds_97 : decode cX7_holds 97 = .ok (.invokevirtual 30, 3) := by decide +kernel
theorem dX7_holds_100 : decode cX7_holds 100 = .ok (.goto 36, 3) := by decide +kernel
theorem dX7_holds_103 : decode cX7_holds 103 = .ok (.iinc 1 (-1), 3) := by decide +kernel
theorem dX7_holds_106 : decode cX7_holds 106 = .ok (.aload_n 0, 1) := by decide +kernel
theorem dX7_holds_107 : decode cX7_holds 107 = .ok (.getfield 27, 3) := by decide +kernel
theorem dX7_holds_110 : decode cX7_holds 110 = .ok (.iload_n 1, 1) := by decide +kernel
theorem dX7_holds_111 : decode cX7_holds 111 = .ok (.iload_n 3, 1) := by decide +kernel
theorem dX7_holds_112 : decode cX7_holds 112 = .ok (.aload_n 0, 1) := by decide +kernel
theorem dX7_holds_113 : decode cX7_holds 113 = .ok (.getfield 27, 3) := by decide +kernel
theorem dX7_holds_116 : decode cX7_holds 116 = .ok (.iload_n 1, 1) := by decide +kernel
theorem dX7_holds_117 : decode cX7_holds 117 = .ok (.invokevirtual 34, 3) := by decide +kernel
theorem dX7_holds_120 : decode cX7_holds 120 = .ok (.aload_n 0, 1) := by decide +kernel
theorem dX7_holds_121 : decode cX7_holds 121 = .ok (.getfield 27, 3) := by decide +kernel
theorem dX7_holds_124 : decode cX7_holds 124 = .ok (.iload_n 1, 1) := by decide +kernel
theorem dX7_holds_125 : decode cX7_holds 125 = .ok (.iconst 1, 1) := by decide +kernel
theorem dX7_holds_126 : decode cX7_holds 126 = .ok (.iadd, 1) := by decide +kernel
theorem dX7_holds_127 : decode cX7_holds 127 = .ok (.invokevirtual 34, 3) := by decide +kernel
theorem dX7_holds_130 : decode cX7_holds 130 = .ok (.invokestatic 38, 3) := by decide +kernel
theorem dX7_holds_133 : decode cX7_holds 133 = .ok (.invokevirtual 30, 3) := by decide +kernel
theorem dX7_holds_136 : decode cX7_holds 136 = .ok (.iinc 2 1, 3) := by decide +kernel
theorem dX7_holds_139 : decode cX7_holds 139 = .ok (.goto (-135), 3) := by decide +kernel
theorem dX7_holds_142 : decode cX7_holds 142 = .ok (.aload_n 0, 1) := by decide +kernel
theorem dX7_holds_143 : decode cX7_holds 143 = .ok (.getfield 27, 3) := by decide +kernel
theorem dX7_holds_146 : decode cX7_holds 146 = .ok (.iload_n 1, 1) := by decide +kernel
theorem dX7_holds_147 : decode cX7_holds 147 = .ok (.invokevirtual 34, 3) := by decide +kernel
theorem dX7_holds_150 : decode cX7_holds 150 = .ok (.ifCond .eq 7, 3) := by decide +kernel
theorem dX7_holds_153 : decode cX7_holds 153 = .ok (.iconst 1, 1) := by decide +kernel
theorem dX7_holds_154 : decode cX7_holds 154 = .ok (.goto 4, 3) := by decide +kernel
theorem dX7_holds_157 : decode cX7_holds 157 = .ok (.iconst 0, 1) := by decide +kernel
theorem dX7_holds_158 : decode cX7_holds 158 = .ok (.ireturn, 1) := by decide +kernel
theorem dX7_joined_0 : decode cX7_joined 0 = .ok (.iload_n 0, 1) := by decide +kernel
theorem dX7_joined_1 : decode cX7_joined 1 = .ok (.tableswitch 109 (-15) (-8) #[105, 101, 97, 86, 75, 109, 61, 47], 47) := by decide +kernel
theorem dX7_joined_48 : decode cX7_joined 48 = .ok (.iload_n 1, 1) := by decide +kernel
theorem dX7_joined_49 : decode cX7_joined 49 = .ok (.ifCond .ne 7, 3) := by decide +kernel
theorem dX7_joined_52 : decode cX7_joined 52 = .ok (.iload_n 2, 1) := by decide +kernel
theorem dX7_joined_53 : decode cX7_joined 53 = .ok (.ifCond .eq 7, 3) := by decide +kernel
theorem dX7_joined_56 : decode cX7_joined 56 = .ok (.iconst 1, 1) := by decide +kernel
theorem dX7_joined_57 : decode cX7_joined 57 = .ok (.goto 4, 3) := by decide +kernel
theorem dX7_joined_60 : decode cX7_joined 60 = .ok (.iconst 0, 1) := by decide +kernel
theorem dX7_joined_61 : decode cX7_joined 61 = .ok (.ireturn, 1) := by decide +kernel
theorem dX7_joined_62 : decode cX7_joined 62 = .ok (.iload_n 1, 1) := by decide +kernel
theorem dX7_joined_63 : decode cX7_joined 63 = .ok (.ifCond .eq 11, 3) := by decide +kernel
theorem dX7_joined_66 : decode cX7_joined 66 = .ok (.iload_n 2, 1) := by decide +kernel
theorem dX7_joined_67 : decode cX7_joined 67 = .ok (.ifCond .eq 7, 3) := by decide +kernel
theorem dX7_joined_70 : decode cX7_joined 70 = .ok (.iconst 1, 1) := by decide +kernel
theorem dX7_joined_71 : decode cX7_joined 71 = .ok (.goto 4, 3) := by decide +kernel
theorem dX7_joined_74 : decode cX7_joined 74 = .ok (.iconst 0, 1) := by decide +kernel
theorem dX7_joined_75 : decode cX7_joined 75 = .ok (.ireturn, 1) := by decide +kernel
theorem dX7_joined_76 : decode cX7_joined 76 = .ok (.iload_n 1, 1) := by decide +kernel
theorem dX7_joined_77 : decode cX7_joined 77 = .ok (.iload_n 2, 1) := by decide +kernel
theorem dX7_joined_78 : decode cX7_joined 78 = .ok (.if_icmp .ge 7, 3) := by decide +kernel
theorem dX7_joined_81 : decode cX7_joined 81 = .ok (.iconst 1, 1) := by decide +kernel
theorem dX7_joined_82 : decode cX7_joined 82 = .ok (.goto 4, 3) := by decide +kernel
theorem dX7_joined_85 : decode cX7_joined 85 = .ok (.iconst 0, 1) := by decide +kernel
theorem dX7_joined_86 : decode cX7_joined 86 = .ok (.ireturn, 1) := by decide +kernel
theorem dX7_joined_87 : decode cX7_joined 87 = .ok (.iload_n 1, 1) := by decide +kernel
theorem dX7_joined_88 : decode cX7_joined 88 = .ok (.iload_n 2, 1) := by decide +kernel
theorem dX7_joined_89 : decode cX7_joined 89 = .ok (.if_icmp .ne 7, 3) := by decide +kernel
theorem dX7_joined_92 : decode cX7_joined 92 = .ok (.iconst 1, 1) := by decide +kernel
theorem dX7_joined_93 : decode cX7_joined 93 = .ok (.goto 4, 3) := by decide +kernel
theorem dX7_joined_96 : decode cX7_joined 96 = .ok (.iconst 0, 1) := by decide +kernel
theorem dX7_joined_97 : decode cX7_joined 97 = .ok (.ireturn, 1) := by decide +kernel
theorem dX7_joined_98 : decode cX7_joined 98 = .ok (.iload_n 1, 1) := by decide +kernel
theorem dX7_joined_99 : decode cX7_joined 99 = .ok (.iload_n 2, 1) := by decide +kernel
theorem dX7_joined_100 : decode cX7_joined 100 = .ok (.iadd, 1) := by decide +kernel
theorem dX7_joined_101 : decode cX7_joined 101 = .ok (.ireturn, 1) := by decide +kernel
theorem dX7_joined_102 : decode cX7_joined 102 = .ok (.iload_n 1, 1) := by decide +kernel
theorem dX7_joined_103 : decode cX7_joined 103 = .ok (.iload_n 2, 1) := by decide +kernel
theorem dX7_joined_104 : decode cX7_joined 104 = .ok (.isub, 1) := by decide +kernel
theorem dX7_joined_105 : decode cX7_joined 105 = .ok (.ireturn, 1) := by decide +kernel
theorem dX7_joined_106 : decode cX7_joined 106 = .ok (.iload_n 1, 1) := by decide +kernel
theorem dX7_joined_107 : decode cX7_joined 107 = .ok (.iload_n 2, 1) := by decide +kernel
theorem dX7_joined_108 : decode cX7_joined 108 = .ok (.imul, 1) := by decide +kernel
theorem dX7_joined_109 : decode cX7_joined 109 = .ok (.ireturn, 1) := by decide +kernel
theorem dX7_joined_110 : decode cX7_joined 110 = .ok (.iload_n 2, 1) := by decide +kernel
theorem dX7_joined_111 : decode cX7_joined 111 = .ok (.ifCond .ne 7, 3) := by decide +kernel
theorem dX7_joined_114 : decode cX7_joined 114 = .ok (.iconst 0, 1) := by decide +kernel
theorem dX7_joined_115 : decode cX7_joined 115 = .ok (.goto 6, 3) := by decide +kernel
theorem dX7_joined_118 : decode cX7_joined 118 = .ok (.iload_n 1, 1) := by decide +kernel
theorem dX7_joined_119 : decode cX7_joined 119 = .ok (.iload_n 2, 1) := by decide +kernel
theorem dX7_joined_120 : decode cX7_joined 120 = .ok (.idiv, 1) := by decide +kernel
theorem dX7_joined_121 : decode cX7_joined 121 = .ok (.ireturn, 1) := by decide +kernel
