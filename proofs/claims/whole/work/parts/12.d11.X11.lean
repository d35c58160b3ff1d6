theorem dX11_init_0 : decode cX11_init 0 = .ok (.aload_n 0, 1) := by decide +kernel
theorem dX11_init_1 : decode cX11_init 1 = .ok (.invokespecial 1, 3) := by decide +kernel
theorem dX11_init_4 : decode cX11_init 4 = .ok (.aload_n 0, 1) := by decide +kernel
theorem dX11_init_5 : decode cX11_init 5 = .ok (.new 7, 3) := by decide +kernel
theorem dX11_init_8 : decode cX11_init 8 = .ok (.dup, 1) := by decide +kernel
theorem dX11_init_9 : decode cX11_init 9 = .ok (.sipush 600, 3) := by decide +kernel
theorem dX11_init_12 : decode cX11_init 12 = .ok (.invokespecial 11, 3) := by decide +kernel
theorem dX11_init_15 : decode cX11_init 15 = .ok (.putfield 14, 3) := by decide +kernel
theorem dX11_init_18 : decode cX11_init 18 = .ok (.aload_n 0, 1) := by decide +kernel
theorem dX11_init_19 : decode cX11_init 19 = .ok (.iconst 0, 1) := by decide +kernel
theorem dX11_init_20 : decode cX11_init 20 = .ok (.putfield 18, 3) := by decide +kernel
theorem dX11_init_23 : decode cX11_init 23 = .ok (.aload_n 0, 1) := by decide +kernel
theorem dX11_init_24 : decode cX11_init 24 = .ok (.iconst (-1), 1) := by decide +kernel
theorem dX11_init_25 : decode cX11_init 25 = .ok (.putfield 22, 3) := by decide +kernel
theorem dX11_init_28 : decode cX11_init 28 = .ok (.aload_n 0, 1) := by decide +kernel
theorem dX11_init_29 : decode cX11_init 29 = .ok (.new 25, 3) := by decide +kernel
theorem dX11_init_32 : decode cX11_init 32 = .ok (.dup, 1) := by decide +kernel
theorem dX11_init_33 : decode cX11_init 33 = .ok (.invokespecial 27, 3) := by decide +kernel
theorem dX11_init_36 : decode cX11_init 36 = .ok (.putfield 28, 3) := by decide +kernel
theorem dX11_init_39 : decode cX11_init 39 = .ok (.aload_n 0, 1) := by decide +kernel
theorem dX11_init_40 : decode cX11_init 40 = .ok (.new 25, 3) := by decide +kernel
theorem dX11_init_43 : decode cX11_init 43 = .ok (.dup, 1) := by decide +kernel
theorem dX11_init_44 : decode cX11_init 44 = .ok (.invokespecial 27, 3) := by decide +kernel
theorem dX11_init_47 : decode cX11_init 47 = .ok (.putfield 32, 3) := by decide +kernel
theorem dX11_init_50 : decode cX11_init 50 = .ok (.aload_n 0, 1) := by decide +kernel
theorem dX11_init_51 : decode cX11_init 51 = .ok (.new 35, 3) := by decide +kernel
theorem dX11_init_54 : decode cX11_init 54 = .ok (.dup, 1) := by decide +kernel
theorem dX11_init_55 : decode cX11_init 55 = .ok (.aload_n 0, 1) := by decide +kernel
theorem dX11_init_56 : decode cX11_init 56 = .ok (.getfield 32, 3) := by decide +kernel
theorem dX11_init_59 : decode cX11_init 59 = .ok (.invokespecial 37, 3) := by decide +kernel
theorem dX11_init_62 : decode cX11_init 62 = .ok (.putfield 40, 3) := by decide +kernel
theorem dX11_init_65 : decode cX11_init 65 = .ok (.aload_n 0, 1) := by decide +kernel
theorem dX11_init_66 : decode cX11_init 66 = .ok (.new 44, 3) := by decide +kernel
theorem dX11_init_69 : decode cX11_init 69 = .ok (.dup, 1) := by decide +kernel
theorem dX11_init_70 : decode cX11_init 70 = .ok (.invokespecial 46, 3) := by decide +kernel
theorem dX11_init_73 : decode cX11_init 73 = .ok (.putfield 47, 3) := by decide +kernel
theorem dX11_init_76 : decode cX11_init 76 = .ok (.aload_n 0, 1) := by decide +kernel
theorem dX11_init_77 : decode cX11_init 77 = .ok (.new 44, 3) := by decide +kernel
theorem dX11_init_80 : decode cX11_init 80 = .ok (.dup, 1) := by decide +kernel
theorem dX11_init_81 : decode cX11_init 81 = .ok (.invokespecial 46, 3) := by decide +kernel
theorem dX11_init_84 : decode cX11_init 84 = .ok (.putfield 51, 3) := by decide +kernel
theorem dX11_init_87 : decode cX11_init 87 = .ok (.aload_n 0, 1) := by decide +kernel
theorem dX11_init_88 : decode cX11_init 88 = .ok (.iconst 0, 1) := by decide +kernel
theorem dX11_init_89 : decode cX11_init 89 = .ok (.putfield 54, 3) := by decide +kernel
theorem dX11_init_92 : decode cX11_init 92 = .ok (.aload_n 0, 1) := by decide +kernel
theorem dX11_init_93 : decode cX11_init 93 = .ok (.new 7, 3) := by decide +kernel
theorem dX11_init_96 : decode cX11_init 96 = .ok (.dup, 1) := by decide +kernel
theorem dX11_init_97 : decode cX11_init 97 = .ok (.bipush 7, 2) := by decide +kernel
theorem dX11_init_99 : decode cX11_init 99 = .ok (.invokespecial 11, 3) := by decide +kernel
theorem dX11_init_102 : decode cX11_init 102 = .ok (.putfield 58, 3) := by decide +kernel
theorem dX11_init_105 : decode cX11_init 105 = .ok (.aload_n 0, 1) := by decide +kernel
theorem dX11_init_106 : decode cX11_init 106 = .ok (.iconst (-1), 1) := by decide +kernel
theorem dX11_init_107 : decode cX11_init 107 = .ok (.putfield 61, 3) := by decide +kernel
theorem dX11_init_110 : decode cX11_init 110 = .ok (.aload_n 0, 1) := by decide +kernel
theorem dX11_init_111 : decode cX11_init 111 = .ok (.new 64, 3) := by decide +kernel
theorem dX11_init_114 : decode cX11_init 114 = .ok (.dup, 1) := by decide +kernel
theorem dX11_init_115 : decode cX11_init 115 = .ok (.invokespecial 66, 3) := by decide +kernel
theorem dX11_init_118 : decode cX11_init 118 = .ok (.putfield 67, 3) := by decide +kernel
theorem dX11_init_121 : decode cX11_init 121 = .ok (.aload_n 0, 1) := by decide +kernel
theorem dX11_init_122 : decode cX11_init 122 = .ok (.new 71, 3) := by decide +kernel
theorem dX11_init_125 : decode cX11_init 125 = .ok (.dup, 1) := by decide +kernel
theorem dX11_init_126 : decode cX11_init 126 = .ok (.aload_n 0, 1) := by decide +kernel
theorem dX11_init_127 : decode cX11_init 127 = .ok (.getfield 28, 3) := by decide +kernel
theorem dX11_init_130 : decode cX11_init 130 = .ok (.aload_n 0, 1) := by decide +kernel
theorem dX11_init_131 : decode cX11_init 131 = .ok (.getfield 67, 3) := by decide +kernel
theorem dX11_init_134 : decode cX11_init 134 = .ok (.invokespecial 73, 3) := by decide +kernel
theorem dX11_init_137 : decode cX11_init 137 = .ok (.putfield 76, 3) := by decide +kernel
theorem dX11_init_140 : decode cX11_init 140 = .ok (.aload_n 0, 1) := by decide +kernel
theorem dX11_init_141 : decode cX11_init 141 = .ok (.getfield 47, 3) := by decide +kernel
theorem dX11_init_144 : decode cX11_init 144 = .ok (.aload_n 0, 1) := by decide +kernel
theorem dX11_init_145 : decode cX11_init 145 = .ok (.getfield 28, 3) := by decide +kernel
theorem dX11_init_148 : decode cX11_init 148 = .ok (.invokevirtual 80, 3) := by decide +kernel
theorem dX11_init_151 : decode cX11_init 151 = .ok (.return_, 1) := by decide +kernel
theorem dX11_feed_0 : decode cX11_feed 0 = .ok (.aload_n 0, 1) := by decide +kernel
theorem dX11_feed_1 : decode cX11_feed 1 = .ok (.getfield 18, 3) := by decide +kernel
theorem dX11_feed_4 : decode cX11_feed 4 = .ok (.bipush 20, 2) := by decide +kernel
theorem dX11_feed_6 : decode cX11_feed 6 = .ok (.iadd, 1) := by decide +kernel
theorem dX11_feed_7 : decode cX11_feed 7 = .ok (.sipush 600, 3) := by decide +kernel
theorem dX11_feed_10 : decode cX11_feed 10 = .ok (.if_icmp .le 5, 3) := by decide +kernel
theorem dX11_feed_13 : decode cX11_feed 13 = .ok (.iconst (-1), 1) := by decide +kernel
theorem dX11_feed_14 : decode cX11_feed 14 = .ok (.ireturn, 1) := by decide +kernel
theorem dX11_feed_15 : decode cX11_feed 15 = .ok (.aload_n 0, 1) := by decide +kernel
theorem dX11_feed_16 : decode cX11_feed 16 = .ok (.iload_n 1, 1) := by decide +kernel
theorem dX11_feed_17 : decode cX11_feed 17 = .ok (.invokevirtual 83, 3) := by decide +kernel
theorem dX11_feed_20 : decode cX11_feed 20 = .ok (.aload_n 0, 1) := by decide +kernel
theorem dX11_feed_21 : decode cX11_feed 21 = .ok (.iload_n 2, 1) := by decide +kernel
theorem dX11_feed_22 : decode cX11_feed 22 = .ok (.invokevirtual 83, 3) := by decide +kernel
theorem dX11_feed_25 : decode cX11_feed 25 = .ok (.aload_n 0, 1) := by decide +kernel
theorem dX11_feed_26 : decode cX11_feed 26 = .ok (.iload_n 3, 1) := by decide +kernel
theorem dX11_feed_27 : decode cX11_feed 27 = .ok (.invokevirtual 83, 3) := by decide +kernel
theorem dX11_feed_30 : decode cX11_feed 30 = .ok (.aload_n 0, 1) := by decide +kernel
theorem dX11_feed_31 : decode cX11_feed 31 = .ok (.iload 4, 2) := by decide +kernel
theorem dX11_feed_33 : decode cX11_feed 33 = .ok (.invokevirtual 83, 3) := by decide +kernel
theorem dX11_feed_36 : decode cX11_feed 36 = .ok (.aload_n 0, 1) := by decide +kernel
theorem dX11_feed_37 : decode cX11_feed 37 = .ok (.iload 5, 2) := by decide +kernel
theorem dX11_feed_39 : decode cX11_feed 39 = .ok (.invokevirtual 83, 3) := by decide +kernel
theorem dX11_feed_42 : decode cX11_feed 42 = .ok (.aload_n 0, 1) := by decide +kernel
theorem dX11_feed_43 : decode cX11_feed 43 = .ok (.getfield 18, 3) := by decide +kernel
theorem dX11_feed_46 : decode cX11_feed 46 = .ok (.ireturn, 1) := by decide +kernel
theorem dX11_feedNumber_0 : decode cX11_feedNumber 0 = .ok (.bipush 24, 2) := by decide +kernel
theorem dX11_feedNumber_2 : decode cX11_feedNumber 2 = .ok (.istore_n 2, 1) := by decide +kernel
theorem dX11_feedNumber_3 : decode cX11_feedNumber 3 = .ok (.iload_n 2, 1) := by decide +kernel
theorem dX11_feedNumber_4 : decode cX11_feedNumber 4 = .ok (.ifCond .lt 37, 3) := by decide +kernel
theorem dX11_feedNumber_7 : decode cX11_feedNumber 7 = .ok (.aload_n 0, 1) := by decide +kernel
theorem dX11_feedNumber_8 : decode cX11_feedNumber 8 = .ok (.getfield 14, 3) := by decide +kernel
theorem dX11_feedNumber_11 : decode cX11_feedNumber 11 = .ok (.aload_n 0, 1) := by decide +kernel
theorem dX11_feedNumber_12 : decode cX11_feedNumber 12 = .ok (.getfield 18, 3) := by decide +kernel
theorem dX11_feedNumber_15 : decode cX11_feedNumber 15 = .ok (.iload_n 1, 1) := by decide +kernel
theorem dX11_feedNumber_16 : decode cX11_feedNumber 16 = .ok (.iload_n 2, 1) := by decide +kernel
theorem dX11_feedNumber_17 : decode cX11_feedNumber 17 = .ok (.iushr, 1) := by decide +kernel
theorem dX11_feedNumber_18 : decode cX11_feedNumber 18 = .ok (.sipush 255, 3) := by decide +kernel
theorem dX11_feedNumber_21 : decode cX11_feedNumber 21 = .ok (.iand, 1) := by decide +kernel
theorem dX11_feedNumber_22 : decode cX11_feedNumber 22 = .ok (.invokevirtual 86, 3) := by decide +kernel
theorem dX11_feedNumber_25 : decode cX11_feedNumber 25 = .ok (.aload_n 0, 1) := by decide +kernel
theorem dX11_feedNumber_26 : decode cX11_feedNumber 26 = .ok (.dup, 1) := by decide +kernel
theorem dX11_feedNumber_27 : decode cX11_feedNumber 27 = .ok (.getfield 18, 3) := by decide +kernel
theorem dX11_feedNumber_30 : decode cX11_feedNumber 30 = .ok (.iconst 1, 1) := by decide +kernel
theorem dX11_feedNumber_31 : decode cX11_feedNumber 31 = .ok (.iadd, 1) := by decide +kernel
theorem dX11_feedNumber_32 : decode cX11_feedNumber 32 = .ok (.putfield 18, 3) := by decide +kernel
theorem dX11_feedNumber_35 : decode cX11_feedNumber 35 = .ok (.iinc 2 (-8), 3) := by decide +kernel
theorem dX11_feedNumber_38 : decode cX11_feedNumber 38 = .ok (.goto (-35), 3) := by decide +kernel
theorem dX11_feedNumber_41 : decode cX11_feedNumber 41 = .ok (.return_, 1) := by decide +kernel
theorem dX11_bed_0 : decode cX11_bed 0 = .ok (.iload_n 1, 1) := by decide +kernel
theorem dX11_bed_1 : decode cX11_bed 1 = .ok (.ifCond .lt 11, 3) := by decide +kernel
theorem dX11_bed_4 : decode cX11_bed 4 = .ok (.iload_n 1, 1) := by decide +kernel
theorem dX11_bed_5 : decode cX11_bed 5 = .ok (.aload_n 0, 1) := by decide +kernel
theorem dX11_bed_6 : decode cX11_bed 6 = .ok (.getfield 18, 3) := by decide +kernel
theorem dX11_bed_9 : decode cX11_bed 9 = .ok (.if_icmp .le 11, 3) := by decide +kernel
theorem dX11_bed_12 : decode cX11_bed 12 = .ok (.new 90, 3) := by decide +kernel
theorem dX11_bed_15 : decode cX11_bed 15 = .ok (.dup, 1) := by decide +kernel
theorem dX11_bed_16 : decode cX11_bed 16 = .ok (.invokespecial 92, 3) := by decide +kernel
theorem dX11_bed_19 : decode cX11_bed 19 = .ok (.athrow, 1) := by decide +kernel
theorem dX11_bed_20 : decode cX11_bed 20 = .ok (.aload_n 0, 1) := by decide +kernel
theorem dX11_bed_21 : decode cX11_bed 21 = .ok (.iconst 0, 1) := by decide +kernel
theorem dX11_bed_22 : decode cX11_bed 22 = .ok (.putfield 18, 3) := by decide +kernel
theorem dX11_bed_25 : decode cX11_bed 25 = .ok (.aload_n 0, 1) := by decide +kernel
theorem dX11_bed_26 : decode cX11_bed 26 = .ok (.getfield 40, 3) := by decide +kernel
theorem dX11_bed_29 : decode cX11_bed 29 = .ok (.aload_n 0, 1) := by decide +kernel
theorem dX11_bed_30 : decode cX11_bed 30 = .ok (.getfield 14, 3) := by decide +kernel
theorem dX11_bed_33 : decode cX11_bed 33 = .ok (.iload_n 1, 1) := by decide +kernel
theorem dX11_bed_34 : decode cX11_bed 34 = .ok (.aload_n 0, 1) := by decide +kernel
theorem dX11_bed_35 : decode cX11_bed 35 = .ok (.getfield 32, 3) := by decide +kernel
theorem dX11_bed_38 : decode cX11_bed 38 = .ok (.invokevirtual 93, 3) := by decide +kernel
theorem dX11_bed_41 : decode cX11_bed 41 = .ok (.istore_n 2, 1) := by decide +kernel
theorem dX11_bed_42 : decode cX11_bed 42 = .ok (.aload_n 0, 1) := by decide +kernel
theorem dX11_bed_43 : decode cX11_bed 43 = .ok (.aload_n 0, 1) := by decide +kernel
theorem dX11_bed_44 : decode cX11_bed 44 = .ok (.getfield 40, 3) := by decide +kernel
theorem dX11_bed_47 : decode cX11_bed 47 = .ok (.getfield 97, 3) := by decide +kernel
theorem dX11_bed_50 : decode cX11_bed 50 = .ok (.putfield 22, 3) := by decide +kernel
theorem dX11_bed_53 : decode cX11_bed 53 = .ok (.iload_n 2, 1) := by decide +kernel
theorem dX11_bed_54 : decode cX11_bed 54 = .ok (.ifCond .eq 13, 3) := by decide +kernel
theorem dX11_bed_57 : decode cX11_bed 57 = .ok (.aload_n 0, 1) := by decide +kernel
theorem dX11_bed_58 : decode cX11_bed 58 = .ok (.getfield 47, 3) := by decide +kernel
theorem dX11_bed_61 : decode cX11_bed 61 = .ok (.iconst 0, 1) := by decide +kernel
theorem dX11_bed_62 : decode cX11_bed 62 = .ok (.invokevirtual 98, 3) := by decide +kernel
theorem dX11_bed_65 : decode cX11_bed 65 = .ok (.iload_n 2, 1) := by decide +kernel
theorem dX11_bed_66 : decode cX11_bed 66 = .ok (.ireturn, 1) := by decide +kernel
theorem dX11_bed_67 : decode cX11_bed 67 = .ok (.aload_n 0, 1) := by decide +kernel
theorem dX11_bed_68 : decode cX11_bed 68 = .ok (.getfield 28, 3) := by decide +kernel
theorem dX11_bed_71 : decode cX11_bed 71 = .ok (.astore_n 3, 1) := by decide +kernel
theorem dX11_bed_72 : decode cX11_bed 72 = .ok (.aload_n 0, 1) := by decide +kernel
theorem dX11_bed_73 : decode cX11_bed 73 = .ok (.aload_n 0, 1) := by decide +kernel
theorem dX11_bed_74 : decode cX11_bed 74 = .ok (.getfield 32, 3) := by decide +kernel
theorem dX11_bed_77 : decode cX11_bed 77 = .ok (.putfield 28, 3) := by decide +kernel
theorem dX11_bed_80 : decode cX11_bed 80 = .ok (.aload_n 0, 1) := by decide +kernel
theorem dX11_bed_81 : decode cX11_bed 81 = .ok (.aload_n 3, 1) := by decide +kernel
theorem dX11_bed_82 : decode cX11_bed 82 = .ok (.putfield 32, 3) := by decide +kernel
theorem dX11_bed_85 : decode cX11_bed 85 = .ok (.aload_n 0, 1) := by decide +kernel
theorem dX11_bed_86 : decode cX11_bed 86 = .ok (.getfield 47, 3) := by decide +kernel
theorem dX11_bed_89 : decode cX11_bed 89 = .ok (.aload_n 0, 1) := by decide +kernel
theorem dX11_bed_90 : decode cX11_bed 90 = .ok (.getfield 28, 3) := by decide +kernel
theorem dX11_bed_93 : decode cX11_bed 93 = .ok (.invokevirtual 80, 3) := by decide +kernel
theorem dX11_bed_96 : decode cX11_bed 96 = .ok (.aload_n 0, 1) := by decide +kernel
theorem dX11_bed_97 : decode cX11_bed 97 = .ok (.iconst 0, 1) := by decide +kernel
theorem dX11_bed_98 : decode cX11_bed 98 = .ok (.putfield 54, 3) := by decide +kernel
theorem dX11_bed_101 : decode cX11_bed 101 = .ok (.aload_n 0, 1) := by decide +kernel
theorem dX11_bed_102 : decode cX11_bed 102 = .ok (.iconst (-1), 1) := by decide +kernel
theorem dX11_bed_103 : decode cX11_bed 103 = .ok (.putfield 61, 3) := by decide +kernel
theorem dX11_bed_106 : decode cX11_bed 106 = .ok (.iconst 0, 1) := by decide +kernel
theorem dX11_bed_107 : decode cX11_bed 107 = .ok (.ireturn, 1) := by decide +kernel
theorem dX11_fault_0 : decode cX11_fault 0 = .ok (.aload_n 0, 1) := by decide +kernel
theorem dX11_fault_1 : decode cX11_fault 1 = .ok (.getfield 22, 3) := by decide +kernel
theorem dX11_fault_4 : decode cX11_fault 4 = .ok (.ireturn, 1) := by decide +kernel
theorem dX11_count_0 : decode cX11_count 0 = .ok (.iload_n 1, 1) := by decide +kernel
theorem dX11_count_1 : decode cX11_count 1 = .ok (.tableswitch 257 0 16 #[83, 91, 99, 107, 115, 123, 134, 142, 153, 164, 175, 194, 205, 216, 221, 233, 245], 83) := by decide +kernel
theorem dX11_count_84 : decode cX11_count 84 = .ok (.aload_n 0, 1) := by decide +kernel
theorem dX11_count_85 : decode cX11_count 85 = .ok (.getfield 28, 3) := by decide +kernel
theorem dX11_count_88 : decode cX11_count 88 = .ok (.getfield 101, 3) := by decide +kernel
theorem dX11_count_91 : decode cX11_count 91 = .ok (.ireturn, 1) := by decide +kernel
theorem dX11_count_92 : decode cX11_count 92 = .ok (.aload_n 0, 1) := by decide +kernel
theorem dX11_count_93 : decode cX11_count 93 = .ok (.getfield 28, 3) := by decide +kernel
theorem dX11_count_96 : decode cX11_count 96 = .ok (.getfield 104, 3) := by decide +kernel
theorem dX11_count_99 : decode cX11_count 99 = .ok (.ireturn, 1) := by decide +kernel
theorem dX11_count_100 : decode cX11_count 100 = .ok (.aload_n 0, 1) := by decide +kernel
theorem dX11_count_101 : decode cX11_count 101 = .ok (.getfield 28, 3) := by decide +kernel
theorem dX11_count_104 : decode cX11_count 104 = .ok (.getfield 107, 3) := by decide +kernel
theorem dX11_count_107 : decode cX11_count 107 = .ok (.ireturn, 1) := by decide +kernel
theorem dX11_count_108 : decode cX11_count 108 = .ok (.aload_n 0, 1) := by decide +kernel
theorem dX11_count_109 : decode cX11_count 109 = .ok (.getfield 28, 3) := by decide +kernel
theorem dX11_count_112 : decode cX11_count 112 = .ok (.getfield 110, 3) := by decide +kernel
theorem dX11_count_115 : decode cX11_count 115 = .ok (.ireturn, 1) := by decide +kernel
theorem dX11_count_116 : decode cX11_count 116 = .ok (.aload_n 0, 1) := by decide +kernel
theorem dX11_count_117 : decode cX11_count 117 = .ok (.getfield 28, 3) := by decide +kernel
theorem dX11_count_120 : decode cX11_count 120 = .ok (.getfield 113, 3) := by decide +kernel
theorem dX11_count_123 : decode cX11_count 123 = .ok (.ireturn, 1) := by decide +kernel
theorem dX11_count_124 : decode cX11_count 124 = .ok (.aload_n 0, 1) := by decide +kernel
theorem dX11_count_125 : decode cX11_count 125 = .ok (.getfield 47, 3) := by decide +kernel
theorem dX11_count_128 : decode cX11_count 128 = .ok (.getfield 116, 3) := by decide +kernel
theorem dX11_count_131 : decode cX11_count 131 = .ok (.getfield 119, 3) := by decide +kernel
theorem dX11_count_134 : decode cX11_count 134 = .ok (.ireturn, 1) := by decide +kernel
theorem dX11_count_135 : decode cX11_count 135 = .ok (.aload_n 0, 1) := by decide +kernel
theorem dX11_count_136 : decode cX11_count 136 = .ok (.getfield 28, 3) := by decide +kernel
theorem dX11_count_139 : decode cX11_count 139 = .ok (.getfield 122, 3) := by decide +kernel
theorem dX11_count_142 : decode cX11_count 142 = .ok (.ireturn, 1) := by decide +kernel
theorem dX11_count_143 : decode cX11_count 143 = .ok (.aload_n 0, 1) := by decide +kernel
theorem dX11_count_144 : decode cX11_count 144 = .ok (.getfield 47, 3) := by decide +kernel
theorem dX11_count_147 : decode cX11_count 147 = .ok (.getfield 116, 3) := by decide +kernel
theorem dX11_count_150 : decode cX11_count 150 = .ok (.getfield 125, 3) := by decide +kernel
theorem dX11_count_153 : decode cX11_count 153 = .ok (.ireturn, 1) := by decide +kernel
theorem dX11_count_154 : decode cX11_count 154 = .ok (.aload_n 0, 1) := by decide +kernel
theorem dX11_count_155 : decode cX11_count 155 = .ok (.getfield 47, 3) := by decide +kernel
theorem dX11_count_158 : decode cX11_count 158 = .ok (.getfield 116, 3) := by decide +kernel
theorem dX11_count_161 : decode cX11_count 161 = .ok (.getfield 128, 3) := by decide +kernel
theorem dX11_count_164 : decode cX11_count 164 = .ok (.ireturn, 1) := by decide +kernel
theorem dX11_count_165 : decode cX11_count 165 = .ok (.aload_n 0, 1) := by decide +kernel
theorem dX11_count_166 : decode cX11_count 166 = .ok (.getfield 47, 3) := by decide +kernel
theorem dX11_count_169 : decode cX11_count 169 = .ok (.getfield 116, 3) := by decide +kernel
theorem dX11_count_172 : decode cX11_count 172 = .ok (.getfield 131, 3) := by decide +kernel
theorem dX11_count_175 : decode cX11_count 175 = .ok (.ireturn, 1) := by decide +kernel
theorem dX11_count_176 : decode cX11_count 176 = .ok (.aload_n 0, 1) := by decide +kernel
theorem dX11_count_177 : decode cX11_count 177 = .ok (.getfield 47, 3) := by decide +kernel
theorem dX11_count_180 : decode cX11_count 180 = .ok (.getfield 116, 3) := by decide +kernel
theorem dX11_count_183 : decode cX11_count 183 = .ok (.getfield 134, 3) := by decide +kernel
theorem dX11_count_186 : decode cX11_count 186 = .ok (.ifCond .eq 7, 3) := by decide +kernel
theorem dX11_count_189 : decode cX11_count 189 = .ok (.iconst 1, 1) := by decide +kernel
theorem dX11_count_190 : decode cX11_count 190 = .ok (.goto 4, 3) := by decide +kernel
theorem dX11_count_193 : decode cX11_count 193 = .ok (.iconst 0, 1) := by decide +kernel
theorem dX11_count_194 : decode cX11_count 194 = .ok (.ireturn, 1) := by decide +kernel
theorem dX11_count_195 : decode cX11_count 195 = .ok (.aload_n 0, 1) := by decide +kernel
theorem dX11_count_196 : decode cX11_count 196 = .ok (.getfield 47, 3) := by decide +kernel
theorem dX11_count_199 : decode cX11_count 199 = .ok (.getfield 137, 3) := by decide +kernel
theorem dX11_count_202 : decode cX11_count 202 = .ok (.getfield 141, 3) := by decide +kernel
theorem dX11_count_205 : decode cX11_count 205 = .ok (.ireturn, 1) := by decide +kernel
theorem dX11_count_206 : decode cX11_count 206 = .ok (.aload_n 0, 1) := by decide +kernel
theorem dX11_count_207 : decode cX11_count 207 = .ok (.getfield 47, 3) := by decide +kernel
theorem dX11_count_210 : decode cX11_count 210 = .ok (.getfield 146, 3) := by decide +kernel
theorem dX11_count_213 : decode cX11_count 213 = .ok (.getfield 141, 3) := by decide +kernel
theorem dX11_count_216 : decode cX11_count 216 = .ok (.ireturn, 1) := by decide +kernel
theorem dX11_count_217 : decode cX11_count 217 = .ok (.aload_n 0, 1) := by decide +kernel
theorem dX11_count_218 : decode cX11_count 218 = .ok (.getfield 18, 3) := by decide +kernel
theorem dX11_count_221 : decode cX11_count 221 = .ok (.ireturn, 1) := by decide +kernel
theorem dX11_count_222 : decode cX11_count 222 = .ok (.aload_n 0, 1) := by decide +kernel
theorem dX11_count_223 : decode cX11_count 223 = .ok (.getfield 47, 3) := by decide +kernel
theorem dX11_count_226 : decode cX11_count 226 = .ok (.getfield 149, 3) := by decide +kernel
theorem dX11_count_229 : decode cX11_count 229 = .ok (.iconst 0, 1) := by decide +kernel
theorem dX11_count_230 : decode cX11_count 230 = .ok (.invokevirtual 152, 3) := by decide +kernel
theorem dX11_count_233 : decode cX11_count 233 = .ok (.ireturn, 1) := by decide +kernel
theorem dX11_count_234 : decode cX11_count 234 = .ok (.aload_n 0, 1) := by decide +kernel
theorem dX11_count_235 : decode cX11_count 235 = .ok (.getfield 47, 3) := by decide +kernel
theorem dX11_count_238 : decode cX11_count 238 = .ok (.getfield 149, 3) := by decide +kernel
theorem dX11_count_241 : decode cX11_count 241 = .ok (.iconst 1, 1) := by decide +kernel
theorem dX11_count_242 : decode cX11_count 242 = .ok (.invokevirtual 152, 3) := by decide +kernel
theorem dX11_count_245 : decode cX11_count 245 = .ok (.ireturn, 1) := by decide +kernel
theorem dX11_count_246 : decode cX11_count 246 = .ok (.aload_n 0, 1) := by decide +kernel
theorem dX11_count_247 : decode cX11_count 247 = .ok (.getfield 47, 3) := by decide +kernel
theorem dX11_count_250 : decode cX11_count 250 = .ok (.getfield 149, 3) := by decide +kernel
theorem dX11_count_253 : decode cX11_count 253 = .ok (.iconst 2, 1) := by decide +kernel
theorem dX11_count_254 : decode cX11_count 254 = .ok (.invokevirtual 152, 3) := by decide +kernel
theorem dX11_count_257 : decode cX11_count 257 = .ok (.ireturn, 1) := by decide +kernel
theorem dX11_count_258 : decode cX11_count 258 = .ok (.new 156, 3) := by decide +kernel
theorem dX11_count_261 : decode cX11_count 261 = .ok (.dup, 1) := by decide +kernel
theorem dX11_count_262 : decode cX11_count 262 = .ok (.invokespecial 158, 3) := by decide +kernel
theorem dX11_count_265 : decode cX11_count 265 = .ok (.athrow, 1) := by decide +kernel
theorem dX11_sleeper_0 : decode cX11_sleeper 0 = .ok (.aload_n 0, 1) := by decide +kernel
theorem dX11_sleeper_1 : decode cX11_sleeper 1 = .ok (.iload_n 1, 1) := by decide +kernel
theorem dX11_sleeper_2 : decode cX11_sleeper 2 = .ok (.invokevirtual 159, 3) := by decide +kernel
theorem dX11_sleeper_5 : decode cX11_sleeper 5 = .ok (.astore_n 3, 1) := by decide +kernel
theorem dX11_sleeper_6 : decode cX11_sleeper 6 = .ok (.iload_n 2, 1) := by decide +kernel
theorem dX11_sleeper_7 : decode cX11_sleeper 7 = .ok (.tableswitch 118 0 8 #[49, 54, 59, 64, 69, 74, 89, 94, 106], 49) := by decide +kernel
theorem dX11_sleeper_56 : decode cX11_sleeper 56 = .ok (.aload_n 3, 1) := by decide +kernel
theorem dX11_sleeper_57 : decode cX11_sleeper 57 = .ok (.getfield 163, 3) := by decide +kernel
theorem dX11_sleeper_60 : decode cX11_sleeper 60 = .ok (.ireturn, 1) := by decide +kernel
theorem dX11_sleeper_61 : decode cX11_sleeper 61 = .ok (.aload_n 3, 1) := by decide +kernel
theorem dX11_sleeper_62 : decode cX11_sleeper 62 = .ok (.getfield 168, 3) := by decide +kernel
theorem dX11_sleeper_65 : decode cX11_sleeper 65 = .ok (.ireturn, 1) := by decide +kernel
theorem dX11_sleeper_66 : decode cX11_sleeper 66 = .ok (.aload_n 3, 1) := by decide +kernel
theorem dX11_sleeper_67 : decode cX11_sleeper 67 = .ok (.getfield 171, 3) := by decide +kernel
theorem dX11_sleeper_70 : decode cX11_sleeper 70 = .ok (.ireturn, 1) := by decide +kernel
theorem dX11_sleeper_71 : decode cX11_sleeper 71 = .ok (.aload_n 3, 1) := by decide +kernel
theorem dX11_sleeper_72 : decode cX11_sleeper 72 = .ok (.getfield 174, 3) := by decide +kernel
theorem dX11_sleeper_75 : decode cX11_sleeper 75 = .ok (.ireturn, 1) := by decide +kernel
theorem dX11_sleeper_76 : decode cX11_sleeper 76 = .ok (.aload_n 3, 1) := by decide +kernel
theorem dX11_sleeper_77 : decode cX11_sleeper 77 = .ok (.getfield 177, 3) := by decide +kernel
theorem dX11_sleeper_80 : decode cX11_sleeper 80 = .ok (.ireturn, 1) := by decide +kernel
theorem dX11_sleeper_81 : decode cX11_sleeper 81 = .ok (.aload_n 0, 1) := by decide +kernel
theorem dX11_sleeper_82 : decode cX11_sleeper 82 = .ok (.getfield 47, 3) := by decide +kernel
theorem dX11_sleeper_85 : decode cX11_sleeper 85 = .ok (.getfield 116, 3) := by decide +kernel
theorem dX11_sleeper_88 : decode cX11_sleeper 88 = .ok (.getfield 180, 3) := by decide +kernel
theorem dX11_sleeper_91 : decode cX11_sleeper 91 = .ok (.iload_n 1, 1) := by decide +kernel
theorem dX11_sleeper_92 : decode cX11_sleeper 92 = .ok (.invokevirtual 152, 3) := by decide +kernel
theorem dX11_sleeper_95 : decode cX11_sleeper 95 = .ok (.ireturn, 1) := by decide +kernel
theorem dX11_sleeper_96 : decode cX11_sleeper 96 = .ok (.aload_n 3, 1) := by decide +kernel
theorem dX11_sleeper_97 : decode cX11_sleeper 97 = .ok (.getfield 183, 3) := by decide +kernel
theorem dX11_sleeper_100 : decode cX11_sleeper 100 = .ok (.ireturn, 1) := by decide +kernel
theorem dX11_sleeper_101 : decode cX11_sleeper 101 = .ok (.aload_n 0, 1) := by decide +kernel
theorem dX11_sleeper_102 : decode cX11_sleeper 102 = .ok (.getfield 47, 3) := by decide +kernel
theorem dX11_sleeper_105 : decode cX11_sleeper 105 = .ok (.getfield 116, 3) := by decide +kernel
theorem dX11_sleeper_108 : decode cX11_sleeper 108 = .ok (.iload_n 1, 1) := by decide +kernel
theorem dX11_sleeper_109 : decode cX11_sleeper 109 = .ok (.invokevirtual 186, 3) := by decide +kernel
theorem dX11_sleeper_112 : decode cX11_sleeper 112 = .ok (.ireturn, 1) := by decide +kernel
theorem dX11_sleeper_113 : decode cX11_sleeper 113 = .ok (.aload_n 0, 1) := by decide +kernel
theorem dX11_sleeper_114 : decode cX11_sleeper 114 = .ok (.getfield 28, 3) := by decide +kernel
theorem dX11_sleeper_117 : decode cX11_sleeper 117 = .ok (.getfield 189, 3) := by decide +kernel
theorem dX11_sleeper_120 : decode cX11_sleeper 120 = .ok (.iload_n 1, 1) := by decide +kernel
theorem dX11_sleeper_121 : decode cX11_sleeper 121 = .ok (.invokevirtual 152, 3) := by decide +kernel
theorem dX11_sleeper_124 : decode cX11_sleeper 124 = .ok (.ireturn, 1) := by decide +kernel
theorem dX11_sleeper_125 : decode cX11_sleeper 125 = .ok (.new 156, 3) := by decide +kernel
theorem dX11_sleeper_128 : decode cX11_sleeper 128 = .ok (.dup, 1) := by decide +kernel
theorem dX11_sleeper_129 : decode cX11_sleeper 129 = .ok (.invokespecial 158, 3) := by decide +kernel
theorem dX11_sleeper_132 : decode cX11_sleeper 132 = .ok (.athrow, 1) := by decide +kernel
theorem dX11_toldSleeper_0 : decode cX11_toldSleeper 0 = .ok (.aload_n 0, 1) := by decide +kernel
theorem dX11_toldSleeper_1 : decode cX11_toldSleeper 1 = .ok (.iload_n 1, 1) := by decide +kernel
theorem dX11_toldSleeper_2 : decode cX11_toldSleeper 2 = .ok (.aload_n 0, 1) := by decide +kernel
theorem dX11_toldSleeper_3 : decode cX11_toldSleeper 3 = .ok (.getfield 28, 3) := by decide +kernel
theorem dX11_toldSleeper_6 : decode cX11_toldSleeper 6 = .ok (.getfield 101, 3) := by decide +kernel
theorem dX11_toldSleeper_9 : decode cX11_toldSleeper 9 = .ok (.invokevirtual 192, 3) := by decide +kernel
theorem dX11_toldSleeper_12 : decode cX11_toldSleeper 12 = .ok (.aload_n 0, 1) := by decide +kernel
theorem dX11_toldSleeper_13 : decode cX11_toldSleeper 13 = .ok (.getfield 28, 3) := by decide +kernel
theorem dX11_toldSleeper_16 : decode cX11_toldSleeper 16 = .ok (.iload_n 1, 1) := by decide +kernel
theorem dX11_toldSleeper_17 : decode cX11_toldSleeper 17 = .ok (.invokevirtual 195, 3) := by decide +kernel
theorem dX11_toldSleeper_20 : decode cX11_toldSleeper 20 = .ok (.areturn, 1) := by decide +kernel
theorem dX11_checkNumber_0 : decode cX11_checkNumber 0 = .ok (.iload_n 1, 1) := by decide +kernel
theorem dX11_checkNumber_1 : decode cX11_checkNumber 1 = .ok (.ifCond .lt 8, 3) := by decide +kernel
theorem dX11_checkNumber_4 : decode cX11_checkNumber 4 = .ok (.iload_n 1, 1) := by decide +kernel
theorem dX11_checkNumber_5 : decode cX11_checkNumber 5 = .ok (.iload_n 2, 1) := by decide +kernel
theorem dX11_checkNumber_6 : decode cX11_checkNumber 6 = .ok (.if_icmp .lt 11, 3) := by decide +kernel
theorem dX11_checkNumber_9 : decode cX11_checkNumber 9 = .ok (.new 156, 3) := by decide +kernel
theorem dX11_checkNumber_12 : decode cX11_checkNumber 12 = .ok (.dup, 1) := by decide +kernel
theorem dX11_checkNumber_13 : decode cX11_checkNumber 13 = .ok (.invokespecial 158, 3) := by decide +kernel
theorem dX11_checkNumber_16 : decode cX11_checkNumber 16 = .ok (.athrow, 1) := by decide +kernel
theorem dX11_checkNumber_17 : decode cX11_checkNumber 17 = .ok (.return_, 1) := by decide +kernel
theorem dX11_checkBound_0 : decode cX11_checkBound 0 = .ok (.iload_n 1, 1) := by decide +kernel
theorem dX11_checkBound_1 : decode cX11_checkBound 1 = .ok (.ifCond .lt 8, 3) := by decide +kernel
theorem dX11_checkBound_4 : decode cX11_checkBound 4 = .ok (.iload_n 1, 1) := by decide +kernel
theorem dX11_checkBound_5 : decode cX11_checkBound 5 = .ok (.iload_n 2, 1) := by decide +kernel
theorem dX11_checkBound_6 : decode cX11_checkBound 6 = .ok (.if_icmp .le 11, 3) := by decide +kernel
theorem dX11_checkBound_9 : decode cX11_checkBound 9 = .ok (.new 90, 3) := by decide +kernel
theorem dX11_checkBound_12 : decode cX11_checkBound 12 = .ok (.dup, 1) := by decide +kernel
theorem dX11_checkBound_13 : decode cX11_checkBound 13 = .ok (.invokespecial 92, 3) := by decide +kernel
theorem dX11_checkBound_16 : decode cX11_checkBound 16 = .ok (.athrow, 1) := by decide +kernel
theorem dX11_checkBound_17 : decode cX11_checkBound 17 = .ok (.return_, 1) := by decide +kernel
theorem dX11_swap_0 : decode cX11_swap 0 = .ok (.aload_n 0, 1) := by decide +kernel
theorem dX11_swap_1 : decode cX11_swap 1 = .ok (.iload_n 1, 1) := by decide +kernel
theorem dX11_swap_2 : decode cX11_swap 2 = .ok (.invokevirtual 198, 3) := by decide +kernel
theorem dX11_swap_5 : decode cX11_swap 5 = .ok (.ifCond .eq 16, 3) := by decide +kernel
theorem dX11_swap_8 : decode cX11_swap 8 = .ok (.aload_n 0, 1) := by decide +kernel
theorem dX11_swap_9 : decode cX11_swap 9 = .ok (.iload_n 2, 1) := by decide +kernel
theorem dX11_swap_10 : decode cX11_swap 10 = .ok (.invokevirtual 198, 3) := by decide +kernel
theorem dX11_swap_13 : decode cX11_swap 13 = .ok (.ifCond .eq 8, 3) := by decide +kernel
theorem dX11_swap_16 : decode cX11_swap 16 = .ok (.iload_n 1, 1) := by decide +kernel
theorem dX11_swap_17 : decode cX11_swap 17 = .ok (.iload_n 2, 1) := by decide +kernel
theorem dX11_swap_18 : decode cX11_swap 18 = .ok (.if_icmp .ne 13, 3) := by decide +kernel
theorem dX11_swap_21 : decode cX11_swap 21 = .ok (.aload_n 0, 1) := by decide +kernel
theorem dX11_swap_22 : decode cX11_swap 22 = .ok (.getfield 47, 3) := by decide +kernel
theorem dX11_swap_25 : decode cX11_swap 25 = .ok (.iconst 1, 1) := by decide +kernel
theorem dX11_swap_26 : decode cX11_swap 26 = .ok (.invokevirtual 98, 3) := by decide +kernel
theorem dX11_swap_29 : decode cX11_swap 29 = .ok (.iconst 0, 1) := by decide +kernel
theorem dX11_swap_30 : decode cX11_swap 30 = .ok (.ireturn, 1) := by decide +kernel
theorem dX11_swap_31 : decode cX11_swap 31 = .ok (.aload_n 0, 1) := by decide +kernel
theorem dX11_swap_32 : decode cX11_swap 32 = .ok (.getfield 47, 3) := by decide +kernel
theorem dX11_swap_35 : decode cX11_swap 35 = .ok (.getfield 116, 3) := by decide +kernel
theorem dX11_swap_38 : decode cX11_swap 38 = .ok (.getfield 202, 3) := by decide +kernel
theorem dX11_swap_41 : decode cX11_swap 41 = .ok (.iload_n 1, 1) := by decide +kernel
theorem dX11_swap_42 : decode cX11_swap 42 = .ok (.iload_n 2, 1) := by decide +kernel
theorem dX11_swap_43 : decode cX11_swap 43 = .ok (.invokevirtual 205, 3) := by decide +kernel
theorem dX11_swap_46 : decode cX11_swap 46 = .ok (.aload_n 0, 1) := by decide +kernel
theorem dX11_swap_47 : decode cX11_swap 47 = .ok (.getfield 47, 3) := by decide +kernel
theorem dX11_swap_50 : decode cX11_swap 50 = .ok (.getfield 137, 3) := by decide +kernel
theorem dX11_swap_53 : decode cX11_swap 53 = .ok (.iconst 0, 1) := by decide +kernel
theorem dX11_swap_54 : decode cX11_swap 54 = .ok (.iload_n 1, 1) := by decide +kernel
theorem dX11_swap_55 : decode cX11_swap 55 = .ok (.iload_n 2, 1) := by decide +kernel
theorem dX11_swap_56 : decode cX11_swap 56 = .ok (.invokevirtual 208, 3) := by decide +kernel
theorem dX11_swap_59 : decode cX11_swap 59 = .ok (.iconst 1, 1) := by decide +kernel
theorem dX11_swap_60 : decode cX11_swap 60 = .ok (.ireturn, 1) := by decide +kernel
theorem dX11_isPlace_0 : decode cX11_isPlace 0 = .ok (.iload_n 1, 1) := by decide +kernel
theorem dX11_isPlace_1 : decode cX11_isPlace 1 = .ok (.ifCond .lt 18, 3) := by decide +kernel
theorem dX11_isPlace_4 : decode cX11_isPlace 4 = .ok (.iload_n 1, 1) := by decide +kernel
theorem dX11_isPlace_5 : decode cX11_isPlace 5 = .ok (.aload_n 0, 1) := by decide +kernel
theorem dX11_isPlace_6 : decode cX11_isPlace 6 = .ok (.getfield 28, 3) := by decide +kernel
theorem dX11_isPlace_9 : decode cX11_isPlace 9 = .ok (.getfield 101, 3) := by decide +kernel
theorem dX11_isPlace_12 : decode cX11_isPlace 12 = .ok (.if_icmp .ge 7, 3) := by decide +kernel
theorem dX11_isPlace_15 : decode cX11_isPlace 15 = .ok (.iconst 1, 1) := by decide +kernel
theorem dX11_isPlace_16 : decode cX11_isPlace 16 = .ok (.goto 4, 3) := by decide +kernel
theorem dX11_isPlace_19 : decode cX11_isPlace 19 = .ok (.iconst 0, 1) := by decide +kernel
theorem dX11_isPlace_20 : decode cX11_isPlace 20 = .ok (.ireturn, 1) := by decide +kernel
theorem dX11_side_0 : decode cX11_side 0 = .ok (.iload_n 1, 1) := by decide +kernel
theorem dX11_side_1 : decode cX11_side 1 = .ok (.ifCond .eq 18, 3) := by decide +kernel
theorem dX11_side_4 : decode cX11_side 4 = .ok (.iload_n 1, 1) := by decide +kernel
theorem dX11_side_5 : decode cX11_side 5 = .ok (.iconst 1, 1) := by decide +kernel
theorem dX11_side_6 : decode cX11_side 6 = .ok (.if_icmp .eq 13, 3) := by decide +kernel
theorem dX11_side_9 : decode cX11_side 9 = .ok (.aload_n 0, 1) := by decide +kernel
theorem dX11_side_10 : decode cX11_side 10 = .ok (.getfield 47, 3) := by decide +kernel
theorem dX11_side_13 : decode cX11_side 13 = .ok (.iconst 1, 1) := by decide +kernel
theorem dX11_side_14 : decode cX11_side 14 = .ok (.invokevirtual 98, 3) := by decide +kernel
theorem dX11_side_17 : decode cX11_side 17 = .ok (.iconst (-1), 1) := by decide +kernel
theorem dX11_side_18 : decode cX11_side 18 = .ok (.ireturn, 1) := by decide +kernel
theorem dX11_side_19 : decode cX11_side 19 = .ok (.aload_n 0, 1) := by decide +kernel
theorem dX11_side_20 : decode cX11_side 20 = .ok (.getfield 47, 3) := by decide +kernel
theorem dX11_side_23 : decode cX11_side 23 = .ok (.getfield 116, 3) := by decide +kernel
theorem dX11_side_26 : decode cX11_side 26 = .ok (.getfield 125, 3) := by decide +kernel
theorem dX11_side_29 : decode cX11_side 29 = .ok (.istore_n 2, 1) := by decide +kernel
theorem dX11_side_30 : decode cX11_side 30 = .ok (.aload_n 0, 1) := by decide +kernel
theorem dX11_side_31 : decode cX11_side 31 = .ok (.getfield 47, 3) := by decide +kernel
theorem dX11_side_34 : decode cX11_side 34 = .ok (.getfield 137, 3) := by decide +kernel
theorem dX11_side_37 : decode cX11_side 37 = .ok (.iconst 1, 1) := by decide +kernel
theorem dX11_side_38 : decode cX11_side 38 = .ok (.iload_n 2, 1) := by decide +kernel
theorem dX11_side_39 : decode cX11_side 39 = .ok (.iconst 0, 1) := by decide +kernel
theorem dX11_side_40 : decode cX11_side 40 = .ok (.invokevirtual 208, 3) := by decide +kernel
theorem dX11_side_43 : decode cX11_side 43 = .ok (.aload_n 0, 1) := by decide +kernel
theorem dX11_side_44 : decode cX11_side 44 = .ok (.getfield 47, 3) := by decide +kernel
theorem dX11_side_47 : decode cX11_side 47 = .ok (.getfield 116, 3) := by decide +kernel
theorem dX11_side_50 : decode cX11_side 50 = .ok (.iload_n 1, 1) := by decide +kernel
theorem dX11_side_51 : decode cX11_side 51 = .ok (.putfield 125, 3) := by decide +kernel
theorem dX11_side_54 : decode cX11_side 54 = .ok (.iload_n 2, 1) := by decide +kernel
theorem dX11_side_55 : decode cX11_side 55 = .ok (.ireturn, 1) := by decide +kernel
theorem dX11_word_0 : decode cX11_word 0 = .ok (.aload_n 0, 1) := by decide +kernel
theorem dX11_word_1 : decode cX11_word 1 = .ok (.iload_n 1, 1) := by decide +kernel
theorem dX11_word_2 : decode cX11_word 2 = .ok (.invokevirtual 159, 3) := by decide +kernel
theorem dX11_word_5 : decode cX11_word 5 = .ok (.astore_n 3, 1) := by decide +kernel
theorem dX11_word_6 : decode cX11_word 6 = .ok (.iload_n 2, 1) := by decide +kernel
theorem dX11_word_7 : decode cX11_word 7 = .ok (.ifCond .lt 18, 3) := by decide +kernel
theorem dX11_word_10 : decode cX11_word 10 = .ok (.iload_n 2, 1) := by decide +kernel
theorem dX11_word_11 : decode cX11_word 11 = .ok (.sipush 240, 3) := by decide +kernel
theorem dX11_word_14 : decode cX11_word 14 = .ok (.if_icmp .gt 11, 3) := by decide +kernel
theorem dX11_word_17 : decode cX11_word 17 = .ok (.aload_n 3, 1) := by decide +kernel
theorem dX11_word_18 : decode cX11_word 18 = .ok (.getfield 163, 3) := by decide +kernel
theorem dX11_word_21 : decode cX11_word 21 = .ok (.iconst 3, 1) := by decide +kernel
theorem dX11_word_22 : decode cX11_word 22 = .ok (.if_icmp .ne 13, 3) := by decide +kernel
theorem dX11_word_25 : decode cX11_word 25 = .ok (.aload_n 0, 1) := by decide +kernel
theorem dX11_word_26 : decode cX11_word 26 = .ok (.getfield 47, 3) := by decide +kernel
theorem dX11_word_29 : decode cX11_word 29 = .ok (.iconst 1, 1) := by decide +kernel
theorem dX11_word_30 : decode cX11_word 30 = .ok (.invokevirtual 98, 3) := by decide +kernel
theorem dX11_word_33 : decode cX11_word 33 = .ok (.iconst (-1), 1) := by decide +kernel
theorem dX11_word_34 : decode cX11_word 34 = .ok (.ireturn, 1) := by decide +kernel
theorem dX11_word_35 : decode cX11_word 35 = .ok (.aload_n 0, 1) := by decide +kernel
theorem dX11_word_36 : decode cX11_word 36 = .ok (.getfield 47, 3) := by decide +kernel
theorem dX11_word_39 : decode cX11_word 39 = .ok (.getfield 116, 3) := by decide +kernel
theorem dX11_word_42 : decode cX11_word 42 = .ok (.getfield 131, 3) := by decide +kernel
theorem dX11_word_45 : decode cX11_word 45 = .ok (.istore 4, 2) := by decide +kernel
theorem dX11_word_47 : decode cX11_word 47 = .ok (.aload_n 0, 1) := by decide +kernel
theorem dX11_word_48 : decode cX11_word 48 = .ok (.getfield 47, 3) := by decide +kernel
theorem dX11_word_51 : decode cX11_word 51 = .ok (.getfield 137, 3) := by decide +kernel
theorem dX11_word_54 : decode cX11_word 54 = .ok (.iconst 2, 1) := by decide +kernel
theorem dX11_word_55 : decode cX11_word 55 = .ok (.aload_n 0, 1) := by decide +kernel
theorem dX11_word_56 : decode cX11_word 56 = .ok (.getfield 47, 3) := by decide +kernel
theorem dX11_word_59 : decode cX11_word 59 = .ok (.getfield 116, 3) := by decide +kernel
theorem dX11_word_62 : decode cX11_word 62 = .ok (.getfield 128, 3) := by decide +kernel
theorem dX11_word_65 : decode cX11_word 65 = .ok (.iload 4, 2) := by decide +kernel
theorem dX11_word_67 : decode cX11_word 67 = .ok (.invokevirtual 208, 3) := by decide +kernel
theorem dX11_word_70 : decode cX11_word 70 = .ok (.aload_n 0, 1) := by decide +kernel
theorem dX11_word_71 : decode cX11_word 71 = .ok (.getfield 47, 3) := by decide +kernel
theorem dX11_word_74 : decode cX11_word 74 = .ok (.getfield 116, 3) := by decide +kernel
theorem dX11_word_77 : decode cX11_word 77 = .ok (.iload_n 1, 1) := by decide +kernel
theorem dX11_word_78 : decode cX11_word 78 = .ok (.iload_n 2, 1) := by decide +kernel
theorem dX11_word_79 : decode cX11_word 79 = .ok (.invokevirtual 212, 3) := by decide +kernel
theorem dX11_word_82 : decode cX11_word 82 = .ok (.iload 4, 2) := by decide +kernel
theorem dX11_word_84 : decode cX11_word 84 = .ok (.ireturn, 1) := by decide +kernel
theorem dX11_bolster_0 : decode cX11_bolster 0 = .ok (.iload_n 1, 1) := by decide +kernel
theorem dX11_bolster_1 : decode cX11_bolster 1 = .ok (.iconst 1, 1) := by decide +kernel
theorem dX11_bolster_2 : decode cX11_bolster 2 = .ok (.if_icmp .lt 24, 3) := by decide +kernel
theorem dX11_bolster_5 : decode cX11_bolster 5 = .ok (.iload_n 1, 1) := by decide +kernel
theorem dX11_bolster_6 : decode cX11_bolster 6 = .ok (.bipush 6, 2) := by decide +kernel
theorem dX11_bolster_8 : decode cX11_bolster 8 = .ok (.if_icmp .gt 18, 3) := by decide +kernel
theorem dX11_bolster_11 : decode cX11_bolster 11 = .ok (.aload_n 0, 1) := by decide +kernel
theorem dX11_bolster_12 : decode cX11_bolster 12 = .ok (.getfield 47, 3) := by decide +kernel
theorem dX11_bolster_15 : decode cX11_bolster 15 = .ok (.getfield 116, 3) := by decide +kernel
theorem dX11_bolster_18 : decode cX11_bolster 18 = .ok (.iload_n 1, 1) := by decide +kernel
theorem dX11_bolster_19 : decode cX11_bolster 19 = .ok (.invokevirtual 215, 3) := by decide +kernel
theorem dX11_bolster_22 : decode cX11_bolster 22 = .ok (.iload_n 2, 1) := by decide +kernel
theorem dX11_bolster_23 : decode cX11_bolster 23 = .ok (.if_icmp .ne 13, 3) := by decide +kernel
theorem dX11_bolster_26 : decode cX11_bolster 26 = .ok (.aload_n 0, 1) := by decide +kernel
theorem dX11_bolster_27 : decode cX11_bolster 27 = .ok (.getfield 47, 3) := by decide +kernel
theorem dX11_bolster_30 : decode cX11_bolster 30 = .ok (.iconst 1, 1) := by decide +kernel
theorem dX11_bolster_31 : decode cX11_bolster 31 = .ok (.invokevirtual 98, 3) := by decide +kernel
theorem dX11_bolster_34 : decode cX11_bolster 34 = .ok (.iconst 0, 1) := by decide +kernel
theorem dX11_bolster_35 : decode cX11_bolster 35 = .ok (.ireturn, 1) := by decide +kernel
theorem dX11_bolster_36 : decode cX11_bolster 36 = .ok (.aload_n 0, 1) := by decide +kernel
theorem dX11_bolster_37 : decode cX11_bolster 37 = .ok (.getfield 47, 3) := by decide +kernel
theorem dX11_bolster_40 : decode cX11_bolster 40 = .ok (.getfield 137, 3) := by decide +kernel
theorem dX11_bolster_43 : decode cX11_bolster 43 = .ok (.iconst 3, 1) := by decide +kernel
theorem dX11_bolster_44 : decode cX11_bolster 44 = .ok (.iload_n 1, 1) := by decide +kernel
theorem dX11_bolster_45 : decode cX11_bolster 45 = .ok (.iconst 0, 1) := by decide +kernel
theorem dX11_bolster_46 : decode cX11_bolster 46 = .ok (.invokevirtual 208, 3) := by decide +kernel
theorem dX11_bolster_49 : decode cX11_bolster 49 = .ok (.aload_n 0, 1) := by decide +kernel
theorem dX11_bolster_50 : decode cX11_bolster 50 = .ok (.getfield 47, 3) := by decide +kernel
theorem dX11_bolster_53 : decode cX11_bolster 53 = .ok (.getfield 116, 3) := by decide +kernel
theorem dX11_bolster_56 : decode cX11_bolster 56 = .ok (.iload_n 1, 1) := by decide +kernel
theorem dX11_bolster_57 : decode cX11_bolster 57 = .ok (.invokevirtual 218, 3) := by decide +kernel
theorem dX11_bolster_60 : decode cX11_bolster 60 = .ok (.iconst 1, 1) := by decide +kernel
theorem dX11_bolster_61 : decode cX11_bolster 61 = .ok (.ireturn, 1) := by decide +kernel
theorem dX11_out_0 : decode cX11_out 0 = .ok (.aload_n 0, 1) := by decide +kernel
theorem dX11_out_1 : decode cX11_out 1 = .ok (.iload_n 1, 1) := by decide +kernel
theorem dX11_out_2 : decode cX11_out 2 = .ok (.invokevirtual 159, 3) := by decide +kernel
theorem dX11_out_5 : decode cX11_out 5 = .ok (.astore_n 3, 1) := by decide +kernel
theorem dX11_out_6 : decode cX11_out 6 = .ok (.iload_n 2, 1) := by decide +kernel
theorem dX11_out_7 : decode cX11_out 7 = .ok (.ifCond .lt 18, 3) := by decide +kernel
theorem dX11_out_10 : decode cX11_out 10 = .ok (.iload_n 2, 1) := by decide +kernel
theorem dX11_out_11 : decode cX11_out 11 = .ok (.sipush 600, 3) := by decide +kernel
theorem dX11_out_14 : decode cX11_out 14 = .ok (.if_icmp .gt 11, 3) := by decide +kernel
theorem dX11_out_17 : decode cX11_out 17 = .ok (.aload_n 3, 1) := by decide +kernel
theorem dX11_out_18 : decode cX11_out 18 = .ok (.getfield 163, 3) := by decide +kernel
theorem dX11_out_21 : decode cX11_out 21 = .ok (.iconst 3, 1) := by decide +kernel
theorem dX11_out_22 : decode cX11_out 22 = .ok (.if_icmp .ne 13, 3) := by decide +kernel
theorem dX11_out_25 : decode cX11_out 25 = .ok (.aload_n 0, 1) := by decide +kernel
theorem dX11_out_26 : decode cX11_out 26 = .ok (.getfield 47, 3) := by decide +kernel
theorem dX11_out_29 : decode cX11_out 29 = .ok (.iconst 1, 1) := by decide +kernel
theorem dX11_out_30 : decode cX11_out 30 = .ok (.invokevirtual 98, 3) := by decide +kernel
theorem dX11_out_33 : decode cX11_out 33 = .ok (.iconst (-1), 1) := by decide +kernel
theorem dX11_out_34 : decode cX11_out 34 = .ok (.ireturn, 1) := by decide +kernel
theorem dX11_out_35 : decode cX11_out 35 = .ok (.aload_n 0, 1) := by decide +kernel
theorem dX11_out_36 : decode cX11_out 36 = .ok (.getfield 47, 3) := by decide +kernel
theorem dX11_out_39 : decode cX11_out 39 = .ok (.getfield 116, 3) := by decide +kernel
theorem dX11_out_42 : decode cX11_out 42 = .ok (.getfield 180, 3) := by decide +kernel
theorem dX11_out_45 : decode cX11_out 45 = .ok (.iload_n 1, 1) := by decide +kernel
theorem dX11_out_46 : decode cX11_out 46 = .ok (.invokevirtual 152, 3) := by decide +kernel
theorem dX11_out_49 : decode cX11_out 49 = .ok (.istore 4, 2) := by decide +kernel
theorem dX11_out_51 : decode cX11_out 51 = .ok (.aload_n 0, 1) := by decide +kernel
theorem dX11_out_52 : decode cX11_out 52 = .ok (.getfield 47, 3) := by decide +kernel
theorem dX11_out_55 : decode cX11_out 55 = .ok (.getfield 137, 3) := by decide +kernel
theorem dX11_out_58 : decode cX11_out 58 = .ok (.iconst 4, 1) := by decide +kernel
theorem dX11_out_59 : decode cX11_out 59 = .ok (.iload_n 1, 1) := by decide +kernel
theorem dX11_out_60 : decode cX11_out 60 = .ok (.iload 4, 2) := by decide +kernel
theorem dX11_out_62 : decode cX11_out 62 = .ok (.invokevirtual 208, 3) := by decide +kernel
theorem dX11_out_65 : decode cX11_out 65 = .ok (.aload_n 0, 1) := by decide +kernel
theorem dX11_out_66 : decode cX11_out 66 = .ok (.getfield 47, 3) := by decide +kernel
theorem dX11_out_69 : decode cX11_out 69 = .ok (.getfield 116, 3) := by decide +kernel
theorem dX11_out_72 : decode cX11_out 72 = .ok (.getfield 180, 3) := by decide +kernel
theorem dX11_out_75 : decode cX11_out 75 = .ok (.iload_n 1, 1) := by decide +kernel
theorem dX11_out_76 : decode cX11_out 76 = .ok (.iload_n 2, 1) := by decide +kernel
theorem dX11_out_77 : decode cX11_out 77 = .ok (.invokevirtual 86, 3) := by decide +kernel
theorem dX11_out_80 : decode cX11_out 80 = .ok (.iload 4, 2) := by decide +kernel
theorem dX11_out_82 : decode cX11_out 82 = .ok (.ireturn, 1) := by decide +kernel
theorem dX11_undo_0 : decode cX11_undo 0 = .ok (.aload_n 0, 1) := by decide +kernel
theorem dX11_undo_1 : decode cX11_undo 1 = .ok (.getfield 47, 3) := by decide +kernel
theorem dX11_undo_4 : decode cX11_undo 4 = .ok (.getfield 137, 3) := by decide +kernel
theorem dX11_undo_7 : decode cX11_undo 7 = .ok (.getfield 141, 3) := by decide +kernel
theorem dX11_undo_10 : decode cX11_undo 10 = .ok (.ifCond .ne 5, 3) := by decide +kernel
theorem dX11_undo_13 : decode cX11_undo 13 = .ok (.iconst (-1), 1) := by decide +kernel
theorem dX11_undo_14 : decode cX11_undo 14 = .ok (.ireturn, 1) := by decide +kernel
theorem dX11_undo_15 : decode cX11_undo 15 = .ok (.aload_n 0, 1) := by decide +kernel
theorem dX11_undo_16 : decode cX11_undo 16 = .ok (.getfield 47, 3) := by decide +kernel
theorem dX11_undo_19 : decode cX11_undo 19 = .ok (.invokevirtual 221, 3) := by decide +kernel
theorem dX11_undo_22 : decode cX11_undo 22 = .ok (.aload_n 0, 1) := by decide +kernel
theorem dX11_undo_23 : decode cX11_undo 23 = .ok (.getfield 47, 3) := by decide +kernel
theorem dX11_undo_26 : decode cX11_undo 26 = .ok (.getfield 137, 3) := by decide +kernel
theorem dX11_undo_29 : decode cX11_undo 29 = .ok (.getfield 141, 3) := by decide +kernel
theorem dX11_undo_32 : decode cX11_undo 32 = .ok (.ireturn, 1) := by decide +kernel
theorem dX11_night_0 : decode cX11_night 0 = .ok (.aload_n 0, 1) := by decide +kernel
theorem dX11_night_1 : decode cX11_night 1 = .ok (.iload_n 1, 1) := by decide +kernel
theorem dX11_night_2 : decode cX11_night 2 = .ok (.iconst 4, 1) := by decide +kernel
theorem dX11_night_3 : decode cX11_night 3 = .ok (.invokevirtual 192, 3) := by decide +kernel
theorem dX11_night_6 : decode cX11_night 6 = .ok (.aload_n 0, 1) := by decide +kernel
theorem dX11_night_7 : decode cX11_night 7 = .ok (.invokevirtual 224, 3) := by decide +kernel
theorem dX11_night_10 : decode cX11_night 10 = .ok (.iload_n 1, 1) := by decide +kernel
theorem dX11_night_11 : decode cX11_night 11 = .ok (.tableswitch 49 0 2 #[25, 33, 41], 25) := by decide +kernel
theorem dX11_night_36 : decode cX11_night 36 = .ok (.aload_n 0, 1) := by decide +kernel
theorem dX11_night_37 : decode cX11_night 37 = .ok (.getfield 76, 3) := by decide +kernel
theorem dX11_night_40 : decode cX11_night 40 = .ok (.getfield 227, 3) := by decide +kernel
theorem dX11_night_43 : decode cX11_night 43 = .ok (.ireturn, 1) := by decide +kernel
theorem dX11_night_44 : decode cX11_night 44 = .ok (.aload_n 0, 1) := by decide +kernel
theorem dX11_night_45 : decode cX11_night 45 = .ok (.getfield 76, 3) := by decide +kernel
theorem dX11_night_48 : decode cX11_night 48 = .ok (.getfield 230, 3) := by decide +kernel
theorem dX11_night_51 : decode cX11_night 51 = .ok (.ireturn, 1) := by decide +kernel
theorem dX11_night_52 : decode cX11_night 52 = .ok (.aload_n 0, 1) := by decide +kernel
theorem dX11_night_53 : decode cX11_night 53 = .ok (.getfield 76, 3) := by decide +kernel
theorem dX11_night_56 : decode cX11_night 56 = .ok (.getfield 233, 3) := by decide +kernel
theorem dX11_night_59 : decode cX11_night 59 = .ok (.ireturn, 1) := by decide +kernel
theorem dX11_night_60 : decode cX11_night 60 = .ok (.aload_n 0, 1) := by decide +kernel
theorem dX11_night_61 : decode cX11_night 61 = .ok (.invokevirtual 236, 3) := by decide +kernel
theorem dX11_night_64 : decode cX11_night 64 = .ok (.ireturn, 1) := by decide +kernel
theorem dX11_passNight_0 : decode cX11_passNight 0 = .ok (.aload_n 0, 1) := by decide +kernel
theorem dX11_passNight_1 : decode cX11_passNight 1 = .ok (.getfield 76, 3) := by decide +kernel
theorem dX11_passNight_4 : decode cX11_passNight 4 = .ok (.aload_n 0, 1) := by decide +kernel
theorem dX11_passNight_5 : decode cX11_passNight 5 = .ok (.getfield 28, 3) := by decide +kernel
theorem dX11_passNight_8 : decode cX11_passNight 8 = .ok (.aload_n 0, 1) := by decide +kernel
theorem dX11_passNight_9 : decode cX11_passNight 9 = .ok (.getfield 47, 3) := by decide +kernel
theorem dX11_passNight_12 : decode cX11_passNight 12 = .ok (.getfield 116, 3) := by decide +kernel
theorem dX11_passNight_15 : decode cX11_passNight 15 = .ok (.aload_n 0, 1) := by decide +kernel
theorem dX11_passNight_16 : decode cX11_passNight 16 = .ok (.getfield 28, 3) := by decide +kernel
theorem dX11_passNight_19 : decode cX11_passNight 19 = .ok (.getfield 110, 3) := by decide +kernel
theorem dX11_passNight_22 : decode cX11_passNight 22 = .ok (.invokevirtual 240, 3) := by decide +kernel
theorem dX11_passNight_25 : decode cX11_passNight 25 = .ok (.return_, 1) := by decide +kernel
theorem dX11_passTrial_0 : decode cX11_passTrial 0 = .ok (.aload_n 0, 1) := by decide +kernel
theorem dX11_passTrial_1 : decode cX11_passTrial 1 = .ok (.getfield 76, 3) := by decide +kernel
theorem dX11_passTrial_4 : decode cX11_passTrial 4 = .ok (.aload_n 0, 1) := by decide +kernel
theorem dX11_passTrial_5 : decode cX11_passTrial 5 = .ok (.getfield 28, 3) := by decide +kernel
theorem dX11_passTrial_8 : decode cX11_passTrial 8 = .ok (.aload_n 0, 1) := by decide +kernel
theorem dX11_passTrial_9 : decode cX11_passTrial 9 = .ok (.getfield 67, 3) := by decide +kernel
theorem dX11_passTrial_12 : decode cX11_passTrial 12 = .ok (.aload_n 0, 1) := by decide +kernel
theorem dX11_passTrial_13 : decode cX11_passTrial 13 = .ok (.getfield 28, 3) := by decide +kernel
theorem dX11_passTrial_16 : decode cX11_passTrial 16 = .ok (.getfield 110, 3) := by decide +kernel
theorem dX11_passTrial_19 : decode cX11_passTrial 19 = .ok (.invokevirtual 240, 3) := by decide +kernel
theorem dX11_passTrial_22 : decode cX11_passTrial 22 = .ok (.aload_n 0, 1) := by decide +kernel
theorem dX11_passTrial_23 : decode cX11_passTrial 23 = .ok (.getfield 76, 3) := by decide +kernel
theorem dX11_passTrial_26 : decode cX11_passTrial 26 = .ok (.getfield 230, 3) := by decide +kernel
theorem dX11_passTrial_29 : decode cX11_passTrial 29 = .ok (.ireturn, 1) := by decide +kernel
theorem dX11_worstOff_0 : decode cX11_worstOff 0 = .ok (.iconst (-1), 1) := by decide +kernel
theorem dX11_worstOff_1 : decode cX11_worstOff 1 = .ok (.istore_n 1, 1) := by decide +kernel
theorem dX11_worstOff_2 : decode cX11_worstOff 2 = .ok (.iconst (-1), 1) := by decide +kernel
theorem dX11_worstOff_3 : decode cX11_worstOff 3 = .ok (.istore_n 2, 1) := by decide +kernel
theorem dX11_worstOff_4 : decode cX11_worstOff 4 = .ok (.iconst 0, 1) := by decide +kernel
theorem dX11_worstOff_5 : decode cX11_worstOff 5 = .ok (.istore_n 3, 1) := by decide +kernel
theorem dX11_worstOff_6 : decode cX11_worstOff 6 = .ok (.iload_n 3, 1) := by decide +kernel
theorem dX11_worstOff_7 : decode cX11_worstOff 7 = .ok (.aload_n 0, 1) := by decide +kernel
theorem dX11_worstOff_8 : decode cX11_worstOff 8 = .ok (.getfield 28, 3) := by decide +kernel
theorem dX11_worstOff_11 : decode cX11_worstOff 11 = .ok (.getfield 101, 3) := by decide +kernel
theorem dX11_worstOff_14 : decode cX11_worstOff 14 = .ok (.if_icmp .ge 33, 3) := by decide +kernel
theorem dX11_worstOff_17 : decode cX11_worstOff 17 = .ok (.aload_n 0, 1) := by decide +kernel
theorem dX11_worstOff_18 : decode cX11_worstOff 18 = .ok (.getfield 76, 3) := by decide +kernel
theorem dX11_worstOff_21 : decode cX11_worstOff 21 = .ok (.iload_n 3, 1) := by decide +kernel
theorem dX11_worstOff_22 : decode cX11_worstOff 22 = .ok (.invokevirtual 244, 3) := by decide +kernel
theorem dX11_worstOff_25 : decode cX11_worstOff 25 = .ok (.getfield 248, 3) := by decide +kernel
theorem dX11_worstOff_28 : decode cX11_worstOff 28 = .ok (.istore 4, 2) := by decide +kernel
theorem dX11_worstOff_30 : decode cX11_worstOff 30 = .ok (.iload 4, 2) := by decide +kernel
theorem dX11_worstOff_32 : decode cX11_worstOff 32 = .ok (.iload_n 2, 1) := by decide +kernel
theorem dX11_worstOff_33 : decode cX11_worstOff 33 = .ok (.if_icmp .le 8, 3) := by decide +kernel
theorem dX11_worstOff_36 : decode cX11_worstOff 36 = .ok (.iload 4, 2) := by decide +kernel
theorem dX11_worstOff_38 : decode cX11_worstOff 38 = .ok (.istore_n 2, 1) := by decide +kernel
theorem dX11_worstOff_39 : decode cX11_worstOff 39 = .ok (.iload_n 3, 1) := by decide +kernel
theorem dX11_worstOff_40 : decode cX11_worstOff 40 = .ok (.istore_n 1, 1) := by decide +kernel
theorem dX11_worstOff_41 : decode cX11_worstOff 41 = .ok (.iinc 3 1, 3) := by decide +kernel
theorem dX11_worstOff_44 : decode cX11_worstOff 44 = .ok (.goto (-38), 3) := by decide +kernel
theorem dX11_worstOff_47 : decode cX11_worstOff 47 = .ok (.iload_n 1, 1) := by decide +kernel
theorem dX11_worstOff_48 : decode cX11_worstOff 48 = .ok (.ireturn, 1) := by decide +kernel
theorem dX11_woken_0 : decode cX11_woken 0 = .ok (.aload_n 0, 1) := by decide +kernel
theorem dX11_woken_1 : decode cX11_woken 1 = .ok (.iload_n 1, 1) := by decide +kernel
theorem dX11_woken_2 : decode cX11_woken 2 = .ok (.aload_n 0, 1) := by decide +kernel
theorem dX11_woken_3 : decode cX11_woken 3 = .ok (.getfield 28, 3) := by decide +kernel
theorem dX11_woken_6 : decode cX11_woken 6 = .ok (.getfield 101, 3) := by decide +kernel
theorem dX11_woken_9 : decode cX11_woken 9 = .ok (.invokevirtual 192, 3) := by decide +kernel
theorem dX11_woken_12 : decode cX11_woken 12 = .ok (.aload_n 0, 1) := by decide +kernel
theorem dX11_woken_13 : decode cX11_woken 13 = .ok (.iload_n 2, 1) := by decide +kernel
theorem dX11_woken_14 : decode cX11_woken 14 = .ok (.iconst 2, 1) := by decide +kernel
theorem dX11_woken_15 : decode cX11_woken 15 = .ok (.invokevirtual 192, 3) := by decide +kernel
theorem dX11_woken_18 : decode cX11_woken 18 = .ok (.aload_n 0, 1) := by decide +kernel
theorem dX11_woken_19 : decode cX11_woken 19 = .ok (.invokevirtual 224, 3) := by decide +kernel
theorem dX11_woken_22 : decode cX11_woken 22 = .ok (.aload_n 0, 1) := by decide +kernel
theorem dX11_woken_23 : decode cX11_woken 23 = .ok (.getfield 76, 3) := by decide +kernel
theorem dX11_woken_26 : decode cX11_woken 26 = .ok (.iload_n 1, 1) := by decide +kernel
theorem dX11_woken_27 : decode cX11_woken 27 = .ok (.invokevirtual 244, 3) := by decide +kernel
theorem dX11_woken_30 : decode cX11_woken 30 = .ok (.astore_n 3, 1) := by decide +kernel
theorem dX11_woken_31 : decode cX11_woken 31 = .ok (.iload_n 2, 1) := by decide +kernel
theorem dX11_woken_32 : decode cX11_woken 32 = .ok (.ifCond .ne 10, 3) := by decide +kernel
theorem dX11_woken_35 : decode cX11_woken 35 = .ok (.aload_n 3, 1) := by decide +kernel
theorem dX11_woken_36 : decode cX11_woken 36 = .ok (.getfield 248, 3) := by decide +kernel
theorem dX11_woken_39 : decode cX11_woken 39 = .ok (.goto 7, 3) := by decide +kernel
theorem dX11_woken_42 : decode cX11_woken 42 = .ok (.aload_n 3, 1) := by decide +kernel
theorem dX11_woken_43 : decode cX11_woken 43 = .ok (.getfield 253, 3) := by decide +kernel
theorem dX11_woken_46 : decode cX11_woken 46 = .ok (.ireturn, 1) := by decide +kernel
theorem dX11_lies_0 : decode cX11_lies 0 = .ok (.aload_n 0, 1) := by decide +kernel
theorem dX11_lies_1 : decode cX11_lies 1 = .ok (.iload_n 1, 1) := by decide +kernel
theorem dX11_lies_2 : decode cX11_lies 2 = .ok (.aload_n 0, 1) := by decide +kernel
theorem dX11_lies_3 : decode cX11_lies 3 = .ok (.getfield 28, 3) := by decide +kernel
theorem dX11_lies_6 : decode cX11_lies 6 = .ok (.getfield 101, 3) := by decide +kernel
theorem dX11_lies_9 : decode cX11_lies 9 = .ok (.invokevirtual 192, 3) := by decide +kernel
theorem dX11_lies_12 : decode cX11_lies 12 = .ok (.aload_n 0, 1) := by decide +kernel
theorem dX11_lies_13 : decode cX11_lies 13 = .ok (.iload_n 3, 1) := by decide +kernel
theorem dX11_lies_14 : decode cX11_lies 14 = .ok (.iconst 2, 1) := by decide +kernel
theorem dX11_lies_15 : decode cX11_lies 15 = .ok (.invokevirtual 192, 3) := by decide +kernel
theorem dX11_lies_18 : decode cX11_lies 18 = .ok (.aload_n 0, 1) := by decide +kernel
theorem dX11_lies_19 : decode cX11_lies 19 = .ok (.iload_n 2, 1) := by decide +kernel
theorem dX11_lies_20 : decode cX11_lies 20 = .ok (.aload_n 0, 1) := by decide +kernel
theorem dX11_lies_21 : decode cX11_lies 21 = .ok (.getfield 28, 3) := by decide +kernel
theorem dX11_lies_24 : decode cX11_lies 24 = .ok (.getfield 110, 3) := by decide +kernel
theorem dX11_lies_27 : decode cX11_lies 27 = .ok (.invokevirtual 256, 3) := by decide +kernel
theorem dX11_lies_30 : decode cX11_lies 30 = .ok (.aload_n 0, 1) := by decide +kernel
theorem dX11_lies_31 : decode cX11_lies 31 = .ok (.getfield 76, 3) := by decide +kernel
theorem dX11_lies_34 : decode cX11_lies 34 = .ok (.aload_n 0, 1) := by decide +kernel
theorem dX11_lies_35 : decode cX11_lies 35 = .ok (.getfield 28, 3) := by decide +kernel
theorem dX11_lies_38 : decode cX11_lies 38 = .ok (.aload_n 0, 1) := by decide +kernel
theorem dX11_lies_39 : decode cX11_lies 39 = .ok (.getfield 47, 3) := by decide +kernel
theorem dX11_lies_42 : decode cX11_lies 42 = .ok (.getfield 116, 3) := by decide +kernel
theorem dX11_lies_45 : decode cX11_lies 45 = .ok (.iload_n 2, 1) := by decide +kernel
theorem dX11_lies_46 : decode cX11_lies 46 = .ok (.invokevirtual 240, 3) := by decide +kernel
theorem dX11_lies_49 : decode cX11_lies 49 = .ok (.aload_n 0, 1) := by decide +kernel
theorem dX11_lies_50 : decode cX11_lies 50 = .ok (.getfield 76, 3) := by decide +kernel
theorem dX11_lies_53 : decode cX11_lies 53 = .ok (.iload_n 1, 1) := by decide +kernel
theorem dX11_lies_54 : decode cX11_lies 54 = .ok (.invokevirtual 244, 3) := by decide +kernel
theorem dX11_lies_57 : decode cX11_lies 57 = .ok (.astore 4, 2) := by decide +kernel
theorem dX11_lies_59 : decode cX11_lies 59 = .ok (.iload_n 3, 1) := by decide +kernel
theorem dX11_lies_60 : decode cX11_lies 60 = .ok (.ifCond .ne 9, 3) := by decide +kernel
theorem dX11_lies_63 : decode cX11_lies 63 = .ok (.aload 4, 2) := by decide +kernel
theorem dX11_lies_65 : decode cX11_lies 65 = .ok (.getfield 259, 3) := by decide +kernel
theorem dX11_lies_68 : decode cX11_lies 68 = .ok (.ireturn, 1) := by decide +kernel
theorem dX11_lies_69 : decode cX11_lies 69 = .ok (.aload 4, 2) := by decide +kernel
theorem dX11_lies_71 : decode cX11_lies 71 = .ok (.iload_n 2, 1) := by decide +kernel
theorem dX11_lies_72 : decode cX11_lies 72 = .ok (.aload_n 0, 1) := by decide +kernel
theorem dX11_lies_73 : decode cX11_lies 73 = .ok (.getfield 28, 3) := by decide +kernel
theorem dX11_lies_76 : decode cX11_lies 76 = .ok (.getfield 113, 3) := by decide +kernel
theorem dX11_lies_79 : decode cX11_lies 79 = .ok (.invokevirtual 262, 3) := by decide +kernel
theorem dX11_lies_82 : decode cX11_lies 82 = .ok (.ifCond .eq 7, 3) := by decide +kernel
theorem dX11_lies_85 : decode cX11_lies 85 = .ok (.iconst 1, 1) := by decide +kernel
theorem dX11_lies_86 : decode cX11_lies 86 = .ok (.goto 4, 3) := by decide +kernel
theorem dX11_lies_89 : decode cX11_lies 89 = .ok (.iconst 0, 1) := by decide +kernel
theorem dX11_lies_90 : decode cX11_lies 90 = .ok (.ireturn, 1) := by decide +kernel
theorem dX11_turn_0 : decode cX11_turn 0 = .ok (.aload_n 0, 1) := by decide +kernel
theorem dX11_turn_1 : decode cX11_turn 1 = .ok (.iload_n 1, 1) := by decide +kernel
theorem dX11_turn_2 : decode cX11_turn 2 = .ok (.sipush 1200, 3) := by decide +kernel
theorem dX11_turn_5 : decode cX11_turn 5 = .ok (.invokevirtual 192, 3) := by decide +kernel
theorem dX11_turn_8 : decode cX11_turn 8 = .ok (.aload_n 0, 1) := by decide +kernel
theorem dX11_turn_9 : decode cX11_turn 9 = .ok (.iload_n 2, 1) := by decide +kernel
theorem dX11_turn_10 : decode cX11_turn 10 = .ok (.iconst 4, 1) := by decide +kernel
theorem dX11_turn_11 : decode cX11_turn 11 = .ok (.invokevirtual 192, 3) := by decide +kernel
theorem dX11_turn_14 : decode cX11_turn 14 = .ok (.aload_n 0, 1) := by decide +kernel
theorem dX11_turn_15 : decode cX11_turn 15 = .ok (.getfield 76, 3) := by decide +kernel
theorem dX11_turn_18 : decode cX11_turn 18 = .ok (.iload_n 1, 1) := by decide +kernel
theorem dX11_turn_19 : decode cX11_turn 19 = .ok (.putfield 266, 3) := by decide +kernel
theorem dX11_turn_22 : decode cX11_turn 22 = .ok (.aload_n 0, 1) := by decide +kernel
theorem dX11_turn_23 : decode cX11_turn 23 = .ok (.invokevirtual 224, 3) := by decide +kernel
theorem dX11_turn_26 : decode cX11_turn 26 = .ok (.aload_n 0, 1) := by decide +kernel
theorem dX11_turn_27 : decode cX11_turn 27 = .ok (.iload_n 1, 1) := by decide +kernel
theorem dX11_turn_28 : decode cX11_turn 28 = .ok (.aload_n 0, 1) := by decide +kernel
theorem dX11_turn_29 : decode cX11_turn 29 = .ok (.getfield 76, 3) := by decide +kernel
theorem dX11_turn_32 : decode cX11_turn 32 = .ok (.getfield 227, 3) := by decide +kernel
theorem dX11_turn_35 : decode cX11_turn 35 = .ok (.invokevirtual 192, 3) := by decide +kernel
theorem dX11_turn_38 : decode cX11_turn 38 = .ok (.aload_n 0, 1) := by decide +kernel
theorem dX11_turn_39 : decode cX11_turn 39 = .ok (.getfield 76, 3) := by decide +kernel
theorem dX11_turn_42 : decode cX11_turn 42 = .ok (.getfield 269, 3) := by decide +kernel
theorem dX11_turn_45 : decode cX11_turn 45 = .ok (.iload_n 2, 1) := by decide +kernel
theorem dX11_turn_46 : decode cX11_turn 46 = .ok (.invokevirtual 152, 3) := by decide +kernel
theorem dX11_turn_49 : decode cX11_turn 49 = .ok (.ireturn, 1) := by decide +kernel
theorem dX11_orders_0 : decode cX11_orders 0 = .ok (.aload_n 0, 1) := by decide +kernel
theorem dX11_orders_1 : decode cX11_orders 1 = .ok (.getfield 28, 3) := by decide +kernel
theorem dX11_orders_4 : decode cX11_orders 4 = .ok (.getfield 101, 3) := by decide +kernel
theorem dX11_orders_7 : decode cX11_orders 7 = .ok (.bipush 6, 2) := by decide +kernel
theorem dX11_orders_9 : decode cX11_orders 9 = .ok (.if_icmp .le 6, 3) := by decide +kernel
theorem dX11_orders_12 : decode cX11_orders 12 = .ok (.bipush (-2), 2) := by decide +kernel
theorem dX11_orders_14 : decode cX11_orders 14 = .ok (.ireturn, 1) := by decide +kernel
theorem dX11_orders_15 : decode cX11_orders 15 = .ok (.iconst 0, 1) := by decide +kernel
theorem dX11_orders_16 : decode cX11_orders 16 = .ok (.istore_n 1, 1) := by decide +kernel
theorem dX11_orders_17 : decode cX11_orders 17 = .ok (.aload_n 0, 1) := by decide +kernel
theorem dX11_orders_18 : decode cX11_orders 18 = .ok (.getfield 67, 3) := by decide +kernel
theorem dX11_orders_21 : decode cX11_orders 21 = .ok (.aload_n 0, 1) := by decide +kernel
theorem dX11_orders_22 : decode cX11_orders 22 = .ok (.getfield 47, 3) := by decide +kernel
theorem dX11_orders_25 : decode cX11_orders 25 = .ok (.getfield 116, 3) := by decide +kernel
theorem dX11_orders_28 : decode cX11_orders 28 = .ok (.invokevirtual 272, 3) := by decide +kernel
theorem dX11_orders_31 : decode cX11_orders 31 = .ok (.aload_n 0, 1) := by decide +kernel
theorem dX11_orders_32 : decode cX11_orders 32 = .ok (.getfield 67, 3) := by decide +kernel
theorem dX11_orders_35 : decode cX11_orders 35 = .ok (.getfield 202, 3) := by decide +kernel
theorem dX11_orders_38 : decode cX11_orders 38 = .ok (.invokevirtual 276, 3) := by decide +kernel
theorem dX11_orders_41 : decode cX11_orders 41 = .ok (.iconst 1, 1) := by decide +kernel
theorem dX11_orders_42 : decode cX11_orders 42 = .ok (.istore_n 2, 1) := by decide +kernel
theorem dX11_orders_43 : decode cX11_orders 43 = .ok (.iconst 0, 1) := by decide +kernel
theorem dX11_orders_44 : decode cX11_orders 44 = .ok (.istore_n 3, 1) := by decide +kernel
theorem dX11_orders_45 : decode cX11_orders 45 = .ok (.iload_n 3, 1) := by decide +kernel
theorem dX11_orders_46 : decode cX11_orders 46 = .ok (.sipush 720, 3) := by decide +kernel
theorem dX11_orders_49 : decode cX11_orders 49 = .ok (.if_icmp .ge 38, 3) := by decide +kernel
theorem dX11_orders_52 : decode cX11_orders 52 = .ok (.iload_n 2, 1) := by decide +kernel
theorem dX11_orders_53 : decode cX11_orders 53 = .ok (.ifCond .eq 34, 3) := by decide +kernel
theorem dX11_orders_56 : decode cX11_orders 56 = .ok (.aload_n 0, 1) := by decide +kernel
theorem dX11_orders_57 : decode cX11_orders 57 = .ok (.getfield 28, 3) := by decide +kernel
theorem dX11_orders_60 : decode cX11_orders 60 = .ok (.aload_n 0, 1) := by decide +kernel
theorem dX11_orders_61 : decode cX11_orders 61 = .ok (.getfield 67, 3) := by decide +kernel
theorem dX11_orders_64 : decode cX11_orders 64 = .ok (.invokevirtual 279, 3) := by decide +kernel
theorem dX11_orders_67 : decode cX11_orders 67 = .ok (.ifCond .eq 6, 3) := by decide +kernel
theorem dX11_orders_70 : decode cX11_orders 70 = .ok (.iinc 1 1, 3) := by decide +kernel
theorem dX11_orders_73 : decode cX11_orders 73 = .ok (.aload_n 0, 1) := by decide +kernel
theorem dX11_orders_74 : decode cX11_orders 74 = .ok (.getfield 67, 3) := by decide +kernel
theorem dX11_orders_77 : decode cX11_orders 77 = .ok (.invokevirtual 283, 3) := by decide +kernel
theorem dX11_orders_80 : decode cX11_orders 80 = .ok (.istore_n 2, 1) := by decide +kernel
theorem dX11_orders_81 : decode cX11_orders 81 = .ok (.iinc 3 1, 3) := by decide +kernel
theorem dX11_orders_84 : decode cX11_orders 84 = .ok (.goto (-39), 3) := by decide +kernel
theorem dX11_orders_87 : decode cX11_orders 87 = .ok (.iload_n 1, 1) := by decide +kernel
theorem dX11_orders_88 : decode cX11_orders 88 = .ok (.ireturn, 1) := by decide +kernel
theorem dX11_order_0 : decode cX11_order 0 = .ok (.aload_n 0, 1) := by decide +kernel
theorem dX11_order_1 : decode cX11_order 1 = .ok (.getfield 28, 3) := by decide +kernel
theorem dX11_order_4 : decode cX11_order 4 = .ok (.getfield 101, 3) := by decide +kernel
theorem dX11_order_7 : decode cX11_order 7 = .ok (.bipush 6, 2) := by decide +kernel
theorem dX11_order_9 : decode cX11_order 9 = .ok (.if_icmp .le 6, 3) := by decide +kernel
theorem dX11_order_12 : decode cX11_order 12 = .ok (.bipush (-2), 2) := by decide +kernel
theorem dX11_order_14 : decode cX11_order 14 = .ok (.ireturn, 1) := by decide +kernel
theorem dX11_order_15 : decode cX11_order 15 = .ok (.iconst (-1), 1) := by decide +kernel
theorem dX11_order_16 : decode cX11_order 16 = .ok (.istore_n 1, 1) := by decide +kernel
theorem dX11_order_17 : decode cX11_order 17 = .ok (.aload_n 0, 1) := by decide +kernel
theorem dX11_order_18 : decode cX11_order 18 = .ok (.getfield 67, 3) := by decide +kernel
theorem dX11_order_21 : decode cX11_order 21 = .ok (.aload_n 0, 1) := by decide +kernel
theorem dX11_order_22 : decode cX11_order 22 = .ok (.getfield 47, 3) := by decide +kernel
theorem dX11_order_25 : decode cX11_order 25 = .ok (.getfield 116, 3) := by decide +kernel
theorem dX11_order_28 : decode cX11_order 28 = .ok (.invokevirtual 272, 3) := by decide +kernel
theorem dX11_order_31 : decode cX11_order 31 = .ok (.aload_n 0, 1) := by decide +kernel
theorem dX11_order_32 : decode cX11_order 32 = .ok (.getfield 67, 3) := by decide +kernel
theorem dX11_order_35 : decode cX11_order 35 = .ok (.getfield 202, 3) := by decide +kernel
theorem dX11_order_38 : decode cX11_order 38 = .ok (.invokevirtual 276, 3) := by decide +kernel
theorem dX11_order_41 : decode cX11_order 41 = .ok (.iconst 1, 1) := by decide +kernel
theorem dX11_order_42 : decode cX11_order 42 = .ok (.istore_n 2, 1) := by decide +kernel
theorem dX11_order_43 : decode cX11_order 43 = .ok (.iconst 0, 1) := by decide +kernel
theorem dX11_order_44 : decode cX11_order 44 = .ok (.istore_n 3, 1) := by decide +kernel
theorem dX11_order_45 : decode cX11_order 45 = .ok (.iload_n 3, 1) := by decide +kernel
theorem dX11_order_46 : decode cX11_order 46 = .ok (.sipush 720, 3) := by decide +kernel
theorem dX11_order_49 : decode cX11_order 49 = .ok (.if_icmp .ge 59, 3) := by decide +kernel
theorem dX11_order_52 : decode cX11_order 52 = .ok (.iload_n 2, 1) := by decide +kernel
theorem dX11_order_53 : decode cX11_order 53 = .ok (.ifCond .eq 55, 3) := by decide +kernel
theorem dX11_order_56 : decode cX11_order 56 = .ok (.aload_n 0, 1) := by decide +kernel
theorem dX11_order_57 : decode cX11_order 57 = .ok (.getfield 28, 3) := by decide +kernel
theorem dX11_order_60 : decode cX11_order 60 = .ok (.aload_n 0, 1) := by decide +kernel
theorem dX11_order_61 : decode cX11_order 61 = .ok (.getfield 67, 3) := by decide +kernel
theorem dX11_order_64 : decode cX11_order 64 = .ok (.invokevirtual 279, 3) := by decide +kernel
theorem dX11_order_67 : decode cX11_order 67 = .ok (.ifCond .eq 27, 3) := by decide +kernel
theorem dX11_order_70 : decode cX11_order 70 = .ok (.aload_n 0, 1) := by decide +kernel
theorem dX11_order_71 : decode cX11_order 71 = .ok (.invokevirtual 287, 3) := by decide +kernel
theorem dX11_order_74 : decode cX11_order 74 = .ok (.istore 4, 2) := by decide +kernel
theorem dX11_order_76 : decode cX11_order 76 = .ok (.iload_n 1, 1) := by decide +kernel
theorem dX11_order_77 : decode cX11_order 77 = .ok (.iconst (-1), 1) := by decide +kernel
theorem dX11_order_78 : decode cX11_order 78 = .ok (.if_icmp .eq 9, 3) := by decide +kernel
theorem dX11_order_81 : decode cX11_order 81 = .ok (.iload 4, 2) := by decide +kernel
theorem dX11_order_83 : decode cX11_order 83 = .ok (.iload_n 1, 1) := by decide +kernel
theorem dX11_order_84 : decode cX11_order 84 = .ok (.if_icmp .ge 10, 3) := by decide +kernel
theorem dX11_order_87 : decode cX11_order 87 = .ok (.iload 4, 2) := by decide +kernel
theorem dX11_order_89 : decode cX11_order 89 = .ok (.istore_n 1, 1) := by decide +kernel
theorem dX11_order_90 : decode cX11_order 90 = .ok (.aload_n 0, 1) := by decide +kernel
theorem dX11_order_91 : decode cX11_order 91 = .ok (.invokevirtual 290, 3) := by decide +kernel
theorem dX11_order_94 : decode cX11_order 94 = .ok (.aload_n 0, 1) := by decide +kernel
theorem dX11_order_95 : decode cX11_order 95 = .ok (.getfield 67, 3) := by decide +kernel
theorem dX11_order_98 : decode cX11_order 98 = .ok (.invokevirtual 283, 3) := by decide +kernel
theorem dX11_order_101 : decode cX11_order 101 = .ok (.istore_n 2, 1) := by decide +kernel
theorem dX11_order_102 : decode cX11_order 102 = .ok (.iinc 3 1, 3) := by decide +kernel
theorem dX11_order_105 : decode cX11_order 105 = .ok (.goto (-60), 3) := by decide +kernel
theorem dX11_order_108 : decode cX11_order 108 = .ok (.iload_n 1, 1) := by decide +kernel
theorem dX11_order_109 : decode cX11_order 109 = .ok (.ireturn, 1) := by decide +kernel
theorem dX11_keepTrialOrder_0 : decode cX11_keepTrialOrder 0 = .ok (.aload_n 0, 1) := by decide +kernel
theorem dX11_keepTrialOrder_1 : decode cX11_keepTrialOrder 1 = .ok (.getfield 58, 3) := by decide +kernel
theorem dX11_keepTrialOrder_4 : decode cX11_keepTrialOrder 4 = .ok (.aload_n 0, 1) := by decide +kernel
theorem dX11_keepTrialOrder_5 : decode cX11_keepTrialOrder 5 = .ok (.getfield 67, 3) := by decide +kernel
theorem dX11_keepTrialOrder_8 : decode cX11_keepTrialOrder 8 = .ok (.getfield 202, 3) := by decide +kernel
theorem dX11_keepTrialOrder_11 : decode cX11_keepTrialOrder 11 = .ok (.invokevirtual 293, 3) := by decide +kernel
theorem dX11_keepTrialOrder_14 : decode cX11_keepTrialOrder 14 = .ok (.aload_n 0, 1) := by decide +kernel
theorem dX11_keepTrialOrder_15 : decode cX11_keepTrialOrder 15 = .ok (.aload_n 0, 1) := by decide +kernel
theorem dX11_keepTrialOrder_16 : decode cX11_keepTrialOrder 16 = .ok (.getfield 67, 3) := by decide +kernel
theorem dX11_keepTrialOrder_19 : decode cX11_keepTrialOrder 19 = .ok (.getfield 296, 3) := by decide +kernel
theorem dX11_keepTrialOrder_22 : decode cX11_keepTrialOrder 22 = .ok (.putfield 61, 3) := by decide +kernel
theorem dX11_keepTrialOrder_25 : decode cX11_keepTrialOrder 25 = .ok (.return_, 1) := by decide +kernel
theorem dX11_kept_0 : decode cX11_kept 0 = .ok (.aload_n 0, 1) := by decide +kernel
theorem dX11_kept_1 : decode cX11_kept 1 = .ok (.iload_n 1, 1) := by decide +kernel
theorem dX11_kept_2 : decode cX11_kept 2 = .ok (.aload_n 0, 1) := by decide +kernel
theorem dX11_kept_3 : decode cX11_kept 3 = .ok (.getfield 61, 3) := by decide +kernel
theorem dX11_kept_6 : decode cX11_kept 6 = .ok (.invokevirtual 192, 3) := by decide +kernel
theorem dX11_kept_9 : decode cX11_kept 9 = .ok (.aload_n 0, 1) := by decide +kernel
theorem dX11_kept_10 : decode cX11_kept 10 = .ok (.getfield 58, 3) := by decide +kernel
theorem dX11_kept_13 : decode cX11_kept 13 = .ok (.iload_n 1, 1) := by decide +kernel
theorem dX11_kept_14 : decode cX11_kept 14 = .ok (.invokevirtual 152, 3) := by decide +kernel
theorem dX11_kept_17 : decode cX11_kept 17 = .ok (.ireturn, 1) := by decide +kernel
theorem dX11_every_0 : decode cX11_every 0 = .ok (.aload_n 0, 1) := by decide +kernel
theorem dX11_every_1 : decode cX11_every 1 = .ok (.iload_n 1, 1) := by decide +kernel
theorem dX11_every_2 : decode cX11_every 2 = .ok (.invokevirtual 159, 3) := by decide +kernel
theorem dX11_every_5 : decode cX11_every 5 = .ok (.astore_n 3, 1) := by decide +kernel
theorem dX11_every_6 : decode cX11_every 6 = .ok (.aload_n 0, 1) := by decide +kernel
theorem dX11_every_7 : decode cX11_every 7 = .ok (.iload_n 2, 1) := by decide +kernel
theorem dX11_every_8 : decode cX11_every 8 = .ok (.iconst 2, 1) := by decide +kernel
theorem dX11_every_9 : decode cX11_every 9 = .ok (.invokevirtual 192, 3) := by decide +kernel
theorem dX11_every_12 : decode cX11_every 12 = .ok (.aload_n 3, 1) := by decide +kernel
theorem dX11_every_13 : decode cX11_every 13 = .ok (.getfield 163, 3) := by decide +kernel
theorem dX11_every_16 : decode cX11_every 16 = .ok (.iconst 3, 1) := by decide +kernel
theorem dX11_every_17 : decode cX11_every 17 = .ok (.if_icmp .ne 11, 3) := by decide +kernel
theorem dX11_every_20 : decode cX11_every 20 = .ok (.new 90, 3) := by decide +kernel
theorem dX11_every_23 : decode cX11_every 23 = .ok (.dup, 1) := by decide +kernel
theorem dX11_every_24 : decode cX11_every 24 = .ok (.invokespecial 92, 3) := by decide +kernel
theorem dX11_every_27 : decode cX11_every 27 = .ok (.athrow, 1) := by decide +kernel
theorem dX11_every_28 : decode cX11_every 28 = .ok (.iconst (-1), 1) := by decide +kernel
theorem dX11_every_29 : decode cX11_every 29 = .ok (.istore 4, 2) := by decide +kernel
theorem dX11_every_31 : decode cX11_every 31 = .ok (.iconst (-1), 1) := by decide +kernel
theorem dX11_every_32 : decode cX11_every 32 = .ok (.istore 5, 2) := by decide +kernel
theorem dX11_every_34 : decode cX11_every 34 = .ok (.aload_n 0, 1) := by decide +kernel
theorem dX11_every_35 : decode cX11_every 35 = .ok (.getfield 67, 3) := by decide +kernel
theorem dX11_every_38 : decode cX11_every 38 = .ok (.aload_n 0, 1) := by decide +kernel
theorem dX11_every_39 : decode cX11_every 39 = .ok (.getfield 47, 3) := by decide +kernel
theorem dX11_every_42 : decode cX11_every 42 = .ok (.getfield 116, 3) := by decide +kernel
theorem dX11_every_45 : decode cX11_every 45 = .ok (.invokevirtual 272, 3) := by decide +kernel
theorem dX11_every_48 : decode cX11_every 48 = .ok (.iconst 0, 1) := by decide +kernel
theorem dX11_every_49 : decode cX11_every 49 = .ok (.istore 6, 2) := by decide +kernel
theorem dX11_every_51 : decode cX11_every 51 = .ok (.iload 6, 2) := by decide +kernel
theorem dX11_every_53 : decode cX11_every 53 = .ok (.sipush 240, 3) := by decide +kernel
theorem dX11_every_56 : decode cX11_every 56 = .ok (.if_icmp .gt 46, 3) := by decide +kernel
theorem dX11_every_59 : decode cX11_every 59 = .ok (.aload_n 0, 1) := by decide +kernel
theorem dX11_every_60 : decode cX11_every 60 = .ok (.getfield 67, 3) := by decide +kernel
theorem dX11_every_63 : decode cX11_every 63 = .ok (.iload_n 1, 1) := by decide +kernel
theorem dX11_every_64 : decode cX11_every 64 = .ok (.iload 6, 2) := by decide +kernel
theorem dX11_every_66 : decode cX11_every 66 = .ok (.invokevirtual 212, 3) := by decide +kernel
theorem dX11_every_69 : decode cX11_every 69 = .ok (.aload_n 0, 1) := by decide +kernel
theorem dX11_every_70 : decode cX11_every 70 = .ok (.invokevirtual 287, 3) := by decide +kernel
theorem dX11_every_73 : decode cX11_every 73 = .ok (.istore 7, 2) := by decide +kernel
theorem dX11_every_75 : decode cX11_every 75 = .ok (.iload 4, 2) := by decide +kernel
theorem dX11_every_77 : decode cX11_every 77 = .ok (.iconst (-1), 1) := by decide +kernel
theorem dX11_every_78 : decode cX11_every 78 = .ok (.if_icmp .eq 10, 3) := by decide +kernel
theorem dX11_every_81 : decode cX11_every 81 = .ok (.iload 7, 2) := by decide +kernel
theorem dX11_every_83 : decode cX11_every 83 = .ok (.iload 5, 2) := by decide +kernel
theorem dX11_every_85 : decode cX11_every 85 = .ok (.if_icmp .ge 11, 3) := by decide +kernel
theorem dX11_every_88 : decode cX11_every 88 = .ok (.iload 6, 2) := by decide +kernel
theorem dX11_every_90 : decode cX11_every 90 = .ok (.istore 4, 2) := by decide +kernel
theorem dX11_every_92 : decode cX11_every 92 = .ok (.iload 7, 2) := by decide +kernel
theorem dX11_every_94 : decode cX11_every 94 = .ok (.istore 5, 2) := by decide +kernel
theorem dX11_every_96 : decode cX11_every 96 = .ok (.iinc 6 1, 3) := by decide +kernel
theorem dX11_every_99 : decode cX11_every 99 = .ok (.goto (-48), 3) := by decide +kernel
theorem dX11_every_102 : decode cX11_every 102 = .ok (.iload_n 2, 1) := by decide +kernel
theorem dX11_every_103 : decode cX11_every 103 = .ok (.ifCond .ne 8, 3) := by decide +kernel
theorem dX11_every_106 : decode cX11_every 106 = .ok (.iload 4, 2) := by decide +kernel
theorem dX11_every_108 : decode cX11_every 108 = .ok (.goto 5, 3) := by decide +kernel
theorem dX11_every_111 : decode cX11_every 111 = .ok (.iload 5, 2) := by decide +kernel
theorem dX11_every_113 : decode cX11_every 113 = .ok (.ireturn, 1) := by decide +kernel
theorem dX11_bolsters_0 : decode cX11_bolsters 0 = .ok (.aload_n 0, 1) := by decide +kernel
theorem dX11_bolsters_1 : decode cX11_bolsters 1 = .ok (.iload_n 1, 1) := by decide +kernel
theorem dX11_bolsters_2 : decode cX11_bolsters 2 = .ok (.iconst 2, 1) := by decide +kernel
theorem dX11_bolsters_3 : decode cX11_bolsters 3 = .ok (.invokevirtual 192, 3) := by decide +kernel
theorem dX11_bolsters_6 : decode cX11_bolsters 6 = .ok (.aload_n 0, 1) := by decide +kernel
theorem dX11_bolsters_7 : decode cX11_bolsters 7 = .ok (.getfield 28, 3) := by decide +kernel
theorem dX11_bolsters_10 : decode cX11_bolsters 10 = .ok (.getfield 101, 3) := by decide +kernel
theorem dX11_bolsters_13 : decode cX11_bolsters 13 = .ok (.iconst 1, 1) := by decide +kernel
theorem dX11_bolsters_14 : decode cX11_bolsters 14 = .ok (.if_icmp .le 15, 3) := by decide +kernel
theorem dX11_bolsters_17 : decode cX11_bolsters 17 = .ok (.aload_n 0, 1) := by decide +kernel
theorem dX11_bolsters_18 : decode cX11_bolsters 18 = .ok (.getfield 28, 3) := by decide +kernel
theorem dX11_bolsters_21 : decode cX11_bolsters 21 = .ok (.getfield 101, 3) := by decide +kernel
theorem dX11_bolsters_24 : decode cX11_bolsters 24 = .ok (.iconst 1, 1) := by decide +kernel
theorem dX11_bolsters_25 : decode cX11_bolsters 25 = .ok (.isub, 1) := by decide +kernel
theorem dX11_bolsters_26 : decode cX11_bolsters 26 = .ok (.goto 4, 3) := by decide +kernel
theorem dX11_bolsters_29 : decode cX11_bolsters 29 = .ok (.iconst 0, 1) := by decide +kernel
theorem dX11_bolsters_30 : decode cX11_bolsters 30 = .ok (.istore_n 2, 1) := by decide +kernel
theorem dX11_bolsters_31 : decode cX11_bolsters 31 = .ok (.iconst (-1), 1) := by decide +kernel
theorem dX11_bolsters_32 : decode cX11_bolsters 32 = .ok (.istore_n 3, 1) := by decide +kernel
theorem dX11_bolsters_33 : decode cX11_bolsters 33 = .ok (.iconst (-1), 1) := by decide +kernel
theorem dX11_bolsters_34 : decode cX11_bolsters 34 = .ok (.istore 4, 2) := by decide +kernel
theorem dX11_bolsters_36 : decode cX11_bolsters 36 = .ok (.aload_n 0, 1) := by decide +kernel
theorem dX11_bolsters_37 : decode cX11_bolsters 37 = .ok (.getfield 67, 3) := by decide +kernel
theorem dX11_bolsters_40 : decode cX11_bolsters 40 = .ok (.aload_n 0, 1) := by decide +kernel
theorem dX11_bolsters_41 : decode cX11_bolsters 41 = .ok (.getfield 47, 3) := by decide +kernel
theorem dX11_bolsters_44 : decode cX11_bolsters 44 = .ok (.getfield 116, 3) := by decide +kernel
theorem dX11_bolsters_47 : decode cX11_bolsters 47 = .ok (.invokevirtual 272, 3) := by decide +kernel
theorem dX11_bolsters_50 : decode cX11_bolsters 50 = .ok (.iconst 0, 1) := by decide +kernel
theorem dX11_bolsters_51 : decode cX11_bolsters 51 = .ok (.istore 5, 2) := by decide +kernel
theorem dX11_bolsters_53 : decode cX11_bolsters 53 = .ok (.iload 5, 2) := by decide +kernel
theorem dX11_bolsters_55 : decode cX11_bolsters 55 = .ok (.iconst 1, 1) := by decide +kernel
theorem dX11_bolsters_56 : decode cX11_bolsters 56 = .ok (.iload_n 2, 1) := by decide +kernel
theorem dX11_bolsters_57 : decode cX11_bolsters 57 = .ok (.ishl, 1) := by decide +kernel
theorem dX11_bolsters_58 : decode cX11_bolsters 58 = .ok (.if_icmp .ge 80, 3) := by decide +kernel
theorem dX11_bolsters_61 : decode cX11_bolsters 61 = .ok (.aload_n 0, 1) := by decide +kernel
theorem dX11_bolsters_62 : decode cX11_bolsters 62 = .ok (.getfield 67, 3) := by decide +kernel
theorem dX11_bolsters_65 : decode cX11_bolsters 65 = .ok (.iload 5, 2) := by decide +kernel
theorem dX11_bolsters_67 : decode cX11_bolsters 67 = .ok (.iconst 1, 1) := by decide +kernel
theorem dX11_bolsters_68 : decode cX11_bolsters 68 = .ok (.ishl, 1) := by decide +kernel
theorem dX11_bolsters_69 : decode cX11_bolsters 69 = .ok (.putfield 119, 3) := by decide +kernel
theorem dX11_bolsters_72 : decode cX11_bolsters 72 = .ok (.aload_n 0, 1) := by decide +kernel
theorem dX11_bolsters_73 : decode cX11_bolsters 73 = .ok (.invokevirtual 287, 3) := by decide +kernel
theorem dX11_bolsters_76 : decode cX11_bolsters 76 = .ok (.istore 6, 2) := by decide +kernel
theorem dX11_bolsters_78 : decode cX11_bolsters 78 = .ok (.iload 6, 2) := by decide +kernel
theorem dX11_bolsters_80 : decode cX11_bolsters 80 = .ok (.iload 4, 2) := by decide +kernel
theorem dX11_bolsters_82 : decode cX11_bolsters 82 = .ok (.if_icmp .ne 21, 3) := by decide +kernel
theorem dX11_bolsters_85 : decode cX11_bolsters 85 = .ok (.iload 5, 2) := by decide +kernel
theorem dX11_bolsters_87 : decode cX11_bolsters 87 = .ok (.iconst 1, 1) := by decide +kernel
theorem dX11_bolsters_88 : decode cX11_bolsters 88 = .ok (.ishl, 1) := by decide +kernel
theorem dX11_bolsters_89 : decode cX11_bolsters 89 = .ok (.invokestatic 299, 3) := by decide +kernel
theorem dX11_bolsters_92 : decode cX11_bolsters 92 = .ok (.iload_n 3, 1) := by decide +kernel
theorem dX11_bolsters_93 : decode cX11_bolsters 93 = .ok (.invokestatic 299, 3) := by decide +kernel
theorem dX11_bolsters_96 : decode cX11_bolsters 96 = .ok (.if_icmp .ge 7, 3) := by decide +kernel
theorem dX11_bolsters_99 : decode cX11_bolsters 99 = .ok (.iconst 1, 1) := by decide +kernel
theorem dX11_bolsters_100 : decode cX11_bolsters 100 = .ok (.goto 4, 3) := by decide +kernel
theorem dX11_bolsters_103 : decode cX11_bolsters 103 = .ok (.iconst 0, 1) := by decide +kernel
theorem dX11_bolsters_104 : decode cX11_bolsters 104 = .ok (.istore 7, 2) := by decide +kernel
theorem dX11_bolsters_106 : decode cX11_bolsters 106 = .ok (.iload_n 3, 1) := by decide +kernel
theorem dX11_bolsters_107 : decode cX11_bolsters 107 = .ok (.iconst (-1), 1) := by decide +kernel
theorem dX11_bolsters_108 : decode cX11_bolsters 108 = .ok (.if_icmp .eq 15, 3) := by decide +kernel
theorem dX11_bolsters_111 : decode cX11_bolsters 111 = .ok (.iload 6, 2) := by decide +kernel
theorem dX11_bolsters_113 : decode cX11_bolsters 113 = .ok (.iload 4, 2) := by decide +kernel
theorem dX11_bolsters_115 : decode cX11_bolsters 115 = .ok (.if_icmp .lt 8, 3) := by decide +kernel
theorem dX11_bolsters_118 : decode cX11_bolsters 118 = .ok (.iload 7, 2) := by decide +kernel
theorem dX11_bolsters_120 : decode cX11_bolsters 120 = .ok (.ifCond .eq 12, 3) := by decide +kernel
theorem dX11_bolsters_123 : decode cX11_bolsters 123 = .ok (.iload 5, 2) := by decide +kernel
theorem dX11_bolsters_125 : decode cX11_bolsters 125 = .ok (.iconst 1, 1) := by decide +kernel
theorem dX11_bolsters_126 : decode cX11_bolsters 126 = .ok (.ishl, 1) := by decide +kernel
theorem dX11_bolsters_127 : decode cX11_bolsters 127 = .ok (.istore_n 3, 1) := by decide +kernel
theorem dX11_bolsters_128 : decode cX11_bolsters 128 = .ok (.iload 6, 2) := by decide +kernel
theorem dX11_bolsters_130 : decode cX11_bolsters 130 = .ok (.istore 4, 2) := by decide +kernel
theorem dX11_bolsters_132 : decode cX11_bolsters 132 = .ok (.iinc 5 1, 3) := by decide +kernel
theorem dX11_bolsters_135 : decode cX11_bolsters 135 = .ok (.goto (-82), 3) := by decide +kernel
theorem dX11_bolsters_138 : decode cX11_bolsters 138 = .ok (.iload_n 1, 1) := by decide +kernel
theorem dX11_bolsters_139 : decode cX11_bolsters 139 = .ok (.ifCond .ne 7, 3) := by decide +kernel
theorem dX11_bolsters_142 : decode cX11_bolsters 142 = .ok (.iload_n 3, 1) := by decide +kernel
theorem dX11_bolsters_143 : decode cX11_bolsters 143 = .ok (.goto 5, 3) := by decide +kernel
theorem dX11_bolsters_146 : decode cX11_bolsters 146 = .ok (.iload 4, 2) := by decide +kernel
theorem dX11_bolsters_148 : decode cX11_bolsters 148 = .ok (.ireturn, 1) := by decide +kernel
theorem dX11_free_0 : decode cX11_free 0 = .ok (.aload_n 0, 1) := by decide +kernel
theorem dX11_free_1 : decode cX11_free 1 = .ok (.iload_n 1, 1) := by decide +kernel
theorem dX11_free_2 : decode cX11_free 2 = .ok (.aload_n 0, 1) := by decide +kernel
theorem dX11_free_3 : decode cX11_free 3 = .ok (.getfield 28, 3) := by decide +kernel
theorem dX11_free_6 : decode cX11_free 6 = .ok (.getfield 101, 3) := by decide +kernel
theorem dX11_free_9 : decode cX11_free 9 = .ok (.invokevirtual 192, 3) := by decide +kernel
theorem dX11_free_12 : decode cX11_free 12 = .ok (.aload_n 0, 1) := by decide +kernel
theorem dX11_free_13 : decode cX11_free 13 = .ok (.getfield 67, 3) := by decide +kernel
theorem dX11_free_16 : decode cX11_free 16 = .ok (.aload_n 0, 1) := by decide +kernel
theorem dX11_free_17 : decode cX11_free 17 = .ok (.getfield 47, 3) := by decide +kernel
theorem dX11_free_20 : decode cX11_free 20 = .ok (.getfield 116, 3) := by decide +kernel
theorem dX11_free_23 : decode cX11_free 23 = .ok (.invokevirtual 272, 3) := by decide +kernel
theorem dX11_free_26 : decode cX11_free 26 = .ok (.aload_n 0, 1) := by decide +kernel
theorem dX11_free_27 : decode cX11_free 27 = .ok (.getfield 67, 3) := by decide +kernel
theorem dX11_free_30 : decode cX11_free 30 = .ok (.iconst 1, 1) := by decide +kernel
theorem dX11_free_31 : decode cX11_free 31 = .ok (.putfield 134, 3) := by decide +kernel
theorem dX11_free_34 : decode cX11_free 34 = .ok (.aload_n 0, 1) := by decide +kernel
theorem dX11_free_35 : decode cX11_free 35 = .ok (.invokevirtual 287, 3) := by decide +kernel
theorem dX11_free_38 : decode cX11_free 38 = .ok (.pop, 1) := by decide +kernel
theorem dX11_free_39 : decode cX11_free 39 = .ok (.aload_n 0, 1) := by decide +kernel
theorem dX11_free_40 : decode cX11_free 40 = .ok (.getfield 76, 3) := by decide +kernel
theorem dX11_free_43 : decode cX11_free 43 = .ok (.iload_n 1, 1) := by decide +kernel
theorem dX11_free_44 : decode cX11_free 44 = .ok (.invokevirtual 244, 3) := by decide +kernel
theorem dX11_free_47 : decode cX11_free 47 = .ok (.getfield 248, 3) := by decide +kernel
theorem dX11_free_50 : decode cX11_free 50 = .ok (.ireturn, 1) := by decide +kernel
theorem dX11_outs_0 : decode cX11_outs 0 = .ok (.aload_n 0, 1) := by decide +kernel
theorem dX11_outs_1 : decode cX11_outs 1 = .ok (.iload_n 1, 1) := by decide +kernel
theorem dX11_outs_2 : decode cX11_outs 2 = .ok (.iconst 2, 1) := by decide +kernel
theorem dX11_outs_3 : decode cX11_outs 3 = .ok (.invokevirtual 192, 3) := by decide +kernel
theorem dX11_outs_6 : decode cX11_outs 6 = .ok (.aload_n 0, 1) := by decide +kernel
theorem dX11_outs_7 : decode cX11_outs 7 = .ok (.getfield 28, 3) := by decide +kernel
theorem dX11_outs_10 : decode cX11_outs 10 = .ok (.aload_n 0, 1) := by decide +kernel
theorem dX11_outs_11 : decode cX11_outs 11 = .ok (.getfield 47, 3) := by decide +kernel
theorem dX11_outs_14 : decode cX11_outs 14 = .ok (.getfield 116, 3) := by decide +kernel
theorem dX11_outs_17 : decode cX11_outs 17 = .ok (.invokevirtual 304, 3) := by decide +kernel
theorem dX11_outs_20 : decode cX11_outs 20 = .ok (.istore_n 2, 1) := by decide +kernel
theorem dX11_outs_21 : decode cX11_outs 21 = .ok (.bipush 10, 2) := by decide +kernel
theorem dX11_outs_23 : decode cX11_outs 23 = .ok (.istore_n 3, 1) := by decide +kernel
theorem dX11_outs_24 : decode cX11_outs 24 = .ok (.iload_n 2, 1) := by decide +kernel
theorem dX11_outs_25 : decode cX11_outs 25 = .ok (.iconst 2, 1) := by decide +kernel
theorem dX11_outs_26 : decode cX11_outs 26 = .ok (.irem, 1) := by decide +kernel
theorem dX11_outs_27 : decode cX11_outs 27 = .ok (.ifCond .ne 11, 3) := by decide +kernel
theorem dX11_outs_30 : decode cX11_outs 30 = .ok (.iload_n 2, 1) := by decide +kernel
theorem dX11_outs_31 : decode cX11_outs 31 = .ok (.iconst 2, 1) := by decide +kernel
theorem dX11_outs_32 : decode cX11_outs 32 = .ok (.idiv, 1) := by decide +kernel
theorem dX11_outs_33 : decode cX11_outs 33 = .ok (.istore_n 2, 1) := by decide +kernel
theorem dX11_outs_34 : decode cX11_outs 34 = .ok (.iload_n 3, 1) := by decide +kernel
theorem dX11_outs_35 : decode cX11_outs 35 = .ok (.iconst 2, 1) := by decide +kernel
theorem dX11_outs_36 : decode cX11_outs 36 = .ok (.idiv, 1) := by decide +kernel
theorem dX11_outs_37 : decode cX11_outs 37 = .ok (.istore_n 3, 1) := by decide +kernel
theorem dX11_outs_38 : decode cX11_outs 38 = .ok (.iload_n 2, 1) := by decide +kernel
theorem dX11_outs_39 : decode cX11_outs 39 = .ok (.iconst 5, 1) := by decide +kernel
theorem dX11_outs_40 : decode cX11_outs 40 = .ok (.irem, 1) := by decide +kernel
theorem dX11_outs_41 : decode cX11_outs 41 = .ok (.ifCond .ne 11, 3) := by decide +kernel
theorem dX11_outs_44 : decode cX11_outs 44 = .ok (.iload_n 2, 1) := by decide +kernel
theorem dX11_outs_45 : decode cX11_outs 45 = .ok (.iconst 5, 1) := by decide +kernel
theorem dX11_outs_46 : decode cX11_outs 46 = .ok (.idiv, 1) := by decide +kernel
theorem dX11_outs_47 : decode cX11_outs 47 = .ok (.istore_n 2, 1) := by decide +kernel
theorem dX11_outs_48 : decode cX11_outs 48 = .ok (.iload_n 3, 1) := by decide +kernel
theorem dX11_outs_49 : decode cX11_outs 49 = .ok (.iconst 5, 1) := by decide +kernel
theorem dX11_outs_50 : decode cX11_outs 50 = .ok (.idiv, 1) := by decide +kernel
theorem dX11_outs_51 : decode cX11_outs 51 = .ok (.istore_n 3, 1) := by decide +kernel
theorem dX11_outs_52 : decode cX11_outs 52 = .ok (.iload_n 1, 1) := by decide +kernel
theorem dX11_outs_53 : decode cX11_outs 53 = .ok (.ifCond .ne 7, 3) := by decide +kernel
theorem dX11_outs_56 : decode cX11_outs 56 = .ok (.iload_n 2, 1) := by decide +kernel
theorem dX11_outs_57 : decode cX11_outs 57 = .ok (.goto 4, 3) := by decide +kernel
theorem dX11_outs_60 : decode cX11_outs 60 = .ok (.iload_n 3, 1) := by decide +kernel
theorem dX11_outs_61 : decode cX11_outs 61 = .ok (.ireturn, 1) := by decide +kernel
theorem dX11_edge_0 : decode cX11_edge 0 = .ok (.aload_n 0, 1) := by decide +kernel
theorem dX11_edge_1 : decode cX11_edge 1 = .ok (.getfield 28, 3) := by decide +kernel
theorem dX11_edge_4 : decode cX11_edge 4 = .ok (.getfield 101, 3) := by decide +kernel
theorem dX11_edge_7 : decode cX11_edge 7 = .ok (.bipush 6, 2) := by decide +kernel
theorem dX11_edge_9 : decode cX11_edge 9 = .ok (.if_icmp .le 6, 3) := by decide +kernel
theorem dX11_edge_12 : decode cX11_edge 12 = .ok (.bipush (-2), 2) := by decide +kernel
theorem dX11_edge_14 : decode cX11_edge 14 = .ok (.ireturn, 1) := by decide +kernel
theorem dX11_edge_15 : decode cX11_edge 15 = .ok (.iconst (-1), 1) := by decide +kernel
theorem dX11_edge_16 : decode cX11_edge 16 = .ok (.istore_n 1, 1) := by decide +kernel
theorem dX11_edge_17 : decode cX11_edge 17 = .ok (.aload_n 0, 1) := by decide +kernel
theorem dX11_edge_18 : decode cX11_edge 18 = .ok (.getfield 67, 3) := by decide +kernel
theorem dX11_edge_21 : decode cX11_edge 21 = .ok (.aload_n 0, 1) := by decide +kernel
theorem dX11_edge_22 : decode cX11_edge 22 = .ok (.getfield 47, 3) := by decide +kernel
theorem dX11_edge_25 : decode cX11_edge 25 = .ok (.getfield 116, 3) := by decide +kernel
theorem dX11_edge_28 : decode cX11_edge 28 = .ok (.invokevirtual 272, 3) := by decide +kernel
theorem dX11_edge_31 : decode cX11_edge 31 = .ok (.aload_n 0, 1) := by decide +kernel
theorem dX11_edge_32 : decode cX11_edge 32 = .ok (.getfield 67, 3) := by decide +kernel
theorem dX11_edge_35 : decode cX11_edge 35 = .ok (.getfield 202, 3) := by decide +kernel
theorem dX11_edge_38 : decode cX11_edge 38 = .ok (.invokevirtual 276, 3) := by decide +kernel
theorem dX11_edge_41 : decode cX11_edge 41 = .ok (.iconst 1, 1) := by decide +kernel
theorem dX11_edge_42 : decode cX11_edge 42 = .ok (.istore_n 2, 1) := by decide +kernel
theorem dX11_edge_43 : decode cX11_edge 43 = .ok (.iconst 0, 1) := by decide +kernel
theorem dX11_edge_44 : decode cX11_edge 44 = .ok (.istore_n 3, 1) := by decide +kernel
theorem dX11_edge_45 : decode cX11_edge 45 = .ok (.iload_n 3, 1) := by decide +kernel
theorem dX11_edge_46 : decode cX11_edge 46 = .ok (.sipush 720, 3) := by decide +kernel
theorem dX11_edge_49 : decode cX11_edge 49 = .ok (.if_icmp .ge 52, 3) := by decide +kernel
theorem dX11_edge_52 : decode cX11_edge 52 = .ok (.iload_n 2, 1) := by decide +kernel
theorem dX11_edge_53 : decode cX11_edge 53 = .ok (.ifCond .eq 48, 3) := by decide +kernel
theorem dX11_edge_56 : decode cX11_edge 56 = .ok (.aload_n 0, 1) := by decide +kernel
theorem dX11_edge_57 : decode cX11_edge 57 = .ok (.getfield 28, 3) := by decide +kernel
theorem dX11_edge_60 : decode cX11_edge 60 = .ok (.aload_n 0, 1) := by decide +kernel
theorem dX11_edge_61 : decode cX11_edge 61 = .ok (.getfield 67, 3) := by decide +kernel
theorem dX11_edge_64 : decode cX11_edge 64 = .ok (.invokevirtual 304, 3) := by decide +kernel
theorem dX11_edge_67 : decode cX11_edge 67 = .ok (.istore 4, 2) := by decide +kernel
theorem dX11_edge_69 : decode cX11_edge 69 = .ok (.iload_n 1, 1) := by decide +kernel
theorem dX11_edge_70 : decode cX11_edge 70 = .ok (.iconst (-1), 1) := by decide +kernel
theorem dX11_edge_71 : decode cX11_edge 71 = .ok (.if_icmp .eq 9, 3) := by decide +kernel
theorem dX11_edge_74 : decode cX11_edge 74 = .ok (.iload 4, 2) := by decide +kernel
theorem dX11_edge_76 : decode cX11_edge 76 = .ok (.iload_n 1, 1) := by decide +kernel
theorem dX11_edge_77 : decode cX11_edge 77 = .ok (.if_icmp .ge 10, 3) := by decide +kernel
theorem dX11_edge_80 : decode cX11_edge 80 = .ok (.iload 4, 2) := by decide +kernel
theorem dX11_edge_82 : decode cX11_edge 82 = .ok (.istore_n 1, 1) := by decide +kernel
theorem dX11_edge_83 : decode cX11_edge 83 = .ok (.aload_n 0, 1) := by decide +kernel
theorem dX11_edge_84 : decode cX11_edge 84 = .ok (.invokevirtual 290, 3) := by decide +kernel
theorem dX11_edge_87 : decode cX11_edge 87 = .ok (.aload_n 0, 1) := by decide +kernel
theorem dX11_edge_88 : decode cX11_edge 88 = .ok (.getfield 67, 3) := by decide +kernel
theorem dX11_edge_91 : decode cX11_edge 91 = .ok (.invokevirtual 283, 3) := by decide +kernel
theorem dX11_edge_94 : decode cX11_edge 94 = .ok (.istore_n 2, 1) := by decide +kernel
theorem dX11_edge_95 : decode cX11_edge 95 = .ok (.iinc 3 1, 3) := by decide +kernel
theorem dX11_edge_98 : decode cX11_edge 98 = .ok (.goto (-53), 3) := by decide +kernel
theorem dX11_edge_101 : decode cX11_edge 101 = .ok (.iload_n 1, 1) := by decide +kernel
theorem dX11_edge_102 : decode cX11_edge 102 = .ok (.ireturn, 1) := by decide +kernel
theorem dX11_fair_0 : decode cX11_fair 0 = .ok (.iload_n 2, 1) := by decide +kernel
theorem dX11_fair_1 : decode cX11_fair 1 = .ok (.iconst (-1), 1) := by decide +kernel
theorem dX11_fair_2 : decode cX11_fair 2 = .ok (.if_icmp .eq 15, 3) := by decide +kernel
theorem dX11_fair_5 : decode cX11_fair 5 = .ok (.aload_n 0, 1) := by decide +kernel
theorem dX11_fair_6 : decode cX11_fair 6 = .ok (.iload_n 2, 1) := by decide +kernel
theorem dX11_fair_7 : decode cX11_fair 7 = .ok (.aload_n 0, 1) := by decide +kernel
theorem dX11_fair_8 : decode cX11_fair 8 = .ok (.getfield 28, 3) := by decide +kernel
theorem dX11_fair_11 : decode cX11_fair 11 = .ok (.getfield 101, 3) := by decide +kernel
theorem dX11_fair_14 : decode cX11_fair 14 = .ok (.invokevirtual 192, 3) := by decide +kernel
theorem dX11_fair_17 : decode cX11_fair 17 = .ok (.aload_n 0, 1) := by decide +kernel
theorem dX11_fair_18 : decode cX11_fair 18 = .ok (.iload_n 1, 1) := by decide +kernel
theorem dX11_fair_19 : decode cX11_fair 19 = .ok (.bipush 30, 2) := by decide +kernel
theorem dX11_fair_21 : decode cX11_fair 21 = .ok (.invokevirtual 256, 3) := by decide +kernel
theorem dX11_fair_24 : decode cX11_fair 24 = .ok (.aload_n 0, 1) := by decide +kernel
theorem dX11_fair_25 : decode cX11_fair 25 = .ok (.getfield 76, 3) := by decide +kernel
theorem dX11_fair_28 : decode cX11_fair 28 = .ok (.invokevirtual 308, 3) := by decide +kernel
theorem dX11_fair_31 : decode cX11_fair 31 = .ok (.aload_n 0, 1) := by decide +kernel
theorem dX11_fair_32 : decode cX11_fair 32 = .ok (.getfield 67, 3) := by decide +kernel
theorem dX11_fair_35 : decode cX11_fair 35 = .ok (.aload_n 0, 1) := by decide +kernel
theorem dX11_fair_36 : decode cX11_fair 36 = .ok (.getfield 47, 3) := by decide +kernel
theorem dX11_fair_39 : decode cX11_fair 39 = .ok (.getfield 116, 3) := by decide +kernel
theorem dX11_fair_42 : decode cX11_fair 42 = .ok (.invokevirtual 272, 3) := by decide +kernel
theorem dX11_fair_45 : decode cX11_fair 45 = .ok (.iconst 0, 1) := by decide +kernel
theorem dX11_fair_46 : decode cX11_fair 46 = .ok (.istore_n 3, 1) := by decide +kernel
theorem dX11_fair_47 : decode cX11_fair 47 = .ok (.iload_n 3, 1) := by decide +kernel
theorem dX11_fair_48 : decode cX11_fair 48 = .ok (.iload_n 1, 1) := by decide +kernel
theorem dX11_fair_49 : decode cX11_fair 49 = .ok (.if_icmp .ge 28, 3) := by decide +kernel
theorem dX11_fair_52 : decode cX11_fair 52 = .ok (.aload_n 0, 1) := by decide +kernel
theorem dX11_fair_53 : decode cX11_fair 53 = .ok (.invokevirtual 287, 3) := by decide +kernel
theorem dX11_fair_56 : decode cX11_fair 56 = .ok (.pop, 1) := by decide +kernel
theorem dX11_fair_57 : decode cX11_fair 57 = .ok (.aload_n 0, 1) := by decide +kernel
theorem dX11_fair_58 : decode cX11_fair 58 = .ok (.getfield 76, 3) := by decide +kernel
theorem dX11_fair_61 : decode cX11_fair 61 = .ok (.invokevirtual 311, 3) := by decide +kernel
theorem dX11_fair_64 : decode cX11_fair 64 = .ok (.aload_n 0, 1) := by decide +kernel
theorem dX11_fair_65 : decode cX11_fair 65 = .ok (.getfield 67, 3) := by decide +kernel
theorem dX11_fair_68 : decode cX11_fair 68 = .ok (.invokevirtual 314, 3) := by decide +kernel
theorem dX11_fair_71 : decode cX11_fair 71 = .ok (.iinc 3 1, 3) := by decide +kernel
theorem dX11_fair_74 : decode cX11_fair 74 = .ok (.goto (-27), 3) := by decide +kernel
theorem dX11_fair_77 : decode cX11_fair 77 = .ok (.iload_n 2, 1) := by decide +kernel
theorem dX11_fair_78 : decode cX11_fair 78 = .ok (.iconst (-1), 1) := by decide +kernel
theorem dX11_fair_79 : decode cX11_fair 79 = .ok (.if_icmp .ne 10, 3) := by decide +kernel
theorem dX11_fair_82 : decode cX11_fair 82 = .ok (.aload_n 0, 1) := by decide +kernel
theorem dX11_fair_83 : decode cX11_fair 83 = .ok (.invokevirtual 317, 3) := by decide +kernel
theorem dX11_fair_86 : decode cX11_fair 86 = .ok (.goto 14, 3) := by decide +kernel
theorem dX11_fair_89 : decode cX11_fair 89 = .ok (.aload_n 0, 1) := by decide +kernel
theorem dX11_fair_90 : decode cX11_fair 90 = .ok (.getfield 76, 3) := by decide +kernel
theorem dX11_fair_93 : decode cX11_fair 93 = .ok (.getfield 320, 3) := by decide +kernel
theorem dX11_fair_96 : decode cX11_fair 96 = .ok (.iload_n 2, 1) := by decide +kernel
theorem dX11_fair_97 : decode cX11_fair 97 = .ok (.invokevirtual 152, 3) := by decide +kernel
theorem dX11_fair_100 : decode cX11_fair 100 = .ok (.ireturn, 1) := by decide +kernel
theorem dX11_apart_0 : decode cX11_apart 0 = .ok (.iconst (-1), 1) := by decide +kernel
theorem dX11_apart_1 : decode cX11_apart 1 = .ok (.istore_n 1, 1) := by decide +kernel
theorem dX11_apart_2 : decode cX11_apart 2 = .ok (.iconst (-1), 1) := by decide +kernel
theorem dX11_apart_3 : decode cX11_apart 3 = .ok (.istore_n 2, 1) := by decide +kernel
theorem dX11_apart_4 : decode cX11_apart 4 = .ok (.iconst 0, 1) := by decide +kernel
theorem dX11_apart_5 : decode cX11_apart 5 = .ok (.istore_n 3, 1) := by decide +kernel
theorem dX11_apart_6 : decode cX11_apart 6 = .ok (.iload_n 3, 1) := by decide +kernel
theorem dX11_apart_7 : decode cX11_apart 7 = .ok (.aload_n 0, 1) := by decide +kernel
theorem dX11_apart_8 : decode cX11_apart 8 = .ok (.getfield 28, 3) := by decide +kernel
theorem dX11_apart_11 : decode cX11_apart 11 = .ok (.getfield 101, 3) := by decide +kernel
theorem dX11_apart_14 : decode cX11_apart 14 = .ok (.if_icmp .ge 72, 3) := by decide +kernel
theorem dX11_apart_17 : decode cX11_apart 17 = .ok (.aload_n 0, 1) := by decide +kernel
theorem dX11_apart_18 : decode cX11_apart 18 = .ok (.getfield 28, 3) := by decide +kernel
theorem dX11_apart_21 : decode cX11_apart 21 = .ok (.iload_n 3, 1) := by decide +kernel
theorem dX11_apart_22 : decode cX11_apart 22 = .ok (.invokevirtual 195, 3) := by decide +kernel
theorem dX11_apart_25 : decode cX11_apart 25 = .ok (.invokevirtual 323, 3) := by decide +kernel
theorem dX11_apart_28 : decode cX11_apart 28 = .ok (.ifCond .eq 52, 3) := by decide +kernel
theorem dX11_apart_31 : decode cX11_apart 31 = .ok (.aload_n 0, 1) := by decide +kernel
theorem dX11_apart_32 : decode cX11_apart 32 = .ok (.getfield 76, 3) := by decide +kernel
theorem dX11_apart_35 : decode cX11_apart 35 = .ok (.getfield 320, 3) := by decide +kernel
theorem dX11_apart_38 : decode cX11_apart 38 = .ok (.iload_n 3, 1) := by decide +kernel
theorem dX11_apart_39 : decode cX11_apart 39 = .ok (.invokevirtual 152, 3) := by decide +kernel
theorem dX11_apart_42 : decode cX11_apart 42 = .ok (.istore 4, 2) := by decide +kernel
theorem dX11_apart_44 : decode cX11_apart 44 = .ok (.iload_n 1, 1) := by decide +kernel
theorem dX11_apart_45 : decode cX11_apart 45 = .ok (.iconst (-1), 1) := by decide +kernel
theorem dX11_apart_46 : decode cX11_apart 46 = .ok (.if_icmp .eq 9, 3) := by decide +kernel
theorem dX11_apart_49 : decode cX11_apart 49 = .ok (.iload 4, 2) := by decide +kernel
theorem dX11_apart_51 : decode cX11_apart 51 = .ok (.iload_n 1, 1) := by decide +kernel
theorem dX11_apart_52 : decode cX11_apart 52 = .ok (.if_icmp .le 8, 3) := by decide +kernel
theorem dX11_apart_55 : decode cX11_apart 55 = .ok (.iload 4, 2) := by decide +kernel
theorem dX11_apart_57 : decode cX11_apart 57 = .ok (.goto 4, 3) := by decide +kernel
theorem dX11_apart_60 : decode cX11_apart 60 = .ok (.iload_n 1, 1) := by decide +kernel
theorem dX11_apart_61 : decode cX11_apart 61 = .ok (.istore_n 1, 1) := by decide +kernel
theorem dX11_apart_62 : decode cX11_apart 62 = .ok (.iload_n 2, 1) := by decide +kernel
theorem dX11_apart_63 : decode cX11_apart 63 = .ok (.iconst (-1), 1) := by decide +kernel
theorem dX11_apart_64 : decode cX11_apart 64 = .ok (.if_icmp .eq 9, 3) := by decide +kernel
theorem dX11_apart_67 : decode cX11_apart 67 = .ok (.iload 4, 2) := by decide +kernel
theorem dX11_apart_69 : decode cX11_apart 69 = .ok (.iload_n 2, 1) := by decide +kernel
theorem dX11_apart_70 : decode cX11_apart 70 = .ok (.if_icmp .ge 8, 3) := by decide +kernel
theorem dX11_apart_73 : decode cX11_apart 73 = .ok (.iload 4, 2) := by decide +kernel
theorem dX11_apart_75 : decode cX11_apart 75 = .ok (.goto 4, 3) := by decide +kernel
theorem dX11_apart_78 : decode cX11_apart 78 = .ok (.iload_n 2, 1) := by decide +kernel
theorem dX11_apart_79 : decode cX11_apart 79 = .ok (.istore_n 2, 1) := by decide +kernel
theorem dX11_apart_80 : decode cX11_apart 80 = .ok (.iinc 3 1, 3) := by decide +kernel
theorem dX11_apart_83 : decode cX11_apart 83 = .ok (.goto (-77), 3) := by decide +kernel
theorem dX11_apart_86 : decode cX11_apart 86 = .ok (.iload_n 1, 1) := by decide +kernel
theorem dX11_apart_87 : decode cX11_apart 87 = .ok (.iload_n 2, 1) := by decide +kernel
theorem dX11_apart_88 : decode cX11_apart 88 = .ok (.isub, 1) := by decide +kernel
theorem dX11_apart_89 : decode cX11_apart 89 = .ok (.ireturn, 1) := by decide +kernel
theorem dX11_see_0 : decode cX11_see 0 = .ok (.aload_n 0, 1) := by decide +kernel
theorem dX11_see_1 : decode cX11_see 1 = .ok (.iload_n 1, 1) := by decide +kernel
theorem dX11_see_2 : decode cX11_see 2 = .ok (.invokevirtual 159, 3) := by decide +kernel
theorem dX11_see_5 : decode cX11_see 5 = .ok (.astore 4, 2) := by decide +kernel
theorem dX11_see_7 : decode cX11_see 7 = .ok (.iload_n 3, 1) := by decide +kernel
theorem dX11_see_8 : decode cX11_see 8 = .ok (.ifCond .eq 8, 3) := by decide +kernel
theorem dX11_see_11 : decode cX11_see 11 = .ok (.iload_n 3, 1) := by decide +kernel
theorem dX11_see_12 : decode cX11_see 12 = .ok (.iconst 1, 1) := by decide +kernel
theorem dX11_see_13 : decode cX11_see 13 = .ok (.if_icmp .ne 7, 3) := by decide +kernel
theorem dX11_see_16 : decode cX11_see 16 = .ok (.iconst 1, 1) := by decide +kernel
theorem dX11_see_17 : decode cX11_see 17 = .ok (.goto 4, 3) := by decide +kernel
theorem dX11_see_20 : decode cX11_see 20 = .ok (.iconst 0, 1) := by decide +kernel
theorem dX11_see_21 : decode cX11_see 21 = .ok (.istore 5, 2) := by decide +kernel
theorem dX11_see_23 : decode cX11_see 23 = .ok (.iload_n 2, 1) := by decide +kernel
theorem dX11_see_24 : decode cX11_see 24 = .ok (.ifCond .lt 14, 3) := by decide +kernel
theorem dX11_see_27 : decode cX11_see 27 = .ok (.iload_n 2, 1) := by decide +kernel
theorem dX11_see_28 : decode cX11_see 28 = .ok (.sipush 600, 3) := by decide +kernel
theorem dX11_see_31 : decode cX11_see 31 = .ok (.if_icmp .gt 7, 3) := by decide +kernel
theorem dX11_see_34 : decode cX11_see 34 = .ok (.iconst 1, 1) := by decide +kernel
theorem dX11_see_35 : decode cX11_see 35 = .ok (.goto 4, 3) := by decide +kernel
theorem dX11_see_38 : decode cX11_see 38 = .ok (.iconst 0, 1) := by decide +kernel
theorem dX11_see_39 : decode cX11_see 39 = .ok (.istore 6, 2) := by decide +kernel
theorem dX11_see_41 : decode cX11_see 41 = .ok (.aload_n 0, 1) := by decide +kernel
theorem dX11_see_42 : decode cX11_see 42 = .ok (.getfield 47, 3) := by decide +kernel
theorem dX11_see_45 : decode cX11_see 45 = .ok (.getfield 146, 3) := by decide +kernel
theorem dX11_see_48 : decode cX11_see 48 = .ok (.getfield 141, 3) := by decide +kernel
theorem dX11_see_51 : decode cX11_see 51 = .ok (.bipush 8, 2) := by decide +kernel
theorem dX11_see_53 : decode cX11_see 53 = .ok (.if_icmp .ge 22, 3) := by decide +kernel
theorem dX11_see_56 : decode cX11_see 56 = .ok (.iload 5, 2) := by decide +kernel
theorem dX11_see_58 : decode cX11_see 58 = .ok (.ifCond .eq 17, 3) := by decide +kernel
theorem dX11_see_61 : decode cX11_see 61 = .ok (.iload 6, 2) := by decide +kernel
theorem dX11_see_63 : decode cX11_see 63 = .ok (.ifCond .eq 12, 3) := by decide +kernel
theorem dX11_see_66 : decode cX11_see 66 = .ok (.aload 4, 2) := by decide +kernel
theorem dX11_see_68 : decode cX11_see 68 = .ok (.getfield 163, 3) := by decide +kernel
theorem dX11_see_71 : decode cX11_see 71 = .ok (.iconst 3, 1) := by decide +kernel
theorem dX11_see_72 : decode cX11_see 72 = .ok (.if_icmp .ne 13, 3) := by decide +kernel
theorem dX11_see_75 : decode cX11_see 75 = .ok (.aload_n 0, 1) := by decide +kernel
theorem dX11_see_76 : decode cX11_see 76 = .ok (.getfield 47, 3) := by decide +kernel
theorem dX11_see_79 : decode cX11_see 79 = .ok (.iconst 2, 1) := by decide +kernel
theorem dX11_see_80 : decode cX11_see 80 = .ok (.invokevirtual 98, 3) := by decide +kernel
theorem dX11_see_83 : decode cX11_see 83 = .ok (.iconst (-1), 1) := by decide +kernel
theorem dX11_see_84 : decode cX11_see 84 = .ok (.ireturn, 1) := by decide +kernel
theorem dX11_see_85 : decode cX11_see 85 = .ok (.aload_n 0, 1) := by decide +kernel
theorem dX11_see_86 : decode cX11_see 86 = .ok (.getfield 47, 3) := by decide +kernel
theorem dX11_see_89 : decode cX11_see 89 = .ok (.getfield 146, 3) := by decide +kernel
theorem dX11_see_92 : decode cX11_see 92 = .ok (.iload_n 1, 1) := by decide +kernel
theorem dX11_see_93 : decode cX11_see 93 = .ok (.iload_n 2, 1) := by decide +kernel
theorem dX11_see_94 : decode cX11_see 94 = .ok (.iload_n 3, 1) := by decide +kernel
theorem dX11_see_95 : decode cX11_see 95 = .ok (.invokevirtual 208, 3) := by decide +kernel
theorem dX11_see_98 : decode cX11_see 98 = .ok (.aload_n 0, 1) := by decide +kernel
theorem dX11_see_99 : decode cX11_see 99 = .ok (.getfield 47, 3) := by decide +kernel
theorem dX11_see_102 : decode cX11_see 102 = .ok (.getfield 146, 3) := by decide +kernel
theorem dX11_see_105 : decode cX11_see 105 = .ok (.getfield 141, 3) := by decide +kernel
theorem dX11_see_108 : decode cX11_see 108 = .ok (.ireturn, 1) := by decide +kernel
theorem dX11_forget_0 : decode cX11_forget 0 = .ok (.aload_n 0, 1) := by decide +kernel
theorem dX11_forget_1 : decode cX11_forget 1 = .ok (.getfield 47, 3) := by decide +kernel
theorem dX11_forget_4 : decode cX11_forget 4 = .ok (.getfield 146, 3) := by decide +kernel
theorem dX11_forget_7 : decode cX11_forget 7 = .ok (.getfield 141, 3) := by decide +kernel
theorem dX11_forget_10 : decode cX11_forget 10 = .ok (.ifCond .ne 5, 3) := by decide +kernel
theorem dX11_forget_13 : decode cX11_forget 13 = .ok (.iconst (-1), 1) := by decide +kernel
theorem dX11_forget_14 : decode cX11_forget 14 = .ok (.ireturn, 1) := by decide +kernel
theorem dX11_forget_15 : decode cX11_forget 15 = .ok (.aload_n 0, 1) := by decide +kernel
theorem dX11_forget_16 : decode cX11_forget 16 = .ok (.getfield 47, 3) := by decide +kernel
theorem dX11_forget_19 : decode cX11_forget 19 = .ok (.getfield 146, 3) := by decide +kernel
theorem dX11_forget_22 : decode cX11_forget 22 = .ok (.invokevirtual 326, 3) := by decide +kernel
theorem dX11_forget_25 : decode cX11_forget 25 = .ok (.aload_n 0, 1) := by decide +kernel
theorem dX11_forget_26 : decode cX11_forget 26 = .ok (.getfield 47, 3) := by decide +kernel
theorem dX11_forget_29 : decode cX11_forget 29 = .ok (.getfield 146, 3) := by decide +kernel
theorem dX11_forget_32 : decode cX11_forget 32 = .ok (.getfield 141, 3) := by decide +kernel
theorem dX11_forget_35 : decode cX11_forget 35 = .ok (.ireturn, 1) := by decide +kernel
theorem dX11_fits_0 : decode cX11_fits 0 = .ok (.aload_n 0, 1) := by decide +kernel
theorem dX11_fits_1 : decode cX11_fits 1 = .ok (.iload_n 1, 1) := by decide +kernel
theorem dX11_fits_2 : decode cX11_fits 2 = .ok (.iconst 2, 1) := by decide +kernel
theorem dX11_fits_3 : decode cX11_fits 3 = .ok (.invokevirtual 192, 3) := by decide +kernel
theorem dX11_fits_6 : decode cX11_fits 6 = .ok (.iconst 0, 1) := by decide +kernel
theorem dX11_fits_7 : decode cX11_fits 7 = .ok (.istore_n 2, 1) := by decide +kernel
theorem dX11_fits_8 : decode cX11_fits 8 = .ok (.iconst (-1), 1) := by decide +kernel
theorem dX11_fits_9 : decode cX11_fits 9 = .ok (.istore_n 3, 1) := by decide +kernel
theorem dX11_fits_10 : decode cX11_fits 10 = .ok (.aload_n 0, 1) := by decide +kernel
theorem dX11_fits_11 : decode cX11_fits 11 = .ok (.getfield 67, 3) := by decide +kernel
theorem dX11_fits_14 : decode cX11_fits 14 = .ok (.aload_n 0, 1) := by decide +kernel
theorem dX11_fits_15 : decode cX11_fits 15 = .ok (.getfield 47, 3) := by decide +kernel
theorem dX11_fits_18 : decode cX11_fits 18 = .ok (.getfield 116, 3) := by decide +kernel
theorem dX11_fits_21 : decode cX11_fits 21 = .ok (.invokevirtual 272, 3) := by decide +kernel
theorem dX11_fits_24 : decode cX11_fits 24 = .ok (.aload_n 0, 1) := by decide +kernel
theorem dX11_fits_25 : decode cX11_fits 25 = .ok (.getfield 47, 3) := by decide +kernel
theorem dX11_fits_28 : decode cX11_fits 28 = .ok (.getfield 116, 3) := by decide +kernel
theorem dX11_fits_31 : decode cX11_fits 31 = .ok (.getfield 128, 3) := by decide +kernel
theorem dX11_fits_34 : decode cX11_fits 34 = .ok (.iconst (-1), 1) := by decide +kernel
theorem dX11_fits_35 : decode cX11_fits 35 = .ok (.if_icmp .ne 7, 3) := by decide +kernel
theorem dX11_fits_38 : decode cX11_fits 38 = .ok (.iconst 0, 1) := by decide +kernel
theorem dX11_fits_39 : decode cX11_fits 39 = .ok (.goto 13, 3) := by decide +kernel
theorem dX11_fits_42 : decode cX11_fits 42 = .ok (.aload_n 0, 1) := by decide +kernel
theorem dX11_fits_43 : decode cX11_fits 43 = .ok (.getfield 47, 3) := by decide +kernel
theorem dX11_fits_46 : decode cX11_fits 46 = .ok (.getfield 116, 3) := by decide +kernel
theorem dX11_fits_49 : decode cX11_fits 49 = .ok (.getfield 128, 3) := by decide +kernel
theorem dX11_fits_52 : decode cX11_fits 52 = .ok (.istore 4, 2) := by decide +kernel
theorem dX11_fits_54 : decode cX11_fits 54 = .ok (.iconst 0, 1) := by decide +kernel
theorem dX11_fits_55 : decode cX11_fits 55 = .ok (.istore 5, 2) := by decide +kernel
theorem dX11_fits_57 : decode cX11_fits 57 = .ok (.iload 5, 2) := by decide +kernel
theorem dX11_fits_59 : decode cX11_fits 59 = .ok (.iconst 1, 1) := by decide +kernel
theorem dX11_fits_60 : decode cX11_fits 60 = .ok (.if_icmp .gt 72, 3) := by decide +kernel
theorem dX11_fits_63 : decode cX11_fits 63 = .ok (.aload_n 0, 1) := by decide +kernel
theorem dX11_fits_64 : decode cX11_fits 64 = .ok (.getfield 67, 3) := by decide +kernel
theorem dX11_fits_67 : decode cX11_fits 67 = .ok (.iload 5, 2) := by decide +kernel
theorem dX11_fits_69 : decode cX11_fits 69 = .ok (.putfield 125, 3) := by decide +kernel
theorem dX11_fits_72 : decode cX11_fits 72 = .ok (.iconst 0, 1) := by decide +kernel
theorem dX11_fits_73 : decode cX11_fits 73 = .ok (.istore 6, 2) := by decide +kernel
theorem dX11_fits_75 : decode cX11_fits 75 = .ok (.iload 6, 2) := by decide +kernel
theorem dX11_fits_77 : decode cX11_fits 77 = .ok (.bipush 60, 2) := by decide +kernel
theorem dX11_fits_79 : decode cX11_fits 79 = .ok (.if_icmp .gt 47, 3) := by decide +kernel
theorem dX11_fits_82 : decode cX11_fits 82 = .ok (.aload_n 0, 1) := by decide +kernel
theorem dX11_fits_83 : decode cX11_fits 83 = .ok (.getfield 67, 3) := by decide +kernel
theorem dX11_fits_86 : decode cX11_fits 86 = .ok (.iload 4, 2) := by decide +kernel
theorem dX11_fits_88 : decode cX11_fits 88 = .ok (.iload 6, 2) := by decide +kernel
theorem dX11_fits_90 : decode cX11_fits 90 = .ok (.invokevirtual 212, 3) := by decide +kernel
theorem dX11_fits_93 : decode cX11_fits 93 = .ok (.aload_n 0, 1) := by decide +kernel
theorem dX11_fits_94 : decode cX11_fits 94 = .ok (.invokevirtual 329, 3) := by decide +kernel
theorem dX11_fits_97 : decode cX11_fits 97 = .ok (.ifCond .eq 23, 3) := by decide +kernel
theorem dX11_fits_100 : decode cX11_fits 100 = .ok (.iload_n 2, 1) := by decide +kernel
theorem dX11_fits_101 : decode cX11_fits 101 = .ok (.ifCond .ne 14, 3) := by decide +kernel
theorem dX11_fits_104 : decode cX11_fits 104 = .ok (.bipush 100, 2) := by decide +kernel
theorem dX11_fits_106 : decode cX11_fits 106 = .ok (.iload 5, 2) := by decide +kernel
theorem dX11_fits_108 : decode cX11_fits 108 = .ok (.imul, 1) := by decide +kernel
theorem dX11_fits_109 : decode cX11_fits 109 = .ok (.iload 6, 2) := by decide +kernel
theorem dX11_fits_111 : decode cX11_fits 111 = .ok (.iadd, 1) := by decide +kernel
theorem dX11_fits_112 : decode cX11_fits 112 = .ok (.goto 4, 3) := by decide +kernel
theorem dX11_fits_115 : decode cX11_fits 115 = .ok (.iload_n 3, 1) := by decide +kernel
theorem dX11_fits_116 : decode cX11_fits 116 = .ok (.istore_n 3, 1) := by decide +kernel
theorem dX11_fits_117 : decode cX11_fits 117 = .ok (.iinc 2 1, 3) := by decide +kernel
theorem dX11_fits_120 : decode cX11_fits 120 = .ok (.iinc 6 1, 3) := by decide +kernel
theorem dX11_fits_123 : decode cX11_fits 123 = .ok (.goto (-48), 3) := by decide +kernel
theorem dX11_fits_126 : decode cX11_fits 126 = .ok (.iinc 5 1, 3) := by decide +kernel
theorem dX11_fits_129 : decode cX11_fits 129 = .ok (.goto (-72), 3) := by decide +kernel
theorem dX11_fits_132 : decode cX11_fits 132 = .ok (.iload_n 1, 1) := by decide +kernel
theorem dX11_fits_133 : decode cX11_fits 133 = .ok (.ifCond .ne 7, 3) := by decide +kernel
theorem dX11_fits_136 : decode cX11_fits 136 = .ok (.iload_n 2, 1) := by decide +kernel
theorem dX11_fits_137 : decode cX11_fits 137 = .ok (.goto 4, 3) := by decide +kernel
theorem dX11_fits_140 : decode cX11_fits 140 = .ok (.iload_n 3, 1) := by decide +kernel
theorem dX11_fits_141 : decode cX11_fits 141 = .ok (.ireturn, 1) := by decide +kernel
theorem dX11_trialFits_0 : decode cX11_trialFits 0 = .ok (.iconst 0, 1) := by decide +kernel
theorem dX11_trialFits_1 : decode cX11_trialFits 1 = .ok (.istore_n 1, 1) := by decide +kernel
theorem dX11_trialFits_2 : decode cX11_trialFits 2 = .ok (.iload_n 1, 1) := by decide +kernel
theorem dX11_trialFits_3 : decode cX11_trialFits 3 = .ok (.aload_n 0, 1) := by decide +kernel
theorem dX11_trialFits_4 : decode cX11_trialFits 4 = .ok (.getfield 47, 3) := by decide +kernel
theorem dX11_trialFits_7 : decode cX11_trialFits 7 = .ok (.getfield 146, 3) := by decide +kernel
theorem dX11_trialFits_10 : decode cX11_trialFits 10 = .ok (.getfield 141, 3) := by decide +kernel
theorem dX11_trialFits_13 : decode cX11_trialFits 13 = .ok (.if_icmp .ge 85, 3) := by decide +kernel
theorem dX11_trialFits_16 : decode cX11_trialFits 16 = .ok (.aload_n 0, 1) := by decide +kernel
theorem dX11_trialFits_17 : decode cX11_trialFits 17 = .ok (.getfield 76, 3) := by decide +kernel
theorem dX11_trialFits_20 : decode cX11_trialFits 20 = .ok (.aload_n 0, 1) := by decide +kernel
theorem dX11_trialFits_21 : decode cX11_trialFits 21 = .ok (.getfield 28, 3) := by decide +kernel
theorem dX11_trialFits_24 : decode cX11_trialFits 24 = .ok (.aload_n 0, 1) := by decide +kernel
theorem dX11_trialFits_25 : decode cX11_trialFits 25 = .ok (.getfield 67, 3) := by decide +kernel
theorem dX11_trialFits_28 : decode cX11_trialFits 28 = .ok (.aload_n 0, 1) := by decide +kernel
theorem dX11_trialFits_29 : decode cX11_trialFits 29 = .ok (.getfield 47, 3) := by decide +kernel
theorem dX11_trialFits_32 : decode cX11_trialFits 32 = .ok (.getfield 146, 3) := by decide +kernel
theorem dX11_trialFits_35 : decode cX11_trialFits 35 = .ok (.iload_n 1, 1) := by decide +kernel
theorem dX11_trialFits_36 : decode cX11_trialFits 36 = .ok (.iconst 1, 1) := by decide +kernel
theorem dX11_trialFits_37 : decode cX11_trialFits 37 = .ok (.invokevirtual 332, 3) := by decide +kernel
theorem dX11_trialFits_40 : decode cX11_trialFits 40 = .ok (.aload_n 0, 1) := by decide +kernel
theorem dX11_trialFits_41 : decode cX11_trialFits 41 = .ok (.getfield 28, 3) := by decide +kernel
theorem dX11_trialFits_44 : decode cX11_trialFits 44 = .ok (.getfield 110, 3) := by decide +kernel
theorem dX11_trialFits_47 : decode cX11_trialFits 47 = .ok (.invokestatic 335, 3) := by decide +kernel
theorem dX11_trialFits_50 : decode cX11_trialFits 50 = .ok (.invokevirtual 240, 3) := by decide +kernel
theorem dX11_trialFits_53 : decode cX11_trialFits 53 = .ok (.aload_n 0, 1) := by decide +kernel
theorem dX11_trialFits_54 : decode cX11_trialFits 54 = .ok (.getfield 76, 3) := by decide +kernel
theorem dX11_trialFits_57 : decode cX11_trialFits 57 = .ok (.aload_n 0, 1) := by decide +kernel
theorem dX11_trialFits_58 : decode cX11_trialFits 58 = .ok (.getfield 47, 3) := by decide +kernel
theorem dX11_trialFits_61 : decode cX11_trialFits 61 = .ok (.getfield 146, 3) := by decide +kernel
theorem dX11_trialFits_64 : decode cX11_trialFits 64 = .ok (.iload_n 1, 1) := by decide +kernel
theorem dX11_trialFits_65 : decode cX11_trialFits 65 = .ok (.iconst 0, 1) := by decide +kernel
theorem dX11_trialFits_66 : decode cX11_trialFits 66 = .ok (.invokevirtual 332, 3) := by decide +kernel
theorem dX11_trialFits_69 : decode cX11_trialFits 69 = .ok (.invokevirtual 244, 3) := by decide +kernel
theorem dX11_trialFits_72 : decode cX11_trialFits 72 = .ok (.getfield 259, 3) := by decide +kernel
theorem dX11_trialFits_75 : decode cX11_trialFits 75 = .ok (.aload_n 0, 1) := by decide +kernel
theorem dX11_trialFits_76 : decode cX11_trialFits 76 = .ok (.getfield 47, 3) := by decide +kernel
theorem dX11_trialFits_79 : decode cX11_trialFits 79 = .ok (.getfield 146, 3) := by decide +kernel
theorem dX11_trialFits_82 : decode cX11_trialFits 82 = .ok (.iload_n 1, 1) := by decide +kernel
theorem dX11_trialFits_83 : decode cX11_trialFits 83 = .ok (.iconst 2, 1) := by decide +kernel
theorem dX11_trialFits_84 : decode cX11_trialFits 84 = .ok (.invokevirtual 332, 3) := by decide +kernel
theorem dX11_trialFits_87 : decode cX11_trialFits 87 = .ok (.if_icmp .eq 5, 3) := by decide +kernel
theorem dX11_trialFits_90 : decode cX11_trialFits 90 = .ok (.iconst 0, 1) := by decide +kernel
theorem dX11_trialFits_91 : decode cX11_trialFits 91 = .ok (.ireturn, 1) := by decide +kernel
theorem dX11_trialFits_92 : decode cX11_trialFits 92 = .ok (.iinc 1 1, 3) := by decide +kernel
theorem dX11_trialFits_95 : decode cX11_trialFits 95 = .ok (.goto (-93), 3) := by decide +kernel
theorem dX11_trialFits_98 : decode cX11_trialFits 98 = .ok (.iconst 1, 1) := by decide +kernel
theorem dX11_trialFits_99 : decode cX11_trialFits 99 = .ok (.ireturn, 1) := by decide +kernel
theorem dX11_without_0 : decode cX11_without 0 = .ok (.aload_n 0, 1) := by decide +kernel
theorem dX11_without_1 : decode cX11_without 1 = .ok (.iload_n 1, 1) := by decide +kernel
theorem dX11_without_2 : decode cX11_without 2 = .ok (.aload_n 0, 1) := by decide +kernel
theorem dX11_without_3 : decode cX11_without 3 = .ok (.getfield 28, 3) := by decide +kernel
theorem dX11_without_6 : decode cX11_without 6 = .ok (.getfield 101, 3) := by decide +kernel
theorem dX11_without_9 : decode cX11_without 9 = .ok (.invokevirtual 192, 3) := by decide +kernel
theorem dX11_without_12 : decode cX11_without 12 = .ok (.aload_n 0, 1) := by decide +kernel
theorem dX11_without_13 : decode cX11_without 13 = .ok (.invokevirtual 224, 3) := by decide +kernel
theorem dX11_without_16 : decode cX11_without 16 = .ok (.aload_n 0, 1) := by decide +kernel
theorem dX11_without_17 : decode cX11_without 17 = .ok (.getfield 76, 3) := by decide +kernel
theorem dX11_without_20 : decode cX11_without 20 = .ok (.getfield 230, 3) := by decide +kernel
theorem dX11_without_23 : decode cX11_without 23 = .ok (.aload_n 0, 1) := by decide +kernel
theorem dX11_without_24 : decode cX11_without 24 = .ok (.getfield 76, 3) := by decide +kernel
theorem dX11_without_27 : decode cX11_without 27 = .ok (.iload_n 1, 1) := by decide +kernel
theorem dX11_without_28 : decode cX11_without 28 = .ok (.invokevirtual 244, 3) := by decide +kernel
theorem dX11_without_31 : decode cX11_without 31 = .ok (.getfield 248, 3) := by decide +kernel
theorem dX11_without_34 : decode cX11_without 34 = .ok (.isub, 1) := by decide +kernel
theorem dX11_without_35 : decode cX11_without 35 = .ok (.istore_n 2, 1) := by decide +kernel
theorem dX11_without_36 : decode cX11_without 36 = .ok (.aload_n 0, 1) := by decide +kernel
theorem dX11_without_37 : decode cX11_without 37 = .ok (.getfield 67, 3) := by decide +kernel
theorem dX11_without_40 : decode cX11_without 40 = .ok (.aload_n 0, 1) := by decide +kernel
theorem dX11_without_41 : decode cX11_without 41 = .ok (.getfield 47, 3) := by decide +kernel
theorem dX11_without_44 : decode cX11_without 44 = .ok (.getfield 116, 3) := by decide +kernel
theorem dX11_without_47 : decode cX11_without 47 = .ok (.invokevirtual 272, 3) := by decide +kernel
theorem dX11_without_50 : decode cX11_without 50 = .ok (.aload_n 0, 1) := by decide +kernel
theorem dX11_without_51 : decode cX11_without 51 = .ok (.getfield 67, 3) := by decide +kernel
theorem dX11_without_54 : decode cX11_without 54 = .ok (.iload_n 1, 1) := by decide +kernel
theorem dX11_without_55 : decode cX11_without 55 = .ok (.invokevirtual 340, 3) := by decide +kernel
theorem dX11_without_58 : decode cX11_without 58 = .ok (.aload_n 0, 1) := by decide +kernel
theorem dX11_without_59 : decode cX11_without 59 = .ok (.getfield 67, 3) := by decide +kernel
theorem dX11_without_62 : decode cX11_without 62 = .ok (.aload_n 0, 1) := by decide +kernel
theorem dX11_without_63 : decode cX11_without 63 = .ok (.getfield 28, 3) := by decide +kernel
theorem dX11_without_66 : decode cX11_without 66 = .ok (.iload_n 1, 1) := by decide +kernel
theorem dX11_without_67 : decode cX11_without 67 = .ok (.invokevirtual 343, 3) := by decide +kernel
theorem dX11_without_70 : decode cX11_without 70 = .ok (.putfield 134, 3) := by decide +kernel
theorem dX11_without_73 : decode cX11_without 73 = .ok (.iload_n 2, 1) := by decide +kernel
theorem dX11_without_74 : decode cX11_without 74 = .ok (.aload_n 0, 1) := by decide +kernel
theorem dX11_without_75 : decode cX11_without 75 = .ok (.invokevirtual 287, 3) := by decide +kernel
theorem dX11_without_78 : decode cX11_without 78 = .ok (.isub, 1) := by decide +kernel
theorem dX11_without_79 : decode cX11_without 79 = .ok (.ireturn, 1) := by decide +kernel
theorem dX11_year_0 : decode cX11_year 0 = .ok (.aload_n 0, 1) := by decide +kernel
theorem dX11_year_1 : decode cX11_year 1 = .ok (.iload_n 3, 1) := by decide +kernel
theorem dX11_year_2 : decode cX11_year 2 = .ok (.iconst 3, 1) := by decide +kernel
theorem dX11_year_3 : decode cX11_year 3 = .ok (.invokevirtual 192, 3) := by decide +kernel
theorem dX11_year_6 : decode cX11_year 6 = .ok (.aload_n 0, 1) := by decide +kernel
theorem dX11_year_7 : decode cX11_year 7 = .ok (.iload_n 2, 1) := by decide +kernel
theorem dX11_year_8 : decode cX11_year 8 = .ok (.bipush 40, 2) := by decide +kernel
theorem dX11_year_10 : decode cX11_year 10 = .ok (.invokevirtual 256, 3) := by decide +kernel
theorem dX11_year_13 : decode cX11_year 13 = .ok (.iconst 0, 1) := by decide +kernel
theorem dX11_year_14 : decode cX11_year 14 = .ok (.istore 4, 2) := by decide +kernel
theorem dX11_year_16 : decode cX11_year 16 = .ok (.iconst 0, 1) := by decide +kernel
theorem dX11_year_17 : decode cX11_year 17 = .ok (.istore 5, 2) := by decide +kernel
theorem dX11_year_19 : decode cX11_year 19 = .ok (.iconst 0, 1) := by decide +kernel
theorem dX11_year_20 : decode cX11_year 20 = .ok (.istore 6, 2) := by decide +kernel
theorem dX11_year_22 : decode cX11_year 22 = .ok (.iload_n 1, 1) := by decide +kernel
theorem dX11_year_23 : decode cX11_year 23 = .ok (.istore 7, 2) := by decide +kernel
theorem dX11_year_25 : decode cX11_year 25 = .ok (.aload_n 0, 1) := by decide +kernel
theorem dX11_year_26 : decode cX11_year 26 = .ok (.getfield 67, 3) := by decide +kernel
theorem dX11_year_29 : decode cX11_year 29 = .ok (.aload_n 0, 1) := by decide +kernel
theorem dX11_year_30 : decode cX11_year 30 = .ok (.getfield 47, 3) := by decide +kernel
theorem dX11_year_33 : decode cX11_year 33 = .ok (.getfield 116, 3) := by decide +kernel
theorem dX11_year_36 : decode cX11_year 36 = .ok (.invokevirtual 272, 3) := by decide +kernel
theorem dX11_year_39 : decode cX11_year 39 = .ok (.iconst 0, 1) := by decide +kernel
theorem dX11_year_40 : decode cX11_year 40 = .ok (.istore 8, 2) := by decide +kernel
theorem dX11_year_42 : decode cX11_year 42 = .ok (.iload 8, 2) := by decide +kernel
theorem dX11_year_44 : decode cX11_year 44 = .ok (.iload_n 2, 1) := by decide +kernel
theorem dX11_year_45 : decode cX11_year 45 = .ok (.if_icmp .ge 61, 3) := by decide +kernel
theorem dX11_year_48 : decode cX11_year 48 = .ok (.aload_n 0, 1) := by decide +kernel
theorem dX11_year_49 : decode cX11_year 49 = .ok (.getfield 67, 3) := by decide +kernel
theorem dX11_year_52 : decode cX11_year 52 = .ok (.aload_n 0, 1) := by decide +kernel
theorem dX11_year_53 : decode cX11_year 53 = .ok (.getfield 28, 3) := by decide +kernel
theorem dX11_year_56 : decode cX11_year 56 = .ok (.iload 7, 2) := by decide +kernel
theorem dX11_year_58 : decode cX11_year 58 = .ok (.invokevirtual 346, 3) := by decide +kernel
theorem dX11_year_61 : decode cX11_year 61 = .ok (.istore 7, 2) := by decide +kernel
theorem dX11_year_63 : decode cX11_year 63 = .ok (.aload_n 0, 1) := by decide +kernel
theorem dX11_year_64 : decode cX11_year 64 = .ok (.invokevirtual 287, 3) := by decide +kernel
theorem dX11_year_67 : decode cX11_year 67 = .ok (.istore 9, 2) := by decide +kernel
theorem dX11_year_69 : decode cX11_year 69 = .ok (.iload 4, 2) := by decide +kernel
theorem dX11_year_71 : decode cX11_year 71 = .ok (.iload 9, 2) := by decide +kernel
theorem dX11_year_73 : decode cX11_year 73 = .ok (.iadd, 1) := by decide +kernel
theorem dX11_year_74 : decode cX11_year 74 = .ok (.istore 4, 2) := by decide +kernel
theorem dX11_year_76 : decode cX11_year 76 = .ok (.iload 5, 2) := by decide +kernel
theorem dX11_year_78 : decode cX11_year 78 = .ok (.iload 9, 2) := by decide +kernel
theorem dX11_year_80 : decode cX11_year 80 = .ok (.invokestatic 350, 3) := by decide +kernel
theorem dX11_year_83 : decode cX11_year 83 = .ok (.istore 5, 2) := by decide +kernel
theorem dX11_year_85 : decode cX11_year 85 = .ok (.iload 6, 2) := by decide +kernel
theorem dX11_year_87 : decode cX11_year 87 = .ok (.iload 9, 2) := by decide +kernel
theorem dX11_year_89 : decode cX11_year 89 = .ok (.ifCond .ne 7, 3) := by decide +kernel
theorem dX11_year_92 : decode cX11_year 92 = .ok (.iconst 1, 1) := by decide +kernel
theorem dX11_year_93 : decode cX11_year 93 = .ok (.goto 4, 3) := by decide +kernel
theorem dX11_year_96 : decode cX11_year 96 = .ok (.iconst 0, 1) := by decide +kernel
theorem dX11_year_97 : decode cX11_year 97 = .ok (.iadd, 1) := by decide +kernel
theorem dX11_year_98 : decode cX11_year 98 = .ok (.istore 6, 2) := by decide +kernel
theorem dX11_year_100 : decode cX11_year 100 = .ok (.iinc 8 1, 3) := by decide +kernel
theorem dX11_year_103 : decode cX11_year 103 = .ok (.goto (-61), 3) := by decide +kernel
theorem dX11_year_106 : decode cX11_year 106 = .ok (.iload_n 3, 1) := by decide +kernel
theorem dX11_year_107 : decode cX11_year 107 = .ok (.ifCond .ne 6, 3) := by decide +kernel
theorem dX11_year_110 : decode cX11_year 110 = .ok (.iload 4, 2) := by decide +kernel
theorem dX11_year_112 : decode cX11_year 112 = .ok (.ireturn, 1) := by decide +kernel
theorem dX11_year_113 : decode cX11_year 113 = .ok (.iload_n 3, 1) := by decide +kernel
theorem dX11_year_114 : decode cX11_year 114 = .ok (.iconst 1, 1) := by decide +kernel
theorem dX11_year_115 : decode cX11_year 115 = .ok (.if_icmp .ne 8, 3) := by decide +kernel
theorem dX11_year_118 : decode cX11_year 118 = .ok (.iload 5, 2) := by decide +kernel
theorem dX11_year_120 : decode cX11_year 120 = .ok (.goto 5, 3) := by decide +kernel
theorem dX11_year_123 : decode cX11_year 123 = .ok (.iload 6, 2) := by decide +kernel
theorem dX11_year_125 : decode cX11_year 125 = .ok (.ireturn, 1) := by decide +kernel
