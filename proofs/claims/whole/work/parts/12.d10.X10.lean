theorem dX10_init_0 : decode cX10_init 0 = .ok (.aload_n 0, 1) := by decide +kernel
theorem dX10_init_1 : decode cX10_init 1 = .ok (.invokespecial 1, 3) := by decide +kernel
theorem dX10_init_4 : decode cX10_init 4 = .ok (.aload_n 0, 1) := by decide +kernel
theorem dX10_init_5 : decode cX10_init 5 = .ok (.iconst 0, 1) := by decide +kernel
theorem dX10_init_6 : decode cX10_init 6 = .ok (.putfield 7, 3) := by decide +kernel
theorem dX10_init_9 : decode cX10_init 9 = .ok (.aload_n 0, 1) := by decide +kernel
theorem dX10_init_10 : decode cX10_init 10 = .ok (.iconst 0, 1) := by decide +kernel
theorem dX10_init_11 : decode cX10_init 11 = .ok (.putfield 13, 3) := by decide +kernel
theorem dX10_init_14 : decode cX10_init 14 = .ok (.aload_n 0, 1) := by decide +kernel
theorem dX10_init_15 : decode cX10_init 15 = .ok (.iconst 0, 1) := by decide +kernel
theorem dX10_init_16 : decode cX10_init 16 = .ok (.putfield 16, 3) := by decide +kernel
theorem dX10_init_19 : decode cX10_init 19 = .ok (.aload_n 0, 1) := by decide +kernel
theorem dX10_init_20 : decode cX10_init 20 = .ok (.iconst 0, 1) := by decide +kernel
theorem dX10_init_21 : decode cX10_init 21 = .ok (.putfield 19, 3) := by decide +kernel
theorem dX10_init_24 : decode cX10_init 24 = .ok (.aload_n 0, 1) := by decide +kernel
theorem dX10_init_25 : decode cX10_init 25 = .ok (.aload_n 1, 1) := by decide +kernel
theorem dX10_init_26 : decode cX10_init 26 = .ok (.putfield 22, 3) := by decide +kernel
theorem dX10_init_29 : decode cX10_init 29 = .ok (.return_, 1) := by decide +kernel
theorem dX10_start_0 : decode cX10_start 0 = .ok (.aload_n 0, 1) := by decide +kernel
theorem dX10_start_1 : decode cX10_start 1 = .ok (.aload_n 1, 1) := by decide +kernel
theorem dX10_start_2 : decode cX10_start 2 = .ok (.putfield 22, 3) := by decide +kernel
theorem dX10_start_5 : decode cX10_start 5 = .ok (.aload_n 0, 1) := by decide +kernel
theorem dX10_start_6 : decode cX10_start 6 = .ok (.iload_n 2, 1) := by decide +kernel
theorem dX10_start_7 : decode cX10_start 7 = .ok (.putfield 7, 3) := by decide +kernel
theorem dX10_start_10 : decode cX10_start 10 = .ok (.aload_n 0, 1) := by decide +kernel
theorem dX10_start_11 : decode cX10_start 11 = .ok (.iconst 0, 1) := by decide +kernel
theorem dX10_start_12 : decode cX10_start 12 = .ok (.putfield 16, 3) := by decide +kernel
theorem dX10_start_15 : decode cX10_start 15 = .ok (.aload_n 0, 1) := by decide +kernel
theorem dX10_start_16 : decode cX10_start 16 = .ok (.invokevirtual 26, 3) := by decide +kernel
theorem dX10_start_19 : decode cX10_start 19 = .ok (.return_, 1) := by decide +kernel
theorem dX10_stop_0 : decode cX10_stop 0 = .ok (.aload_n 0, 1) := by decide +kernel
theorem dX10_stop_1 : decode cX10_stop 1 = .ok (.aload_n 0, 1) := by decide +kernel
theorem dX10_stop_2 : decode cX10_stop 2 = .ok (.getfield 7, 3) := by decide +kernel
theorem dX10_stop_5 : decode cX10_stop 5 = .ok (.putfield 16, 3) := by decide +kernel
theorem dX10_stop_8 : decode cX10_stop 8 = .ok (.aload_n 0, 1) := by decide +kernel
theorem dX10_stop_9 : decode cX10_stop 9 = .ok (.iconst 0, 1) := by decide +kernel
theorem dX10_stop_10 : decode cX10_stop 10 = .ok (.putfield 19, 3) := by decide +kernel
theorem dX10_stop_13 : decode cX10_stop 13 = .ok (.return_, 1) := by decide +kernel
theorem dX10_advance_0 : decode cX10_advance 0 = .ok (.aload_n 0, 1) := by decide +kernel
theorem dX10_advance_1 : decode cX10_advance 1 = .ok (.aload_n 0, 1) := by decide +kernel
theorem dX10_advance_2 : decode cX10_advance 2 = .ok (.getfield 16, 3) := by decide +kernel
theorem dX10_advance_5 : decode cX10_advance 5 = .ok (.putfield 13, 3) := by decide +kernel
theorem dX10_advance_8 : decode cX10_advance 8 = .ok (.aload_n 0, 1) := by decide +kernel
theorem dX10_advance_9 : decode cX10_advance 9 = .ok (.getfield 13, 3) := by decide +kernel
theorem dX10_advance_12 : decode cX10_advance 12 = .ok (.aload_n 0, 1) := by decide +kernel
theorem dX10_advance_13 : decode cX10_advance 13 = .ok (.getfield 7, 3) := by decide +kernel
theorem dX10_advance_16 : decode cX10_advance 16 = .ok (.if_icmp .ge 28, 3) := by decide +kernel
theorem dX10_advance_19 : decode cX10_advance 19 = .ok (.aload_n 0, 1) := by decide +kernel
theorem dX10_advance_20 : decode cX10_advance 20 = .ok (.aload_n 0, 1) := by decide +kernel
theorem dX10_advance_21 : decode cX10_advance 21 = .ok (.getfield 13, 3) := by decide +kernel
theorem dX10_advance_24 : decode cX10_advance 24 = .ok (.invokevirtual 29, 3) := by decide +kernel
theorem dX10_advance_27 : decode cX10_advance 27 = .ok (.iconst 4, 1) := by decide +kernel
theorem dX10_advance_28 : decode cX10_advance 28 = .ok (.if_icmp .ne 16, 3) := by decide +kernel
theorem dX10_advance_31 : decode cX10_advance 31 = .ok (.aload_n 0, 1) := by decide +kernel
theorem dX10_advance_32 : decode cX10_advance 32 = .ok (.dup, 1) := by decide +kernel
theorem dX10_advance_33 : decode cX10_advance 33 = .ok (.getfield 13, 3) := by decide +kernel
theorem dX10_advance_36 : decode cX10_advance 36 = .ok (.iconst 1, 1) := by decide +kernel
theorem dX10_advance_37 : decode cX10_advance 37 = .ok (.iadd, 1) := by decide +kernel
theorem dX10_advance_38 : decode cX10_advance 38 = .ok (.putfield 13, 3) := by decide +kernel
theorem dX10_advance_41 : decode cX10_advance 41 = .ok (.goto (-33), 3) := by decide +kernel
theorem dX10_advance_44 : decode cX10_advance 44 = .ok (.aload_n 0, 1) := by decide +kernel
theorem dX10_advance_45 : decode cX10_advance 45 = .ok (.aload_n 0, 1) := by decide +kernel
theorem dX10_advance_46 : decode cX10_advance 46 = .ok (.getfield 13, 3) := by decide +kernel
theorem dX10_advance_49 : decode cX10_advance 49 = .ok (.aload_n 0, 1) := by decide +kernel
theorem dX10_advance_50 : decode cX10_advance 50 = .ok (.getfield 7, 3) := by decide +kernel
theorem dX10_advance_53 : decode cX10_advance 53 = .ok (.if_icmp .ge 14, 3) := by decide +kernel
theorem dX10_advance_56 : decode cX10_advance 56 = .ok (.aload_n 0, 1) := by decide +kernel
theorem dX10_advance_57 : decode cX10_advance 57 = .ok (.aload_n 0, 1) := by decide +kernel
theorem dX10_advance_58 : decode cX10_advance 58 = .ok (.getfield 13, 3) := by decide +kernel
theorem dX10_advance_61 : decode cX10_advance 61 = .ok (.invokevirtual 29, 3) := by decide +kernel
theorem dX10_advance_64 : decode cX10_advance 64 = .ok (.goto 4, 3) := by decide +kernel
theorem dX10_advance_67 : decode cX10_advance 67 = .ok (.iconst 0, 1) := by decide +kernel
theorem dX10_advance_68 : decode cX10_advance 68 = .ok (.putfield 19, 3) := by decide +kernel
theorem dX10_advance_71 : decode cX10_advance 71 = .ok (.aload_n 0, 1) := by decide +kernel
theorem dX10_advance_72 : decode cX10_advance 72 = .ok (.aload_n 0, 1) := by decide +kernel
theorem dX10_advance_73 : decode cX10_advance 73 = .ok (.getfield 19, 3) := by decide +kernel
theorem dX10_advance_76 : decode cX10_advance 76 = .ok (.ifCond .ne 10, 3) := by decide +kernel
theorem dX10_advance_79 : decode cX10_advance 79 = .ok (.aload_n 0, 1) := by decide +kernel
theorem dX10_advance_80 : decode cX10_advance 80 = .ok (.getfield 13, 3) := by decide +kernel
theorem dX10_advance_83 : decode cX10_advance 83 = .ok (.goto 9, 3) := by decide +kernel
theorem dX10_advance_86 : decode cX10_advance 86 = .ok (.aload_n 0, 1) := by decide +kernel
theorem dX10_advance_87 : decode cX10_advance 87 = .ok (.getfield 13, 3) := by decide +kernel
theorem dX10_advance_90 : decode cX10_advance 90 = .ok (.iconst 1, 1) := by decide +kernel
theorem dX10_advance_91 : decode cX10_advance 91 = .ok (.iadd, 1) := by decide +kernel
theorem dX10_advance_92 : decode cX10_advance 92 = .ok (.putfield 16, 3) := by decide +kernel
theorem dX10_advance_95 : decode cX10_advance 95 = .ok (.aload_n 0, 1) := by decide +kernel
theorem dX10_advance_96 : decode cX10_advance 96 = .ok (.getfield 19, 3) := by decide +kernel
theorem dX10_advance_99 : decode cX10_advance 99 = .ok (.iconst 1, 1) := by decide +kernel
theorem dX10_advance_100 : decode cX10_advance 100 = .ok (.if_icmp .eq 11, 3) := by decide +kernel
theorem dX10_advance_103 : decode cX10_advance 103 = .ok (.aload_n 0, 1) := by decide +kernel
theorem dX10_advance_104 : decode cX10_advance 104 = .ok (.getfield 19, 3) := by decide +kernel
theorem dX10_advance_107 : decode cX10_advance 107 = .ok (.iconst 2, 1) := by decide +kernel
theorem dX10_advance_108 : decode cX10_advance 108 = .ok (.if_icmp .ne 42, 3) := by decide +kernel
theorem dX10_advance_111 : decode cX10_advance 111 = .ok (.aload_n 0, 1) := by decide +kernel
theorem dX10_advance_112 : decode cX10_advance 112 = .ok (.getfield 16, 3) := by decide +kernel
theorem dX10_advance_115 : decode cX10_advance 115 = .ok (.aload_n 0, 1) := by decide +kernel
theorem dX10_advance_116 : decode cX10_advance 116 = .ok (.getfield 7, 3) := by decide +kernel
theorem dX10_advance_119 : decode cX10_advance 119 = .ok (.if_icmp .ge 31, 3) := by decide +kernel
theorem dX10_advance_122 : decode cX10_advance 122 = .ok (.aload_n 0, 1) := by decide +kernel
theorem dX10_advance_123 : decode cX10_advance 123 = .ok (.aload_n 0, 1) := by decide +kernel
theorem dX10_advance_124 : decode cX10_advance 124 = .ok (.getfield 16, 3) := by decide +kernel
theorem dX10_advance_127 : decode cX10_advance 127 = .ok (.invokevirtual 29, 3) := by decide +kernel
theorem dX10_advance_130 : decode cX10_advance 130 = .ok (.aload_n 0, 1) := by decide +kernel
theorem dX10_advance_131 : decode cX10_advance 131 = .ok (.getfield 19, 3) := by decide +kernel
theorem dX10_advance_134 : decode cX10_advance 134 = .ok (.if_icmp .ne 16, 3) := by decide +kernel
theorem dX10_advance_137 : decode cX10_advance 137 = .ok (.aload_n 0, 1) := by decide +kernel
theorem dX10_advance_138 : decode cX10_advance 138 = .ok (.dup, 1) := by decide +kernel
theorem dX10_advance_139 : decode cX10_advance 139 = .ok (.getfield 16, 3) := by decide +kernel
theorem dX10_advance_142 : decode cX10_advance 142 = .ok (.iconst 1, 1) := by decide +kernel
theorem dX10_advance_143 : decode cX10_advance 143 = .ok (.iadd, 1) := by decide +kernel
theorem dX10_advance_144 : decode cX10_advance 144 = .ok (.putfield 16, 3) := by decide +kernel
theorem dX10_advance_147 : decode cX10_advance 147 = .ok (.goto (-36), 3) := by decide +kernel
theorem dX10_advance_150 : decode cX10_advance 150 = .ok (.return_, 1) := by decide +kernel
theorem dX10_kindAt_0 : decode cX10_kindAt 0 = .ok (.aload_n 0, 1) := by decide +kernel
theorem dX10_kindAt_1 : decode cX10_kindAt 1 = .ok (.getfield 22, 3) := by decide +kernel
theorem dX10_kindAt_4 : decode cX10_kindAt 4 = .ok (.iload_n 1, 1) := by decide +kernel
theorem dX10_kindAt_5 : decode cX10_kindAt 5 = .ok (.invokevirtual 33, 3) := by decide +kernel
theorem dX10_kindAt_8 : decode cX10_kindAt 8 = .ok (.istore_n 2, 1) := by decide +kernel
theorem dX10_kindAt_9 : decode cX10_kindAt 9 = .ok (.iload_n 2, 1) := by decide +kernel
theorem dX10_kindAt_10 : decode cX10_kindAt 10 = .ok (.bipush 97, 2) := by decide +kernel
theorem dX10_kindAt_12 : decode cX10_kindAt 12 = .ok (.if_icmp .lt 11, 3) := by decide +kernel
theorem dX10_kindAt_15 : decode cX10_kindAt 15 = .ok (.iload_n 2, 1) := by decide +kernel
theorem dX10_kindAt_16 : decode cX10_kindAt 16 = .ok (.bipush 122, 2) := by decide +kernel
theorem dX10_kindAt_18 : decode cX10_kindAt 18 = .ok (.if_icmp .gt 5, 3) := by decide +kernel
theorem dX10_kindAt_21 : decode cX10_kindAt 21 = .ok (.iconst 1, 1) := by decide +kernel
theorem dX10_kindAt_22 : decode cX10_kindAt 22 = .ok (.ireturn, 1) := by decide +kernel
theorem dX10_kindAt_23 : decode cX10_kindAt 23 = .ok (.iload_n 2, 1) := by decide +kernel
theorem dX10_kindAt_24 : decode cX10_kindAt 24 = .ok (.bipush 48, 2) := by decide +kernel
theorem dX10_kindAt_26 : decode cX10_kindAt 26 = .ok (.if_icmp .lt 11, 3) := by decide +kernel
theorem dX10_kindAt_29 : decode cX10_kindAt 29 = .ok (.iload_n 2, 1) := by decide +kernel
theorem dX10_kindAt_30 : decode cX10_kindAt 30 = .ok (.bipush 57, 2) := by decide +kernel
theorem dX10_kindAt_32 : decode cX10_kindAt 32 = .ok (.if_icmp .gt 5, 3) := by decide +kernel
theorem dX10_kindAt_35 : decode cX10_kindAt 35 = .ok (.iconst 2, 1) := by decide +kernel
theorem dX10_kindAt_36 : decode cX10_kindAt 36 = .ok (.ireturn, 1) := by decide +kernel
theorem dX10_kindAt_37 : decode cX10_kindAt 37 = .ok (.iload_n 2, 1) := by decide +kernel
theorem dX10_kindAt_38 : decode cX10_kindAt 38 = .ok (.bipush 32, 2) := by decide +kernel
theorem dX10_kindAt_40 : decode cX10_kindAt 40 = .ok (.if_icmp .eq 9, 3) := by decide +kernel
theorem dX10_kindAt_43 : decode cX10_kindAt 43 = .ok (.iload_n 2, 1) := by decide +kernel
theorem dX10_kindAt_44 : decode cX10_kindAt 44 = .ok (.bipush 10, 2) := by decide +kernel
theorem dX10_kindAt_46 : decode cX10_kindAt 46 = .ok (.if_icmp .ne 5, 3) := by decide +kernel
theorem dX10_kindAt_49 : decode cX10_kindAt 49 = .ok (.iconst 4, 1) := by decide +kernel
theorem dX10_kindAt_50 : decode cX10_kindAt 50 = .ok (.ireturn, 1) := by decide +kernel
theorem dX10_kindAt_51 : decode cX10_kindAt 51 = .ok (.ldc 37, 2) := by decide +kernel
theorem dX10_kindAt_53 : decode cX10_kindAt 53 = .ok (.iload_n 2, 1) := by decide +kernel
theorem dX10_kindAt_54 : decode cX10_kindAt 54 = .ok (.i2c, 1) := by decide +kernel
theorem dX10_kindAt_55 : decode cX10_kindAt 55 = .ok (.invokevirtual 39, 3) := by decide +kernel
theorem dX10_kindAt_58 : decode cX10_kindAt 58 = .ok (.ifCond .lt 7, 3) := by decide +kernel
theorem dX10_kindAt_61 : decode cX10_kindAt 61 = .ok (.iconst 3, 1) := by decide +kernel
theorem dX10_kindAt_62 : decode cX10_kindAt 62 = .ok (.goto 4, 3) := by decide +kernel
theorem dX10_kindAt_65 : decode cX10_kindAt 65 = .ok (.iconst 5, 1) := by decide +kernel
theorem dX10_kindAt_66 : decode cX10_kindAt 66 = .ok (.ireturn, 1) := by decide +kernel
theorem dX10_number_0 : decode cX10_number 0 = .ok (.aload_n 0, 1) := by decide +kernel
theorem dX10_number_1 : decode cX10_number 1 = .ok (.getfield 16, 3) := by decide +kernel
theorem dX10_number_4 : decode cX10_number 4 = .ok (.aload_n 0, 1) := by decide +kernel
theorem dX10_number_5 : decode cX10_number 5 = .ok (.getfield 13, 3) := by decide +kernel
theorem dX10_number_8 : decode cX10_number 8 = .ok (.isub, 1) := by decide +kernel
theorem dX10_number_9 : decode cX10_number 9 = .ok (.iconst 4, 1) := by decide +kernel
theorem dX10_number_10 : decode cX10_number 10 = .ok (.if_icmp .le 7, 3) := by decide +kernel
theorem dX10_number_13 : decode cX10_number 13 = .ok (.sipush 10000, 3) := by decide +kernel
theorem dX10_number_16 : decode cX10_number 16 = .ok (.ireturn, 1) := by decide +kernel
theorem dX10_number_17 : decode cX10_number 17 = .ok (.iconst 0, 1) := by decide +kernel
theorem dX10_number_18 : decode cX10_number 18 = .ok (.istore_n 1, 1) := by decide +kernel
theorem dX10_number_19 : decode cX10_number 19 = .ok (.aload_n 0, 1) := by decide +kernel
theorem dX10_number_20 : decode cX10_number 20 = .ok (.getfield 13, 3) := by decide +kernel
theorem dX10_number_23 : decode cX10_number 23 = .ok (.istore_n 2, 1) := by decide +kernel
theorem dX10_number_24 : decode cX10_number 24 = .ok (.iload_n 2, 1) := by decide +kernel
theorem dX10_number_25 : decode cX10_number 25 = .ok (.aload_n 0, 1) := by decide +kernel
theorem dX10_number_26 : decode cX10_number 26 = .ok (.getfield 16, 3) := by decide +kernel
theorem dX10_number_29 : decode cX10_number 29 = .ok (.if_icmp .ge 26, 3) := by decide +kernel
theorem dX10_number_32 : decode cX10_number 32 = .ok (.bipush 10, 2) := by decide +kernel
theorem dX10_number_34 : decode cX10_number 34 = .ok (.iload_n 1, 1) := by decide +kernel
theorem dX10_number_35 : decode cX10_number 35 = .ok (.imul, 1) := by decide +kernel
theorem dX10_number_36 : decode cX10_number 36 = .ok (.aload_n 0, 1) := by decide +kernel
theorem dX10_number_37 : decode cX10_number 37 = .ok (.getfield 22, 3) := by decide +kernel
theorem dX10_number_40 : decode cX10_number 40 = .ok (.iload_n 2, 1) := by decide +kernel
theorem dX10_number_41 : decode cX10_number 41 = .ok (.invokevirtual 33, 3) := by decide +kernel
theorem dX10_number_44 : decode cX10_number 44 = .ok (.iadd, 1) := by decide +kernel
theorem dX10_number_45 : decode cX10_number 45 = .ok (.bipush 48, 2) := by decide +kernel
theorem dX10_number_47 : decode cX10_number 47 = .ok (.isub, 1) := by decide +kernel
theorem dX10_number_48 : decode cX10_number 48 = .ok (.istore_n 1, 1) := by decide +kernel
theorem dX10_number_49 : decode cX10_number 49 = .ok (.iinc 2 1, 3) := by decide +kernel
theorem dX10_number_52 : decode cX10_number 52 = .ok (.goto (-28), 3) := by decide +kernel
theorem dX10_number_55 : decode cX10_number 55 = .ok (.iload_n 1, 1) := by decide +kernel
theorem dX10_number_56 : decode cX10_number 56 = .ok (.ireturn, 1) := by decide +kernel
theorem dX10_isWord_0 : decode cX10_isWord 0 = .ok (.aload_n 0, 1) := by decide +kernel
theorem dX10_isWord_1 : decode cX10_isWord 1 = .ok (.getfield 19, 3) := by decide +kernel
theorem dX10_isWord_4 : decode cX10_isWord 4 = .ok (.iconst 1, 1) := by decide +kernel
theorem dX10_isWord_5 : decode cX10_isWord 5 = .ok (.if_icmp .ne 19, 3) := by decide +kernel
theorem dX10_isWord_8 : decode cX10_isWord 8 = .ok (.aload_n 0, 1) := by decide +kernel
theorem dX10_isWord_9 : decode cX10_isWord 9 = .ok (.getfield 16, 3) := by decide +kernel
theorem dX10_isWord_12 : decode cX10_isWord 12 = .ok (.aload_n 0, 1) := by decide +kernel
theorem dX10_isWord_13 : decode cX10_isWord 13 = .ok (.getfield 13, 3) := by decide +kernel
theorem dX10_isWord_16 : decode cX10_isWord 16 = .ok (.isub, 1) := by decide +kernel
theorem dX10_isWord_17 : decode cX10_isWord 17 = .ok (.aload_n 1, 1) := by decide +kernel
theorem dX10_isWord_18 : decode cX10_isWord 18 = .ok (.invokevirtual 44, 3) := by decide +kernel
theorem dX10_isWord_21 : decode cX10_isWord 21 = .ok (.if_icmp .eq 5, 3) := by decide +kernel
theorem dX10_isWord_24 : decode cX10_isWord 24 = .ok (.iconst 0, 1) := by decide +kernel
theorem dX10_isWord_25 : decode cX10_isWord 25 = .ok (.ireturn, 1) := by decide +kernel
theorem dX10_isWord_26 : decode cX10_isWord 26 = .ok (.iconst 0, 1) := by decide +kernel
theorem dX10_isWord_27 : decode cX10_isWord 27 = .ok (.istore_n 2, 1) := by decide +kernel
theorem dX10_isWord_28 : decode cX10_isWord 28 = .ok (.iload_n 2, 1) := by decide +kernel
theorem dX10_isWord_29 : decode cX10_isWord 29 = .ok (.aload_n 1, 1) := by decide +kernel
theorem dX10_isWord_30 : decode cX10_isWord 30 = .ok (.invokevirtual 44, 3) := by decide +kernel
theorem dX10_isWord_33 : decode cX10_isWord 33 = .ok (.if_icmp .ge 32, 3) := by decide +kernel
theorem dX10_isWord_36 : decode cX10_isWord 36 = .ok (.aload_n 0, 1) := by decide +kernel
theorem dX10_isWord_37 : decode cX10_isWord 37 = .ok (.getfield 22, 3) := by decide +kernel
theorem dX10_isWord_40 : decode cX10_isWord 40 = .ok (.aload_n 0, 1) := by decide +kernel
theorem dX10_isWord_41 : decode cX10_isWord 41 = .ok (.getfield 13, 3) := by decide +kernel
theorem dX10_isWord_44 : decode cX10_isWord 44 = .ok (.iload_n 2, 1) := by decide +kernel
theorem dX10_isWord_45 : decode cX10_isWord 45 = .ok (.iadd, 1) := by decide +kernel
theorem dX10_isWord_46 : decode cX10_isWord 46 = .ok (.invokevirtual 33, 3) := by decide +kernel
theorem dX10_isWord_49 : decode cX10_isWord 49 = .ok (.aload_n 1, 1) := by decide +kernel
theorem dX10_isWord_50 : decode cX10_isWord 50 = .ok (.iload_n 2, 1) := by decide +kernel
theorem dX10_isWord_51 : decode cX10_isWord 51 = .ok (.invokevirtual 47, 3) := by decide +kernel
theorem dX10_isWord_54 : decode cX10_isWord 54 = .ok (.if_icmp .eq 5, 3) := by decide +kernel
theorem dX10_isWord_57 : decode cX10_isWord 57 = .ok (.iconst 0, 1) := by decide +kernel
theorem dX10_isWord_58 : decode cX10_isWord 58 = .ok (.ireturn, 1) := by decide +kernel
theorem dX10_isWord_59 : decode cX10_isWord 59 = .ok (.iinc 2 1, 3) := by decide +kernel
theorem dX10_isWord_62 : decode cX10_isWord 62 = .ok (.goto (-34), 3) := by decide +kernel
theorem dX10_isWord_65 : decode cX10_isWord 65 = .ok (.iconst 1, 1) := by decide +kernel
theorem dX10_isWord_66 : decode cX10_isWord 66 = .ok (.ireturn, 1) := by decide +kernel
theorem dX10_isSign_0 : decode cX10_isSign 0 = .ok (.aload_n 0, 1) := by decide +kernel
theorem dX10_isSign_1 : decode cX10_isSign 1 = .ok (.getfield 19, 3) := by decide +kernel
theorem dX10_isSign_4 : decode cX10_isSign 4 = .ok (.iconst 3, 1) := by decide +kernel
theorem dX10_isSign_5 : decode cX10_isSign 5 = .ok (.if_icmp .ne 22, 3) := by decide +kernel
theorem dX10_isSign_8 : decode cX10_isSign 8 = .ok (.aload_n 0, 1) := by decide +kernel
theorem dX10_isSign_9 : decode cX10_isSign 9 = .ok (.getfield 22, 3) := by decide +kernel
theorem dX10_isSign_12 : decode cX10_isSign 12 = .ok (.aload_n 0, 1) := by decide +kernel
theorem dX10_isSign_13 : decode cX10_isSign 13 = .ok (.getfield 13, 3) := by decide +kernel
theorem dX10_isSign_16 : decode cX10_isSign 16 = .ok (.invokevirtual 33, 3) := by decide +kernel
theorem dX10_isSign_19 : decode cX10_isSign 19 = .ok (.iload_n 1, 1) := by decide +kernel
theorem dX10_isSign_20 : decode cX10_isSign 20 = .ok (.if_icmp .ne 7, 3) := by decide +kernel
theorem dX10_isSign_23 : decode cX10_isSign 23 = .ok (.iconst 1, 1) := by decide +kernel
theorem dX10_isSign_24 : decode cX10_isSign 24 = .ok (.goto 4, 3) := by decide +kernel
theorem dX10_isSign_27 : decode cX10_isSign 27 = .ok (.iconst 0, 1) := by decide +kernel
theorem dX10_isSign_28 : decode cX10_isSign 28 = .ok (.ireturn, 1) := by decide +kernel
theorem dX10_isNumberWithin_0 : decode cX10_isNumberWithin 0 = .ok (.aload_n 0, 1) := by decide +kernel
theorem dX10_isNumberWithin_1 : decode cX10_isNumberWithin 1 = .ok (.getfield 19, 3) := by decide +kernel
theorem dX10_isNumberWithin_4 : decode cX10_isNumberWithin 4 = .ok (.iconst 2, 1) := by decide +kernel
theorem dX10_isNumberWithin_5 : decode cX10_isNumberWithin 5 = .ok (.if_icmp .ne 23, 3) := by decide +kernel
theorem dX10_isNumberWithin_8 : decode cX10_isNumberWithin 8 = .ok (.aload_n 0, 1) := by decide +kernel
theorem dX10_isNumberWithin_9 : decode cX10_isNumberWithin 9 = .ok (.invokevirtual 51, 3) := by decide +kernel
theorem dX10_isNumberWithin_12 : decode cX10_isNumberWithin 12 = .ok (.iload_n 1, 1) := by decide +kernel
theorem dX10_isNumberWithin_13 : decode cX10_isNumberWithin 13 = .ok (.if_icmp .lt 15, 3) := by decide +kernel
theorem dX10_isNumberWithin_16 : decode cX10_isNumberWithin 16 = .ok (.aload_n 0, 1) := by decide +kernel
theorem dX10_isNumberWithin_17 : decode cX10_isNumberWithin 17 = .ok (.invokevirtual 51, 3) := by decide +kernel
theorem dX10_isNumberWithin_20 : decode cX10_isNumberWithin 20 = .ok (.iload_n 2, 1) := by decide +kernel
theorem dX10_isNumberWithin_21 : decode cX10_isNumberWithin 21 = .ok (.if_icmp .gt 7, 3) := by decide +kernel
theorem dX10_isNumberWithin_24 : decode cX10_isNumberWithin 24 = .ok (.iconst 1, 1) := by decide +kernel
theorem dX10_isNumberWithin_25 : decode cX10_isNumberWithin 25 = .ok (.goto 4, 3) := by decide +kernel
theorem dX10_isNumberWithin_28 : decode cX10_isNumberWithin 28 = .ok (.iconst 0, 1) := by decide +kernel
theorem dX10_isNumberWithin_29 : decode cX10_isNumberWithin 29 = .ok (.ireturn, 1) := by decide +kernel
