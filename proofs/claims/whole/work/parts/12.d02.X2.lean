theorem dX2_init_0 : decode cX2_init 0 = .ok (.aload_n 0, 1) := by decide +kernel
theorem dX2_init_1 : decode cX2_init 1 = .ok (.invokespecial 3, 3) := by decide +kernel
theorem dX2_init_4 : decode cX2_init 4 = .ok (.aload_n 0, 1) := by decide +kernel
theorem dX2_init_5 : decode cX2_init 5 = .ok (.bipush 7, 2) := by decide +kernel
theorem dX2_init_7 : decode cX2_init 7 = .ok (.anewarray 9, 3) := by decide +kernel
theorem dX2_init_10 : decode cX2_init 10 = .ok (.putfield 11, 3) := by decide +kernel
theorem dX2_init_13 : decode cX2_init 13 = .ok (.aload_n 0, 1) := by decide +kernel
theorem dX2_init_14 : decode cX2_init 14 = .ok (.new 17, 3) := by decide +kernel
theorem dX2_init_17 : decode cX2_init 17 = .ok (.dup, 1) := by decide +kernel
theorem dX2_init_18 : decode cX2_init 18 = .ok (.bipush 7, 2) := by decide +kernel
theorem dX2_init_20 : decode cX2_init 20 = .ok (.invokespecial 19, 3) := by decide +kernel
theorem dX2_init_23 : decode cX2_init 23 = .ok (.putfield 22, 3) := by decide +kernel
theorem dX2_init_26 : decode cX2_init 26 = .ok (.aload_n 0, 1) := by decide +kernel
theorem dX2_init_27 : decode cX2_init 27 = .ok (.new 17, 3) := by decide +kernel
theorem dX2_init_30 : decode cX2_init 30 = .ok (.dup, 1) := by decide +kernel
theorem dX2_init_31 : decode cX2_init 31 = .ok (.iconst 4, 1) := by decide +kernel
theorem dX2_init_32 : decode cX2_init 32 = .ok (.invokespecial 19, 3) := by decide +kernel
theorem dX2_init_35 : decode cX2_init 35 = .ok (.putfield 26, 3) := by decide +kernel
theorem dX2_init_38 : decode cX2_init 38 = .ok (.aload_n 0, 1) := by decide +kernel
theorem dX2_init_39 : decode cX2_init 39 = .ok (.iconst 0, 1) := by decide +kernel
theorem dX2_init_40 : decode cX2_init 40 = .ok (.putfield 29, 3) := by decide +kernel
theorem dX2_init_43 : decode cX2_init 43 = .ok (.aload_n 0, 1) := by decide +kernel
theorem dX2_init_44 : decode cX2_init 44 = .ok (.iconst 0, 1) := by decide +kernel
theorem dX2_init_45 : decode cX2_init 45 = .ok (.putfield 33, 3) := by decide +kernel
theorem dX2_init_48 : decode cX2_init 48 = .ok (.aload_n 0, 1) := by decide +kernel
theorem dX2_init_49 : decode cX2_init 49 = .ok (.iconst 0, 1) := by decide +kernel
theorem dX2_init_50 : decode cX2_init 50 = .ok (.putfield 36, 3) := by decide +kernel
theorem dX2_init_53 : decode cX2_init 53 = .ok (.aload_n 0, 1) := by decide +kernel
theorem dX2_init_54 : decode cX2_init 54 = .ok (.iconst 0, 1) := by decide +kernel
theorem dX2_init_55 : decode cX2_init 55 = .ok (.putfield 39, 3) := by decide +kernel
theorem dX2_init_58 : decode cX2_init 58 = .ok (.aload_n 0, 1) := by decide +kernel
theorem dX2_init_59 : decode cX2_init 59 = .ok (.iconst 0, 1) := by decide +kernel
theorem dX2_init_60 : decode cX2_init 60 = .ok (.putfield 42, 3) := by decide +kernel
theorem dX2_init_63 : decode cX2_init 63 = .ok (.aload_n 0, 1) := by decide +kernel
theorem dX2_init_64 : decode cX2_init 64 = .ok (.iconst 0, 1) := by decide +kernel
theorem dX2_init_65 : decode cX2_init 65 = .ok (.putfield 45, 3) := by decide +kernel
theorem dX2_init_68 : decode cX2_init 68 = .ok (.aload_n 0, 1) := by decide +kernel
theorem dX2_init_69 : decode cX2_init 69 = .ok (.aload_n 1, 1) := by decide +kernel
theorem dX2_init_70 : decode cX2_init 70 = .ok (.putfield 48, 3) := by decide +kernel
theorem dX2_init_73 : decode cX2_init 73 = .ok (.aload_n 0, 1) := by decide +kernel
theorem dX2_init_74 : decode cX2_init 74 = .ok (.aload_n 2, 1) := by decide +kernel
theorem dX2_init_75 : decode cX2_init 75 = .ok (.putfield 52, 3) := by decide +kernel
theorem dX2_init_78 : decode cX2_init 78 = .ok (.aload_n 0, 1) := by decide +kernel
theorem dX2_init_79 : decode cX2_init 79 = .ok (.new 9, 3) := by decide +kernel
theorem dX2_init_82 : decode cX2_init 82 = .ok (.dup, 1) := by decide +kernel
theorem dX2_init_83 : decode cX2_init 83 = .ok (.new 56, 3) := by decide +kernel
theorem dX2_init_86 : decode cX2_init 86 = .ok (.dup, 1) := by decide +kernel
theorem dX2_init_87 : decode cX2_init 87 = .ok (.invokespecial 58, 3) := by decide +kernel
theorem dX2_init_90 : decode cX2_init 90 = .ok (.invokespecial 59, 3) := by decide +kernel
theorem dX2_init_93 : decode cX2_init 93 = .ok (.putfield 62, 3) := by decide +kernel
theorem dX2_init_96 : decode cX2_init 96 = .ok (.iconst 0, 1) := by decide +kernel
theorem dX2_init_97 : decode cX2_init 97 = .ok (.istore_n 3, 1) := by decide +kernel
theorem dX2_init_98 : decode cX2_init 98 = .ok (.iload_n 3, 1) := by decide +kernel
theorem dX2_init_99 : decode cX2_init 99 = .ok (.aload_n 0, 1) := by decide +kernel
theorem dX2_init_100 : decode cX2_init 100 = .ok (.getfield 11, 3) := by decide +kernel
theorem dX2_init_103 : decode cX2_init 103 = .ok (.arraylength, 1) := by decide +kernel
theorem dX2_init_104 : decode cX2_init 104 = .ok (.if_icmp .ge 29, 3) := by decide +kernel
theorem dX2_init_107 : decode cX2_init 107 = .ok (.aload_n 0, 1) := by decide +kernel
theorem dX2_init_108 : decode cX2_init 108 = .ok (.getfield 11, 3) := by decide +kernel
theorem dX2_init_111 : decode cX2_init 111 = .ok (.iload_n 3, 1) := by decide +kernel
theorem dX2_init_112 : decode cX2_init 112 = .ok (.new 9, 3) := by decide +kernel
theorem dX2_init_115 : decode cX2_init 115 = .ok (.dup, 1) := by decide +kernel
theorem dX2_init_116 : decode cX2_init 116 = .ok (.aload_n 0, 1) := by decide +kernel
theorem dX2_init_117 : decode cX2_init 117 = .ok (.getfield 62, 3) := by decide +kernel
theorem dX2_init_120 : decode cX2_init 120 = .ok (.getfield 66, 3) := by decide +kernel
theorem dX2_init_123 : decode cX2_init 123 = .ok (.invokespecial 59, 3) := by decide +kernel
theorem dX2_init_126 : decode cX2_init 126 = .ok (.aastore, 1) := by decide +kernel
theorem dX2_init_127 : decode cX2_init 127 = .ok (.iinc 3 1, 3) := by decide +kernel
theorem dX2_init_130 : decode cX2_init 130 = .ok (.goto (-32), 3) := by decide +kernel
theorem dX2_init_133 : decode cX2_init 133 = .ok (.return_, 1) := by decide +kernel
theorem dX2_pass_0 : decode cX2_pass 0 = .ok (.aload_n 0, 1) := by decide +kernel
theorem dX2_pass_1 : decode cX2_pass 1 = .ok (.aload_n 1, 1) := by decide +kernel
theorem dX2_pass_2 : decode cX2_pass 2 = .ok (.putfield 48, 3) := by decide +kernel
theorem dX2_pass_5 : decode cX2_pass 5 = .ok (.aload_n 0, 1) := by decide +kernel
theorem dX2_pass_6 : decode cX2_pass 6 = .ok (.aload_n 2, 1) := by decide +kernel
theorem dX2_pass_7 : decode cX2_pass 7 = .ok (.putfield 52, 3) := by decide +kernel
theorem dX2_pass_10 : decode cX2_pass 10 = .ok (.aload_n 0, 1) := by decide +kernel
theorem dX2_pass_11 : decode cX2_pass 11 = .ok (.invokevirtual 70, 3) := by decide +kernel
theorem dX2_pass_14 : decode cX2_pass 14 = .ok (.aload_n 0, 1) := by decide +kernel
theorem dX2_pass_15 : decode cX2_pass 15 = .ok (.invokevirtual 73, 3) := by decide +kernel
theorem dX2_pass_18 : decode cX2_pass 18 = .ok (.istore 4, 2) := by decide +kernel
theorem dX2_pass_20 : decode cX2_pass 20 = .ok (.iconst 1, 1) := by decide +kernel
theorem dX2_pass_21 : decode cX2_pass 21 = .ok (.istore 5, 2) := by decide +kernel
theorem dX2_pass_23 : decode cX2_pass 23 = .ok (.iload 5, 2) := by decide +kernel
theorem dX2_pass_25 : decode cX2_pass 25 = .ok (.iload_n 3, 1) := by decide +kernel
theorem dX2_pass_26 : decode cX2_pass 26 = .ok (.if_icmp .gt 32, 3) := by decide +kernel
theorem dX2_pass_29 : decode cX2_pass 29 = .ok (.iload 5, 2) := by decide +kernel
theorem dX2_pass_31 : decode cX2_pass 31 = .ok (.iload 4, 2) := by decide +kernel
theorem dX2_pass_33 : decode cX2_pass 33 = .ok (.if_icmp .lt 19, 3) := by decide +kernel
theorem dX2_pass_36 : decode cX2_pass 36 = .ok (.aload_n 0, 1) := by decide +kernel
theorem dX2_pass_37 : decode cX2_pass 37 = .ok (.iload 5, 2) := by decide +kernel
theorem dX2_pass_39 : decode cX2_pass 39 = .ok (.putfield 33, 3) := by decide +kernel
theorem dX2_pass_42 : decode cX2_pass 42 = .ok (.aload_n 0, 1) := by decide +kernel
theorem dX2_pass_43 : decode cX2_pass 43 = .ok (.invokevirtual 77, 3) := by decide +kernel
theorem dX2_pass_46 : decode cX2_pass 46 = .ok (.aload_n 0, 1) := by decide +kernel
theorem dX2_pass_47 : decode cX2_pass 47 = .ok (.invokevirtual 73, 3) := by decide +kernel
theorem dX2_pass_50 : decode cX2_pass 50 = .ok (.istore 4, 2) := by decide +kernel
theorem dX2_pass_52 : decode cX2_pass 52 = .ok (.iinc 5 1, 3) := by decide +kernel
theorem dX2_pass_55 : decode cX2_pass 55 = .ok (.goto (-32), 3) := by decide +kernel
theorem dX2_pass_58 : decode cX2_pass 58 = .ok (.aload_n 0, 1) := by decide +kernel
theorem dX2_pass_59 : decode cX2_pass 59 = .ok (.aload_n 0, 1) := by decide +kernel
theorem dX2_pass_60 : decode cX2_pass 60 = .ok (.getfield 42, 3) := by decide +kernel
theorem dX2_pass_63 : decode cX2_pass 63 = .ok (.iload_n 3, 1) := by decide +kernel
theorem dX2_pass_64 : decode cX2_pass 64 = .ok (.aload_n 0, 1) := by decide +kernel
theorem dX2_pass_65 : decode cX2_pass 65 = .ok (.getfield 45, 3) := by decide +kernel
theorem dX2_pass_68 : decode cX2_pass 68 = .ok (.isub, 1) := by decide +kernel
theorem dX2_pass_69 : decode cX2_pass 69 = .ok (.invokestatic 80, 3) := by decide +kernel
theorem dX2_pass_72 : decode cX2_pass 72 = .ok (.putfield 42, 3) := by decide +kernel
theorem dX2_pass_75 : decode cX2_pass 75 = .ok (.return_, 1) := by decide +kernel
theorem dX2_lieDown_0 : decode cX2_lieDown 0 = .ok (.aload_n 0, 1) := by decide +kernel
theorem dX2_lieDown_1 : decode cX2_lieDown 1 = .ok (.iconst 0, 1) := by decide +kernel
theorem dX2_lieDown_2 : decode cX2_lieDown 2 = .ok (.putfield 33, 3) := by decide +kernel
theorem dX2_lieDown_5 : decode cX2_lieDown 5 = .ok (.aload_n 0, 1) := by decide +kernel
theorem dX2_lieDown_6 : decode cX2_lieDown 6 = .ok (.iconst 0, 1) := by decide +kernel
theorem dX2_lieDown_7 : decode cX2_lieDown 7 = .ok (.putfield 36, 3) := by decide +kernel
theorem dX2_lieDown_10 : decode cX2_lieDown 10 = .ok (.aload_n 0, 1) := by decide +kernel
theorem dX2_lieDown_11 : decode cX2_lieDown 11 = .ok (.iconst 0, 1) := by decide +kernel
theorem dX2_lieDown_12 : decode cX2_lieDown 12 = .ok (.putfield 39, 3) := by decide +kernel
theorem dX2_lieDown_15 : decode cX2_lieDown 15 = .ok (.aload_n 0, 1) := by decide +kernel
theorem dX2_lieDown_16 : decode cX2_lieDown 16 = .ok (.iconst 0, 1) := by decide +kernel
theorem dX2_lieDown_17 : decode cX2_lieDown 17 = .ok (.putfield 42, 3) := by decide +kernel
theorem dX2_lieDown_20 : decode cX2_lieDown 20 = .ok (.aload_n 0, 1) := by decide +kernel
theorem dX2_lieDown_21 : decode cX2_lieDown 21 = .ok (.iconst 0, 1) := by decide +kernel
theorem dX2_lieDown_22 : decode cX2_lieDown 22 = .ok (.putfield 45, 3) := by decide +kernel
theorem dX2_lieDown_25 : decode cX2_lieDown 25 = .ok (.iconst 0, 1) := by decide +kernel
theorem dX2_lieDown_26 : decode cX2_lieDown 26 = .ok (.istore_n 1, 1) := by decide +kernel
theorem dX2_lieDown_27 : decode cX2_lieDown 27 = .ok (.iload_n 1, 1) := by decide +kernel
theorem dX2_lieDown_28 : decode cX2_lieDown 28 = .ok (.aload_n 0, 1) := by decide +kernel
theorem dX2_lieDown_29 : decode cX2_lieDown 29 = .ok (.getfield 52, 3) := by decide +kernel
theorem dX2_lieDown_32 : decode cX2_lieDown 32 = .ok (.getfield 86, 3) := by decide +kernel
theorem dX2_lieDown_35 : decode cX2_lieDown 35 = .ok (.if_icmp .ge 57, 3) := by decide +kernel
theorem dX2_lieDown_38 : decode cX2_lieDown 38 = .ok (.aload_n 0, 1) := by decide +kernel
theorem dX2_lieDown_39 : decode cX2_lieDown 39 = .ok (.getfield 52, 3) := by decide +kernel
theorem dX2_lieDown_42 : decode cX2_lieDown 42 = .ok (.getfield 91, 3) := by decide +kernel
theorem dX2_lieDown_45 : decode cX2_lieDown 45 = .ok (.iload_n 1, 1) := by decide +kernel
theorem dX2_lieDown_46 : decode cX2_lieDown 46 = .ok (.invokevirtual 94, 3) := by decide +kernel
theorem dX2_lieDown_49 : decode cX2_lieDown 49 = .ok (.istore_n 2, 1) := by decide +kernel
theorem dX2_lieDown_50 : decode cX2_lieDown 50 = .ok (.aload_n 0, 1) := by decide +kernel
theorem dX2_lieDown_51 : decode cX2_lieDown 51 = .ok (.iload_n 1, 1) := by decide +kernel
theorem dX2_lieDown_52 : decode cX2_lieDown 52 = .ok (.invokevirtual 98, 3) := by decide +kernel
theorem dX2_lieDown_55 : decode cX2_lieDown 55 = .ok (.aload_n 0, 1) := by decide +kernel
theorem dX2_lieDown_56 : decode cX2_lieDown 56 = .ok (.getfield 48, 3) := by decide +kernel
theorem dX2_lieDown_59 : decode cX2_lieDown 59 = .ok (.iload_n 2, 1) := by decide +kernel
theorem dX2_lieDown_60 : decode cX2_lieDown 60 = .ok (.invokevirtual 102, 3) := by decide +kernel
theorem dX2_lieDown_63 : decode cX2_lieDown 63 = .ok (.iload_n 2, 1) := by decide +kernel
theorem dX2_lieDown_64 : decode cX2_lieDown 64 = .ok (.iload_n 1, 1) := by decide +kernel
theorem dX2_lieDown_65 : decode cX2_lieDown 65 = .ok (.aload_n 0, 1) := by decide +kernel
theorem dX2_lieDown_66 : decode cX2_lieDown 66 = .ok (.getfield 52, 3) := by decide +kernel
theorem dX2_lieDown_69 : decode cX2_lieDown 69 = .ok (.getfield 107, 3) := by decide +kernel
theorem dX2_lieDown_72 : decode cX2_lieDown 72 = .ok (.iload_n 2, 1) := by decide +kernel
theorem dX2_lieDown_73 : decode cX2_lieDown 73 = .ok (.invokevirtual 94, 3) := by decide +kernel
theorem dX2_lieDown_76 : decode cX2_lieDown 76 = .ok (.aload_n 0, 1) := by decide +kernel
theorem dX2_lieDown_77 : decode cX2_lieDown 77 = .ok (.getfield 52, 3) := by decide +kernel
theorem dX2_lieDown_80 : decode cX2_lieDown 80 = .ok (.getfield 110, 3) := by decide +kernel
theorem dX2_lieDown_83 : decode cX2_lieDown 83 = .ok (.invokevirtual 113, 3) := by decide +kernel
theorem dX2_lieDown_86 : decode cX2_lieDown 86 = .ok (.iinc 1 1, 3) := by decide +kernel
theorem dX2_lieDown_89 : decode cX2_lieDown 89 = .ok (.goto (-62), 3) := by decide +kernel
theorem dX2_lieDown_92 : decode cX2_lieDown 92 = .ok (.return_, 1) := by decide +kernel
theorem dX2_lierIn_0 : decode cX2_lierIn 0 = .ok (.iload_n 1, 1) := by decide +kernel
theorem dX2_lierIn_1 : decode cX2_lierIn 1 = .ok (.ifCond .lt 32, 3) := by decide +kernel
theorem dX2_lierIn_4 : decode cX2_lierIn 4 = .ok (.iload_n 1, 1) := by decide +kernel
theorem dX2_lierIn_5 : decode cX2_lierIn 5 = .ok (.aload_n 0, 1) := by decide +kernel
theorem dX2_lierIn_6 : decode cX2_lierIn 6 = .ok (.getfield 52, 3) := by decide +kernel
theorem dX2_lierIn_9 : decode cX2_lierIn 9 = .ok (.getfield 86, 3) := by decide +kernel
theorem dX2_lierIn_12 : decode cX2_lierIn 12 = .ok (.if_icmp .ge 21, 3) := by decide +kernel
theorem dX2_lierIn_15 : decode cX2_lierIn 15 = .ok (.iload_n 1, 1) := by decide +kernel
theorem dX2_lierIn_16 : decode cX2_lierIn 16 = .ok (.aload_n 0, 1) := by decide +kernel
theorem dX2_lierIn_17 : decode cX2_lierIn 17 = .ok (.getfield 11, 3) := by decide +kernel
theorem dX2_lierIn_20 : decode cX2_lierIn 20 = .ok (.arraylength, 1) := by decide +kernel
theorem dX2_lierIn_21 : decode cX2_lierIn 21 = .ok (.if_icmp .ge 12, 3) := by decide +kernel
theorem dX2_lierIn_24 : decode cX2_lierIn 24 = .ok (.aload_n 0, 1) := by decide +kernel
theorem dX2_lierIn_25 : decode cX2_lierIn 25 = .ok (.getfield 11, 3) := by decide +kernel
theorem dX2_lierIn_28 : decode cX2_lierIn 28 = .ok (.iload_n 1, 1) := by decide +kernel
theorem dX2_lierIn_29 : decode cX2_lierIn 29 = .ok (.aaload, 1) := by decide +kernel
theorem dX2_lierIn_30 : decode cX2_lierIn 30 = .ok (.ifnonnull 8, 3) := by decide +kernel
theorem dX2_lierIn_33 : decode cX2_lierIn 33 = .ok (.aload_n 0, 1) := by decide +kernel
theorem dX2_lierIn_34 : decode cX2_lierIn 34 = .ok (.getfield 62, 3) := by decide +kernel
theorem dX2_lierIn_37 : decode cX2_lierIn 37 = .ok (.areturn, 1) := by decide +kernel
theorem dX2_lierIn_38 : decode cX2_lierIn 38 = .ok (.aload_n 0, 1) := by decide +kernel
theorem dX2_lierIn_39 : decode cX2_lierIn 39 = .ok (.getfield 11, 3) := by decide +kernel
theorem dX2_lierIn_42 : decode cX2_lierIn 42 = .ok (.iload_n 1, 1) := by decide +kernel
theorem dX2_lierIn_43 : decode cX2_lierIn 43 = .ok (.aaload, 1) := by decide +kernel
theorem dX2_lierIn_44 : decode cX2_lierIn 44 = .ok (.areturn, 1) := by decide +kernel
theorem dX2_lierOf_0 : decode cX2_lierOf 0 = .ok (.aload_n 0, 1) := by decide +kernel
theorem dX2_lierOf_1 : decode cX2_lierOf 1 = .ok (.aload_n 0, 1) := by decide +kernel
theorem dX2_lierOf_2 : decode cX2_lierOf 2 = .ok (.getfield 52, 3) := by decide +kernel
theorem dX2_lierOf_5 : decode cX2_lierOf 5 = .ok (.iload_n 1, 1) := by decide +kernel
theorem dX2_lierOf_6 : decode cX2_lierOf 6 = .ok (.invokevirtual 116, 3) := by decide +kernel
theorem dX2_lierOf_9 : decode cX2_lierOf 9 = .ok (.invokevirtual 98, 3) := by decide +kernel
theorem dX2_lierOf_12 : decode cX2_lierOf 12 = .ok (.areturn, 1) := by decide +kernel
theorem dX2_nextEvent_0 : decode cX2_nextEvent 0 = .ok (.sipush 601, 3) := by decide +kernel
theorem dX2_nextEvent_3 : decode cX2_nextEvent 3 = .ok (.istore_n 1, 1) := by decide +kernel
theorem dX2_nextEvent_4 : decode cX2_nextEvent 4 = .ok (.aload_n 0, 1) := by decide +kernel
theorem dX2_nextEvent_5 : decode cX2_nextEvent 5 = .ok (.getfield 52, 3) := by decide +kernel
theorem dX2_nextEvent_8 : decode cX2_nextEvent 8 = .ok (.getfield 119, 3) := by decide +kernel
theorem dX2_nextEvent_11 : decode cX2_nextEvent 11 = .ok (.ifCond .le 33, 3) := by decide +kernel
theorem dX2_nextEvent_14 : decode cX2_nextEvent 14 = .ok (.iload_n 1, 1) := by decide +kernel
theorem dX2_nextEvent_15 : decode cX2_nextEvent 15 = .ok (.aload_n 0, 1) := by decide +kernel
theorem dX2_nextEvent_16 : decode cX2_nextEvent 16 = .ok (.getfield 33, 3) := by decide +kernel
theorem dX2_nextEvent_19 : decode cX2_nextEvent 19 = .ok (.aload_n 0, 1) := by decide +kernel
theorem dX2_nextEvent_20 : decode cX2_nextEvent 20 = .ok (.getfield 33, 3) := by decide +kernel
theorem dX2_nextEvent_23 : decode cX2_nextEvent 23 = .ok (.aload_n 0, 1) := by decide +kernel
theorem dX2_nextEvent_24 : decode cX2_nextEvent 24 = .ok (.getfield 52, 3) := by decide +kernel
theorem dX2_nextEvent_27 : decode cX2_nextEvent 27 = .ok (.getfield 119, 3) := by decide +kernel
theorem dX2_nextEvent_30 : decode cX2_nextEvent 30 = .ok (.irem, 1) := by decide +kernel
theorem dX2_nextEvent_31 : decode cX2_nextEvent 31 = .ok (.isub, 1) := by decide +kernel
theorem dX2_nextEvent_32 : decode cX2_nextEvent 32 = .ok (.aload_n 0, 1) := by decide +kernel
theorem dX2_nextEvent_33 : decode cX2_nextEvent 33 = .ok (.getfield 52, 3) := by decide +kernel
theorem dX2_nextEvent_36 : decode cX2_nextEvent 36 = .ok (.getfield 119, 3) := by decide +kernel
theorem dX2_nextEvent_39 : decode cX2_nextEvent 39 = .ok (.iadd, 1) := by decide +kernel
theorem dX2_nextEvent_40 : decode cX2_nextEvent 40 = .ok (.invokestatic 122, 3) := by decide +kernel
theorem dX2_nextEvent_43 : decode cX2_nextEvent 43 = .ok (.istore_n 1, 1) := by decide +kernel
theorem dX2_nextEvent_44 : decode cX2_nextEvent 44 = .ok (.iconst 0, 1) := by decide +kernel
theorem dX2_nextEvent_45 : decode cX2_nextEvent 45 = .ok (.istore_n 2, 1) := by decide +kernel
theorem dX2_nextEvent_46 : decode cX2_nextEvent 46 = .ok (.iload_n 2, 1) := by decide +kernel
theorem dX2_nextEvent_47 : decode cX2_nextEvent 47 = .ok (.aload_n 0, 1) := by decide +kernel
theorem dX2_nextEvent_48 : decode cX2_nextEvent 48 = .ok (.getfield 52, 3) := by decide +kernel
theorem dX2_nextEvent_51 : decode cX2_nextEvent 51 = .ok (.getfield 86, 3) := by decide +kernel
theorem dX2_nextEvent_54 : decode cX2_nextEvent 54 = .ok (.if_icmp .ge 55, 3) := by decide +kernel
theorem dX2_nextEvent_57 : decode cX2_nextEvent 57 = .ok (.aload_n 0, 1) := by decide +kernel
theorem dX2_nextEvent_58 : decode cX2_nextEvent 58 = .ok (.iload_n 2, 1) := by decide +kernel
theorem dX2_nextEvent_59 : decode cX2_nextEvent 59 = .ok (.invokevirtual 98, 3) := by decide +kernel
theorem dX2_nextEvent_62 : decode cX2_nextEvent 62 = .ok (.astore_n 3, 1) := by decide +kernel
theorem dX2_nextEvent_63 : decode cX2_nextEvent 63 = .ok (.aload_n 3, 1) := by decide +kernel
theorem dX2_nextEvent_64 : decode cX2_nextEvent 64 = .ok (.getfield 66, 3) := by decide +kernel
theorem dX2_nextEvent_67 : decode cX2_nextEvent 67 = .ok (.getfield 125, 3) := by decide +kernel
theorem dX2_nextEvent_70 : decode cX2_nextEvent 70 = .ok (.iconst 3, 1) := by decide +kernel
theorem dX2_nextEvent_71 : decode cX2_nextEvent 71 = .ok (.if_icmp .eq 12, 3) := by decide +kernel
theorem dX2_nextEvent_74 : decode cX2_nextEvent 74 = .ok (.iload_n 1, 1) := by decide +kernel
theorem dX2_nextEvent_75 : decode cX2_nextEvent 75 = .ok (.aload_n 3, 1) := by decide +kernel
theorem dX2_nextEvent_76 : decode cX2_nextEvent 76 = .ok (.invokevirtual 128, 3) := by decide +kernel
theorem dX2_nextEvent_79 : decode cX2_nextEvent 79 = .ok (.invokestatic 122, 3) := by decide +kernel
theorem dX2_nextEvent_82 : decode cX2_nextEvent 82 = .ok (.istore_n 1, 1) := by decide +kernel
theorem dX2_nextEvent_83 : decode cX2_nextEvent 83 = .ok (.aload_n 3, 1) := by decide +kernel
theorem dX2_nextEvent_84 : decode cX2_nextEvent 84 = .ok (.getfield 131, 3) := by decide +kernel
theorem dX2_nextEvent_87 : decode cX2_nextEvent 87 = .ok (.aload_n 0, 1) := by decide +kernel
theorem dX2_nextEvent_88 : decode cX2_nextEvent 88 = .ok (.getfield 33, 3) := by decide +kernel
theorem dX2_nextEvent_91 : decode cX2_nextEvent 91 = .ok (.if_icmp .le 12, 3) := by decide +kernel
theorem dX2_nextEvent_94 : decode cX2_nextEvent 94 = .ok (.iload_n 1, 1) := by decide +kernel
theorem dX2_nextEvent_95 : decode cX2_nextEvent 95 = .ok (.aload_n 3, 1) := by decide +kernel
theorem dX2_nextEvent_96 : decode cX2_nextEvent 96 = .ok (.getfield 131, 3) := by decide +kernel
theorem dX2_nextEvent_99 : decode cX2_nextEvent 99 = .ok (.invokestatic 122, 3) := by decide +kernel
theorem dX2_nextEvent_102 : decode cX2_nextEvent 102 = .ok (.istore_n 1, 1) := by decide +kernel
theorem dX2_nextEvent_103 : decode cX2_nextEvent 103 = .ok (.iinc 2 1, 3) := by decide +kernel
theorem dX2_nextEvent_106 : decode cX2_nextEvent 106 = .ok (.goto (-60), 3) := by decide +kernel
theorem dX2_nextEvent_109 : decode cX2_nextEvent 109 = .ok (.iload_n 1, 1) := by decide +kernel
theorem dX2_nextEvent_110 : decode cX2_nextEvent 110 = .ok (.ireturn, 1) := by decide +kernel
theorem dX2_passMinute_0 : decode cX2_passMinute 0 = .ok (.aload_n 0, 1) := by decide +kernel
theorem dX2_passMinute_1 : decode cX2_passMinute 1 = .ok (.getfield 52, 3) := by decide +kernel
theorem dX2_passMinute_4 : decode cX2_passMinute 4 = .ok (.getfield 119, 3) := by decide +kernel
theorem dX2_passMinute_7 : decode cX2_passMinute 7 = .ok (.ifCond .le 42, 3) := by decide +kernel
theorem dX2_passMinute_10 : decode cX2_passMinute 10 = .ok (.aload_n 0, 1) := by decide +kernel
theorem dX2_passMinute_11 : decode cX2_passMinute 11 = .ok (.getfield 33, 3) := by decide +kernel
theorem dX2_passMinute_14 : decode cX2_passMinute 14 = .ok (.aload_n 0, 1) := by decide +kernel
theorem dX2_passMinute_15 : decode cX2_passMinute 15 = .ok (.getfield 52, 3) := by decide +kernel
theorem dX2_passMinute_18 : decode cX2_passMinute 18 = .ok (.getfield 119, 3) := by decide +kernel
theorem dX2_passMinute_21 : decode cX2_passMinute 21 = .ok (.irem, 1) := by decide +kernel
theorem dX2_passMinute_22 : decode cX2_passMinute 22 = .ok (.ifCond .ne 27, 3) := by decide +kernel
theorem dX2_passMinute_25 : decode cX2_passMinute 25 = .ok (.aload_n 0, 1) := by decide +kernel
theorem dX2_passMinute_26 : decode cX2_passMinute 26 = .ok (.iconst 0, 1) := by decide +kernel
theorem dX2_passMinute_27 : decode cX2_passMinute 27 = .ok (.aload_n 0, 1) := by decide +kernel
theorem dX2_passMinute_28 : decode cX2_passMinute 28 = .ok (.getfield 52, 3) := by decide +kernel
theorem dX2_passMinute_31 : decode cX2_passMinute 31 = .ok (.getfield 86, 3) := by decide +kernel
theorem dX2_passMinute_34 : decode cX2_passMinute 34 = .ok (.aload_n 0, 1) := by decide +kernel
theorem dX2_passMinute_35 : decode cX2_passMinute 35 = .ok (.aload_n 0, 1) := by decide +kernel
theorem dX2_passMinute_36 : decode cX2_passMinute 36 = .ok (.getfield 52, 3) := by decide +kernel
theorem dX2_passMinute_39 : decode cX2_passMinute 39 = .ok (.getfield 134, 3) := by decide +kernel
theorem dX2_passMinute_42 : decode cX2_passMinute 42 = .ok (.invokevirtual 137, 3) := by decide +kernel
theorem dX2_passMinute_45 : decode cX2_passMinute 45 = .ok (.iconst 1, 1) := by decide +kernel
theorem dX2_passMinute_46 : decode cX2_passMinute 46 = .ok (.invokevirtual 140, 3) := by decide +kernel
theorem dX2_passMinute_49 : decode cX2_passMinute 49 = .ok (.iconst 0, 1) := by decide +kernel
theorem dX2_passMinute_50 : decode cX2_passMinute 50 = .ok (.istore_n 1, 1) := by decide +kernel
theorem dX2_passMinute_51 : decode cX2_passMinute 51 = .ok (.iconst 1, 1) := by decide +kernel
theorem dX2_passMinute_52 : decode cX2_passMinute 52 = .ok (.istore_n 2, 1) := by decide +kernel
theorem dX2_passMinute_53 : decode cX2_passMinute 53 = .ok (.iload_n 2, 1) := by decide +kernel
theorem dX2_passMinute_54 : decode cX2_passMinute 54 = .ok (.aload_n 0, 1) := by decide +kernel
theorem dX2_passMinute_55 : decode cX2_passMinute 55 = .ok (.getfield 52, 3) := by decide +kernel
theorem dX2_passMinute_58 : decode cX2_passMinute 58 = .ok (.getfield 86, 3) := by decide +kernel
theorem dX2_passMinute_61 : decode cX2_passMinute 61 = .ok (.if_icmp .gt 66, 3) := by decide +kernel
theorem dX2_passMinute_64 : decode cX2_passMinute 64 = .ok (.iload_n 2, 1) := by decide +kernel
theorem dX2_passMinute_65 : decode cX2_passMinute 65 = .ok (.aload_n 0, 1) := by decide +kernel
theorem dX2_passMinute_66 : decode cX2_passMinute 66 = .ok (.getfield 52, 3) := by decide +kernel
theorem dX2_passMinute_69 : decode cX2_passMinute 69 = .ok (.getfield 86, 3) := by decide +kernel
theorem dX2_passMinute_72 : decode cX2_passMinute 72 = .ok (.if_icmp .eq 24, 3) := by decide +kernel
theorem dX2_passMinute_75 : decode cX2_passMinute 75 = .ok (.aload_n 0, 1) := by decide +kernel
theorem dX2_passMinute_76 : decode cX2_passMinute 76 = .ok (.getfield 52, 3) := by decide +kernel
theorem dX2_passMinute_79 : decode cX2_passMinute 79 = .ok (.getfield 144, 3) := by decide +kernel
theorem dX2_passMinute_82 : decode cX2_passMinute 82 = .ok (.ifCond .ne 14, 3) := by decide +kernel
theorem dX2_passMinute_85 : decode cX2_passMinute 85 = .ok (.aload_n 0, 1) := by decide +kernel
theorem dX2_passMinute_86 : decode cX2_passMinute 86 = .ok (.getfield 52, 3) := by decide +kernel
theorem dX2_passMinute_89 : decode cX2_passMinute 89 = .ok (.iload_n 2, 1) := by decide +kernel
theorem dX2_passMinute_90 : decode cX2_passMinute 90 = .ok (.invokevirtual 148, 3) := by decide +kernel
theorem dX2_passMinute_93 : decode cX2_passMinute 93 = .ok (.ifCond .eq 28, 3) := by decide +kernel
theorem dX2_passMinute_96 : decode cX2_passMinute 96 = .ok (.aload_n 0, 1) := by decide +kernel
theorem dX2_passMinute_97 : decode cX2_passMinute 97 = .ok (.iload_n 1, 1) := by decide +kernel
theorem dX2_passMinute_98 : decode cX2_passMinute 98 = .ok (.iload_n 2, 1) := by decide +kernel
theorem dX2_passMinute_99 : decode cX2_passMinute 99 = .ok (.invokevirtual 152, 3) := by decide +kernel
theorem dX2_passMinute_102 : decode cX2_passMinute 102 = .ok (.astore_n 3, 1) := by decide +kernel
theorem dX2_passMinute_103 : decode cX2_passMinute 103 = .ok (.aload_n 3, 1) := by decide +kernel
theorem dX2_passMinute_104 : decode cX2_passMinute 104 = .ok (.aload_n 0, 1) := by decide +kernel
theorem dX2_passMinute_105 : decode cX2_passMinute 105 = .ok (.getfield 62, 3) := by decide +kernel
theorem dX2_passMinute_108 : decode cX2_passMinute 108 = .ok (.if_acmp .eq 11, 3) := by decide +kernel
theorem dX2_passMinute_111 : decode cX2_passMinute 111 = .ok (.aload_n 0, 1) := by decide +kernel
theorem dX2_passMinute_112 : decode cX2_passMinute 112 = .ok (.iload_n 1, 1) := by decide +kernel
theorem dX2_passMinute_113 : decode cX2_passMinute 113 = .ok (.iload_n 2, 1) := by decide +kernel
theorem dX2_passMinute_114 : decode cX2_passMinute 114 = .ok (.aload_n 3, 1) := by decide +kernel
theorem dX2_passMinute_115 : decode cX2_passMinute 115 = .ok (.iconst 0, 1) := by decide +kernel
theorem dX2_passMinute_116 : decode cX2_passMinute 116 = .ok (.invokevirtual 140, 3) := by decide +kernel
theorem dX2_passMinute_119 : decode cX2_passMinute 119 = .ok (.iload_n 2, 1) := by decide +kernel
theorem dX2_passMinute_120 : decode cX2_passMinute 120 = .ok (.istore_n 1, 1) := by decide +kernel
theorem dX2_passMinute_121 : decode cX2_passMinute 121 = .ok (.iinc 2 1, 3) := by decide +kernel
theorem dX2_passMinute_124 : decode cX2_passMinute 124 = .ok (.goto (-71), 3) := by decide +kernel
theorem dX2_passMinute_127 : decode cX2_passMinute 127 = .ok (.iconst 0, 1) := by decide +kernel
theorem dX2_passMinute_128 : decode cX2_passMinute 128 = .ok (.istore_n 2, 1) := by decide +kernel
theorem dX2_passMinute_129 : decode cX2_passMinute 129 = .ok (.iload_n 2, 1) := by decide +kernel
theorem dX2_passMinute_130 : decode cX2_passMinute 130 = .ok (.aload_n 0, 1) := by decide +kernel
theorem dX2_passMinute_131 : decode cX2_passMinute 131 = .ok (.getfield 52, 3) := by decide +kernel
theorem dX2_passMinute_134 : decode cX2_passMinute 134 = .ok (.getfield 86, 3) := by decide +kernel
theorem dX2_passMinute_137 : decode cX2_passMinute 137 = .ok (.if_icmp .ge 29, 3) := by decide +kernel
theorem dX2_passMinute_140 : decode cX2_passMinute 140 = .ok (.aload_n 0, 1) := by decide +kernel
theorem dX2_passMinute_141 : decode cX2_passMinute 141 = .ok (.iload_n 2, 1) := by decide +kernel
theorem dX2_passMinute_142 : decode cX2_passMinute 142 = .ok (.invokevirtual 98, 3) := by decide +kernel
theorem dX2_passMinute_145 : decode cX2_passMinute 145 = .ok (.getfield 131, 3) := by decide +kernel
theorem dX2_passMinute_148 : decode cX2_passMinute 148 = .ok (.aload_n 0, 1) := by decide +kernel
theorem dX2_passMinute_149 : decode cX2_passMinute 149 = .ok (.getfield 33, 3) := by decide +kernel
theorem dX2_passMinute_152 : decode cX2_passMinute 152 = .ok (.if_icmp .ne 8, 3) := by decide +kernel
theorem dX2_passMinute_155 : decode cX2_passMinute 155 = .ok (.aload_n 0, 1) := by decide +kernel
theorem dX2_passMinute_156 : decode cX2_passMinute 156 = .ok (.iload_n 2, 1) := by decide +kernel
theorem dX2_passMinute_157 : decode cX2_passMinute 157 = .ok (.invokevirtual 156, 3) := by decide +kernel
theorem dX2_passMinute_160 : decode cX2_passMinute 160 = .ok (.iinc 2 1, 3) := by decide +kernel
theorem dX2_passMinute_163 : decode cX2_passMinute 163 = .ok (.goto (-34), 3) := by decide +kernel
theorem dX2_passMinute_166 : decode cX2_passMinute 166 = .ok (.return_, 1) := by decide +kernel
theorem dX2_firstTired_0 : decode cX2_firstTired 0 = .ok (.iload_n 1, 1) := by decide +kernel
theorem dX2_firstTired_1 : decode cX2_firstTired 1 = .ok (.istore_n 3, 1) := by decide +kernel
theorem dX2_firstTired_2 : decode cX2_firstTired 2 = .ok (.iload_n 3, 1) := by decide +kernel
theorem dX2_firstTired_3 : decode cX2_firstTired 3 = .ok (.iload_n 2, 1) := by decide +kernel
theorem dX2_firstTired_4 : decode cX2_firstTired 4 = .ok (.if_icmp .ge 31, 3) := by decide +kernel
theorem dX2_firstTired_7 : decode cX2_firstTired 7 = .ok (.aload_n 0, 1) := by decide +kernel
theorem dX2_firstTired_8 : decode cX2_firstTired 8 = .ok (.iload_n 3, 1) := by decide +kernel
theorem dX2_firstTired_9 : decode cX2_firstTired 9 = .ok (.invokevirtual 98, 3) := by decide +kernel
theorem dX2_firstTired_12 : decode cX2_firstTired 12 = .ok (.astore 4, 2) := by decide +kernel
theorem dX2_firstTired_14 : decode cX2_firstTired 14 = .ok (.aload 4, 2) := by decide +kernel
theorem dX2_firstTired_16 : decode cX2_firstTired 16 = .ok (.aload_n 0, 1) := by decide +kernel
theorem dX2_firstTired_17 : decode cX2_firstTired 17 = .ok (.getfield 33, 3) := by decide +kernel
theorem dX2_firstTired_20 : decode cX2_firstTired 20 = .ok (.invokevirtual 159, 3) := by decide +kernel
theorem dX2_firstTired_23 : decode cX2_firstTired 23 = .ok (.ifCond .eq 6, 3) := by decide +kernel
theorem dX2_firstTired_26 : decode cX2_firstTired 26 = .ok (.aload 4, 2) := by decide +kernel
theorem dX2_firstTired_28 : decode cX2_firstTired 28 = .ok (.areturn, 1) := by decide +kernel
theorem dX2_firstTired_29 : decode cX2_firstTired 29 = .ok (.iinc 3 1, 3) := by decide +kernel
theorem dX2_firstTired_32 : decode cX2_firstTired 32 = .ok (.goto (-30), 3) := by decide +kernel
theorem dX2_firstTired_35 : decode cX2_firstTired 35 = .ok (.aload_n 0, 1) := by decide +kernel
theorem dX2_firstTired_36 : decode cX2_firstTired 36 = .ok (.getfield 62, 3) := by decide +kernel
theorem dX2_firstTired_39 : decode cX2_firstTired 39 = .ok (.areturn, 1) := by decide +kernel
theorem dX2_turnAll_0 : decode cX2_turnAll 0 = .ok (.iload_n 1, 1) := by decide +kernel
theorem dX2_turnAll_1 : decode cX2_turnAll 1 = .ok (.istore 5, 2) := by decide +kernel
theorem dX2_turnAll_3 : decode cX2_turnAll 3 = .ok (.iload 5, 2) := by decide +kernel
theorem dX2_turnAll_5 : decode cX2_turnAll 5 = .ok (.iload_n 2, 1) := by decide +kernel
theorem dX2_turnAll_6 : decode cX2_turnAll 6 = .ok (.if_icmp .ge 22, 3) := by decide +kernel
theorem dX2_turnAll_9 : decode cX2_turnAll 9 = .ok (.aload_n 0, 1) := by decide +kernel
theorem dX2_turnAll_10 : decode cX2_turnAll 10 = .ok (.iload 5, 2) := by decide +kernel
theorem dX2_turnAll_12 : decode cX2_turnAll 12 = .ok (.invokevirtual 98, 3) := by decide +kernel
theorem dX2_turnAll_15 : decode cX2_turnAll 15 = .ok (.aload_n 0, 1) := by decide +kernel
theorem dX2_turnAll_16 : decode cX2_turnAll 16 = .ok (.getfield 33, 3) := by decide +kernel
theorem dX2_turnAll_19 : decode cX2_turnAll 19 = .ok (.invokevirtual 162, 3) := by decide +kernel
theorem dX2_turnAll_22 : decode cX2_turnAll 22 = .ok (.iinc 5 1, 3) := by decide +kernel
theorem dX2_turnAll_25 : decode cX2_turnAll 25 = .ok (.goto (-22), 3) := by decide +kernel
theorem dX2_turnAll_28 : decode cX2_turnAll 28 = .ok (.aload_n 0, 1) := by decide +kernel
theorem dX2_turnAll_29 : decode cX2_turnAll 29 = .ok (.getfield 39, 3) := by decide +kernel
theorem dX2_turnAll_32 : decode cX2_turnAll 32 = .ok (.istore 5, 2) := by decide +kernel
theorem dX2_turnAll_34 : decode cX2_turnAll 34 = .ok (.iload_n 1, 1) := by decide +kernel
theorem dX2_turnAll_35 : decode cX2_turnAll 35 = .ok (.istore 6, 2) := by decide +kernel
theorem dX2_turnAll_37 : decode cX2_turnAll 37 = .ok (.iload 6, 2) := by decide +kernel
theorem dX2_turnAll_39 : decode cX2_turnAll 39 = .ok (.iload_n 2, 1) := by decide +kernel
theorem dX2_turnAll_40 : decode cX2_turnAll 40 = .ok (.if_icmp .ge 48, 3) := by decide +kernel
theorem dX2_turnAll_43 : decode cX2_turnAll 43 = .ok (.aload_n 0, 1) := by decide +kernel
theorem dX2_turnAll_44 : decode cX2_turnAll 44 = .ok (.iload 6, 2) := by decide +kernel
theorem dX2_turnAll_46 : decode cX2_turnAll 46 = .ok (.invokevirtual 98, 3) := by decide +kernel
theorem dX2_turnAll_49 : decode cX2_turnAll 49 = .ok (.astore 7, 2) := by decide +kernel
theorem dX2_turnAll_51 : decode cX2_turnAll 51 = .ok (.aload 7, 2) := by decide +kernel
theorem dX2_turnAll_53 : decode cX2_turnAll 53 = .ok (.aload_n 3, 1) := by decide +kernel
theorem dX2_turnAll_54 : decode cX2_turnAll 54 = .ok (.if_acmp .eq 28, 3) := by decide +kernel
theorem dX2_turnAll_57 : decode cX2_turnAll 57 = .ok (.aload_n 0, 1) := by decide +kernel
theorem dX2_turnAll_58 : decode cX2_turnAll 58 = .ok (.aload 7, 2) := by decide +kernel
theorem dX2_turnAll_60 : decode cX2_turnAll 60 = .ok (.invokevirtual 165, 3) := by decide +kernel
theorem dX2_turnAll_63 : decode cX2_turnAll 63 = .ok (.ifCond .eq 19, 3) := by decide +kernel
theorem dX2_turnAll_66 : decode cX2_turnAll 66 = .ok (.aload_n 0, 1) := by decide +kernel
theorem dX2_turnAll_67 : decode cX2_turnAll 67 = .ok (.aload 7, 2) := by decide +kernel
theorem dX2_turnAll_69 : decode cX2_turnAll 69 = .ok (.aload_n 3, 1) := by decide +kernel
theorem dX2_turnAll_70 : decode cX2_turnAll 70 = .ok (.invokevirtual 169, 3) := by decide +kernel
theorem dX2_turnAll_73 : decode cX2_turnAll 73 = .ok (.ifCond .eq 9, 3) := by decide +kernel
theorem dX2_turnAll_76 : decode cX2_turnAll 76 = .ok (.aload_n 0, 1) := by decide +kernel
theorem dX2_turnAll_77 : decode cX2_turnAll 77 = .ok (.aload 7, 2) := by decide +kernel
theorem dX2_turnAll_79 : decode cX2_turnAll 79 = .ok (.invokevirtual 173, 3) := by decide +kernel
theorem dX2_turnAll_82 : decode cX2_turnAll 82 = .ok (.iinc 6 1, 3) := by decide +kernel
theorem dX2_turnAll_85 : decode cX2_turnAll 85 = .ok (.goto (-48), 3) := by decide +kernel
theorem dX2_turnAll_88 : decode cX2_turnAll 88 = .ok (.aload_n 3, 1) := by decide +kernel
theorem dX2_turnAll_89 : decode cX2_turnAll 89 = .ok (.dup, 1) := by decide +kernel
theorem dX2_turnAll_90 : decode cX2_turnAll 90 = .ok (.getfield 177, 3) := by decide +kernel
theorem dX2_turnAll_93 : decode cX2_turnAll 93 = .ok (.iconst 1, 1) := by decide +kernel
theorem dX2_turnAll_94 : decode cX2_turnAll 94 = .ok (.iadd, 1) := by decide +kernel
theorem dX2_turnAll_95 : decode cX2_turnAll 95 = .ok (.putfield 177, 3) := by decide +kernel
theorem dX2_turnAll_98 : decode cX2_turnAll 98 = .ok (.aload_n 0, 1) := by decide +kernel
theorem dX2_turnAll_99 : decode cX2_turnAll 99 = .ok (.getfield 36, 3) := by decide +kernel
theorem dX2_turnAll_102 : decode cX2_turnAll 102 = .ok (.aload_n 0, 1) := by decide +kernel
theorem dX2_turnAll_103 : decode cX2_turnAll 103 = .ok (.getfield 29, 3) := by decide +kernel
theorem dX2_turnAll_106 : decode cX2_turnAll 106 = .ok (.if_icmp .ne 20, 3) := by decide +kernel
theorem dX2_turnAll_109 : decode cX2_turnAll 109 = .ok (.aload_n 0, 1) := by decide +kernel
theorem dX2_turnAll_110 : decode cX2_turnAll 110 = .ok (.aload_n 3, 1) := by decide +kernel
theorem dX2_turnAll_111 : decode cX2_turnAll 111 = .ok (.getfield 180, 3) := by decide +kernel
theorem dX2_turnAll_114 : decode cX2_turnAll 114 = .ok (.aload_n 0, 1) := by decide +kernel
theorem dX2_turnAll_115 : decode cX2_turnAll 115 = .ok (.getfield 39, 3) := by decide +kernel
theorem dX2_turnAll_118 : decode cX2_turnAll 118 = .ok (.iload 5, 2) := by decide +kernel
theorem dX2_turnAll_120 : decode cX2_turnAll 120 = .ok (.isub, 1) := by decide +kernel
theorem dX2_turnAll_121 : decode cX2_turnAll 121 = .ok (.iload 4, 2) := by decide +kernel
theorem dX2_turnAll_123 : decode cX2_turnAll 123 = .ok (.invokevirtual 183, 3) := by decide +kernel
theorem dX2_turnAll_126 : decode cX2_turnAll 126 = .ok (.aload_n 0, 1) := by decide +kernel
theorem dX2_turnAll_127 : decode cX2_turnAll 127 = .ok (.dup, 1) := by decide +kernel
theorem dX2_turnAll_128 : decode cX2_turnAll 128 = .ok (.getfield 36, 3) := by decide +kernel
theorem dX2_turnAll_131 : decode cX2_turnAll 131 = .ok (.iconst 1, 1) := by decide +kernel
theorem dX2_turnAll_132 : decode cX2_turnAll 132 = .ok (.iadd, 1) := by decide +kernel
theorem dX2_turnAll_133 : decode cX2_turnAll 133 = .ok (.putfield 36, 3) := by decide +kernel
theorem dX2_turnAll_136 : decode cX2_turnAll 136 = .ok (.aload_n 0, 1) := by decide +kernel
theorem dX2_turnAll_137 : decode cX2_turnAll 137 = .ok (.aload_n 0, 1) := by decide +kernel
theorem dX2_turnAll_138 : decode cX2_turnAll 138 = .ok (.getfield 42, 3) := by decide +kernel
theorem dX2_turnAll_141 : decode cX2_turnAll 141 = .ok (.aload_n 0, 1) := by decide +kernel
theorem dX2_turnAll_142 : decode cX2_turnAll 142 = .ok (.getfield 33, 3) := by decide +kernel
theorem dX2_turnAll_145 : decode cX2_turnAll 145 = .ok (.aload_n 0, 1) := by decide +kernel
theorem dX2_turnAll_146 : decode cX2_turnAll 146 = .ok (.getfield 45, 3) := by decide +kernel
theorem dX2_turnAll_149 : decode cX2_turnAll 149 = .ok (.isub, 1) := by decide +kernel
theorem dX2_turnAll_150 : decode cX2_turnAll 150 = .ok (.iconst 1, 1) := by decide +kernel
theorem dX2_turnAll_151 : decode cX2_turnAll 151 = .ok (.isub, 1) := by decide +kernel
theorem dX2_turnAll_152 : decode cX2_turnAll 152 = .ok (.invokestatic 80, 3) := by decide +kernel
theorem dX2_turnAll_155 : decode cX2_turnAll 155 = .ok (.putfield 42, 3) := by decide +kernel
theorem dX2_turnAll_158 : decode cX2_turnAll 158 = .ok (.aload_n 0, 1) := by decide +kernel
theorem dX2_turnAll_159 : decode cX2_turnAll 159 = .ok (.aload_n 0, 1) := by decide +kernel
theorem dX2_turnAll_160 : decode cX2_turnAll 160 = .ok (.getfield 33, 3) := by decide +kernel
theorem dX2_turnAll_163 : decode cX2_turnAll 163 = .ok (.putfield 45, 3) := by decide +kernel
theorem dX2_turnAll_166 : decode cX2_turnAll 166 = .ok (.return_, 1) := by decide +kernel
theorem dX2_noteTurn_0 : decode cX2_noteTurn 0 = .ok (.aload_n 0, 1) := by decide +kernel
theorem dX2_noteTurn_1 : decode cX2_noteTurn 1 = .ok (.getfield 26, 3) := by decide +kernel
theorem dX2_noteTurn_4 : decode cX2_noteTurn 4 = .ok (.iconst 0, 1) := by decide +kernel
theorem dX2_noteTurn_5 : decode cX2_noteTurn 5 = .ok (.aload_n 0, 1) := by decide +kernel
theorem dX2_noteTurn_6 : decode cX2_noteTurn 6 = .ok (.getfield 33, 3) := by decide +kernel
theorem dX2_noteTurn_9 : decode cX2_noteTurn 9 = .ok (.invokevirtual 187, 3) := by decide +kernel
theorem dX2_noteTurn_12 : decode cX2_noteTurn 12 = .ok (.aload_n 0, 1) := by decide +kernel
theorem dX2_noteTurn_13 : decode cX2_noteTurn 13 = .ok (.getfield 26, 3) := by decide +kernel
theorem dX2_noteTurn_16 : decode cX2_noteTurn 16 = .ok (.iconst 1, 1) := by decide +kernel
theorem dX2_noteTurn_17 : decode cX2_noteTurn 17 = .ok (.iload_n 1, 1) := by decide +kernel
theorem dX2_noteTurn_18 : decode cX2_noteTurn 18 = .ok (.invokevirtual 187, 3) := by decide +kernel
theorem dX2_noteTurn_21 : decode cX2_noteTurn 21 = .ok (.aload_n 0, 1) := by decide +kernel
theorem dX2_noteTurn_22 : decode cX2_noteTurn 22 = .ok (.getfield 26, 3) := by decide +kernel
theorem dX2_noteTurn_25 : decode cX2_noteTurn 25 = .ok (.iconst 2, 1) := by decide +kernel
theorem dX2_noteTurn_26 : decode cX2_noteTurn 26 = .ok (.iload_n 2, 1) := by decide +kernel
theorem dX2_noteTurn_27 : decode cX2_noteTurn 27 = .ok (.invokevirtual 187, 3) := by decide +kernel
theorem dX2_noteTurn_30 : decode cX2_noteTurn 30 = .ok (.aload_n 0, 1) := by decide +kernel
theorem dX2_noteTurn_31 : decode cX2_noteTurn 31 = .ok (.getfield 26, 3) := by decide +kernel
theorem dX2_noteTurn_34 : decode cX2_noteTurn 34 = .ok (.iconst 3, 1) := by decide +kernel
theorem dX2_noteTurn_35 : decode cX2_noteTurn 35 = .ok (.iload_n 3, 1) := by decide +kernel
theorem dX2_noteTurn_36 : decode cX2_noteTurn 36 = .ok (.ifCond .eq 7, 3) := by decide +kernel
theorem dX2_noteTurn_39 : decode cX2_noteTurn 39 = .ok (.iconst 1, 1) := by decide +kernel
theorem dX2_noteTurn_40 : decode cX2_noteTurn 40 = .ok (.goto 4, 3) := by decide +kernel
theorem dX2_noteTurn_43 : decode cX2_noteTurn 43 = .ok (.iconst 0, 1) := by decide +kernel
theorem dX2_noteTurn_44 : decode cX2_noteTurn 44 = .ok (.invokevirtual 187, 3) := by decide +kernel
theorem dX2_noteTurn_47 : decode cX2_noteTurn 47 = .ok (.return_, 1) := by decide +kernel
theorem dX2_canBeWoken_0 : decode cX2_canBeWoken 0 = .ok (.aload_n 1, 1) := by decide +kernel
theorem dX2_canBeWoken_1 : decode cX2_canBeWoken 1 = .ok (.getfield 66, 3) := by decide +kernel
theorem dX2_canBeWoken_4 : decode cX2_canBeWoken 4 = .ok (.invokevirtual 191, 3) := by decide +kernel
theorem dX2_canBeWoken_7 : decode cX2_canBeWoken 7 = .ok (.ifCond .eq 25, 3) := by decide +kernel
theorem dX2_canBeWoken_10 : decode cX2_canBeWoken 10 = .ok (.aload_n 1, 1) := by decide +kernel
theorem dX2_canBeWoken_11 : decode cX2_canBeWoken 11 = .ok (.aload_n 0, 1) := by decide +kernel
theorem dX2_canBeWoken_12 : decode cX2_canBeWoken 12 = .ok (.getfield 33, 3) := by decide +kernel
theorem dX2_canBeWoken_15 : decode cX2_canBeWoken 15 = .ok (.aload_n 0, 1) := by decide +kernel
theorem dX2_canBeWoken_16 : decode cX2_canBeWoken 16 = .ok (.getfield 48, 3) := by decide +kernel
theorem dX2_canBeWoken_19 : decode cX2_canBeWoken 19 = .ok (.getfield 195, 3) := by decide +kernel
theorem dX2_canBeWoken_22 : decode cX2_canBeWoken 22 = .ok (.invokevirtual 198, 3) := by decide +kernel
theorem dX2_canBeWoken_25 : decode cX2_canBeWoken 25 = .ok (.ifCond .ne 7, 3) := by decide +kernel
theorem dX2_canBeWoken_28 : decode cX2_canBeWoken 28 = .ok (.iconst 1, 1) := by decide +kernel
theorem dX2_canBeWoken_29 : decode cX2_canBeWoken 29 = .ok (.goto 4, 3) := by decide +kernel
theorem dX2_canBeWoken_32 : decode cX2_canBeWoken 32 = .ok (.iconst 0, 1) := by decide +kernel
theorem dX2_canBeWoken_33 : decode cX2_canBeWoken 33 = .ok (.ireturn, 1) := by decide +kernel
theorem dX2_wakes_0 : decode cX2_wakes 0 = .ok (.aload_n 1, 1) := by decide +kernel
theorem dX2_wakes_1 : decode cX2_wakes 1 = .ok (.getfield 202, 3) := by decide +kernel
theorem dX2_wakes_4 : decode cX2_wakes 4 = .ok (.aload_n 2, 1) := by decide +kernel
theorem dX2_wakes_5 : decode cX2_wakes 5 = .ok (.getfield 202, 3) := by decide +kernel
theorem dX2_wakes_8 : decode cX2_wakes 8 = .ok (.isub, 1) := by decide +kernel
theorem dX2_wakes_9 : decode cX2_wakes 9 = .ok (.invokestatic 205, 3) := by decide +kernel
theorem dX2_wakes_12 : decode cX2_wakes 12 = .ok (.istore_n 3, 1) := by decide +kernel
theorem dX2_wakes_13 : decode cX2_wakes 13 = .ok (.aload_n 0, 1) := by decide +kernel
theorem dX2_wakes_14 : decode cX2_wakes 14 = .ok (.getfield 48, 3) := by decide +kernel
theorem dX2_wakes_17 : decode cX2_wakes 17 = .ok (.getfield 208, 3) := by decide +kernel
theorem dX2_wakes_20 : decode cX2_wakes 20 = .ok (.astore 4, 2) := by decide +kernel
theorem dX2_wakes_22 : decode cX2_wakes 22 = .ok (.aload 4, 2) := by decide +kernel
theorem dX2_wakes_24 : decode cX2_wakes 24 = .ok (.invokevirtual 212, 3) := by decide +kernel
theorem dX2_wakes_27 : decode cX2_wakes 27 = .ok (.ifCond .ne 20, 3) := by decide +kernel
theorem dX2_wakes_30 : decode cX2_wakes 30 = .ok (.iload_n 3, 1) := by decide +kernel
theorem dX2_wakes_31 : decode cX2_wakes 31 = .ok (.aload_n 1, 1) := by decide +kernel
theorem dX2_wakes_32 : decode cX2_wakes 32 = .ok (.getfield 66, 3) := by decide +kernel
theorem dX2_wakes_35 : decode cX2_wakes 35 = .ok (.getfield 217, 3) := by decide +kernel
theorem dX2_wakes_38 : decode cX2_wakes 38 = .ok (.if_icmp .gt 7, 3) := by decide +kernel
theorem dX2_wakes_41 : decode cX2_wakes 41 = .ok (.iconst 1, 1) := by decide +kernel
theorem dX2_wakes_42 : decode cX2_wakes 42 = .ok (.goto 4, 3) := by decide +kernel
theorem dX2_wakes_45 : decode cX2_wakes 45 = .ok (.iconst 0, 1) := by decide +kernel
theorem dX2_wakes_46 : decode cX2_wakes 46 = .ok (.ireturn, 1) := by decide +kernel
theorem dX2_wakes_47 : decode cX2_wakes 47 = .ok (.aload 4, 2) := by decide +kernel
theorem dX2_wakes_49 : decode cX2_wakes 49 = .ok (.iconst (-1), 1) := by decide +kernel
theorem dX2_wakes_50 : decode cX2_wakes 50 = .ok (.aload_n 1, 1) := by decide +kernel
theorem dX2_wakes_51 : decode cX2_wakes 51 = .ok (.getfield 66, 3) := by decide +kernel
theorem dX2_wakes_54 : decode cX2_wakes 54 = .ok (.getfield 217, 3) := by decide +kernel
theorem dX2_wakes_57 : decode cX2_wakes 57 = .ok (.invokevirtual 220, 3) := by decide +kernel
theorem dX2_wakes_60 : decode cX2_wakes 60 = .ok (.aload 4, 2) := by decide +kernel
theorem dX2_wakes_62 : decode cX2_wakes 62 = .ok (.bipush (-2), 2) := by decide +kernel
theorem dX2_wakes_64 : decode cX2_wakes 64 = .ok (.iload_n 3, 1) := by decide +kernel
theorem dX2_wakes_65 : decode cX2_wakes 65 = .ok (.invokevirtual 220, 3) := by decide +kernel
theorem dX2_wakes_68 : decode cX2_wakes 68 = .ok (.aload 4, 2) := by decide +kernel
theorem dX2_wakes_70 : decode cX2_wakes 70 = .ok (.bipush (-3), 2) := by decide +kernel
theorem dX2_wakes_72 : decode cX2_wakes 72 = .ok (.aload_n 0, 1) := by decide +kernel
theorem dX2_wakes_73 : decode cX2_wakes 73 = .ok (.getfield 36, 3) := by decide +kernel
theorem dX2_wakes_76 : decode cX2_wakes 76 = .ok (.invokevirtual 220, 3) := by decide +kernel
theorem dX2_wakes_79 : decode cX2_wakes 79 = .ok (.aload 4, 2) := by decide +kernel
theorem dX2_wakes_81 : decode cX2_wakes 81 = .ok (.bipush (-4), 2) := by decide +kernel
theorem dX2_wakes_83 : decode cX2_wakes 83 = .ok (.aload_n 0, 1) := by decide +kernel
theorem dX2_wakes_84 : decode cX2_wakes 84 = .ok (.getfield 33, 3) := by decide +kernel
theorem dX2_wakes_87 : decode cX2_wakes 87 = .ok (.bipush 60, 2) := by decide +kernel
theorem dX2_wakes_89 : decode cX2_wakes 89 = .ok (.idiv, 1) := by decide +kernel
theorem dX2_wakes_90 : decode cX2_wakes 90 = .ok (.invokevirtual 220, 3) := by decide +kernel
theorem dX2_wakes_93 : decode cX2_wakes 93 = .ok (.aload 4, 2) := by decide +kernel
theorem dX2_wakes_95 : decode cX2_wakes 95 = .ok (.bipush (-5), 2) := by decide +kernel
theorem dX2_wakes_97 : decode cX2_wakes 97 = .ok (.aload_n 0, 1) := by decide +kernel
theorem dX2_wakes_98 : decode cX2_wakes 98 = .ok (.aload_n 1, 1) := by decide +kernel
theorem dX2_wakes_99 : decode cX2_wakes 99 = .ok (.getfield 202, 3) := by decide +kernel
theorem dX2_wakes_102 : decode cX2_wakes 102 = .ok (.iconst 1, 1) := by decide +kernel
theorem dX2_wakes_103 : decode cX2_wakes 103 = .ok (.isub, 1) := by decide +kernel
theorem dX2_wakes_104 : decode cX2_wakes 104 = .ok (.invokevirtual 223, 3) := by decide +kernel
theorem dX2_wakes_107 : decode cX2_wakes 107 = .ok (.aload_n 0, 1) := by decide +kernel
theorem dX2_wakes_108 : decode cX2_wakes 108 = .ok (.aload_n 1, 1) := by decide +kernel
theorem dX2_wakes_109 : decode cX2_wakes 109 = .ok (.getfield 202, 3) := by decide +kernel
theorem dX2_wakes_112 : decode cX2_wakes 112 = .ok (.iconst 1, 1) := by decide +kernel
theorem dX2_wakes_113 : decode cX2_wakes 113 = .ok (.iadd, 1) := by decide +kernel
theorem dX2_wakes_114 : decode cX2_wakes 114 = .ok (.invokevirtual 223, 3) := by decide +kernel
theorem dX2_wakes_117 : decode cX2_wakes 117 = .ok (.iadd, 1) := by decide +kernel
theorem dX2_wakes_118 : decode cX2_wakes 118 = .ok (.invokevirtual 220, 3) := by decide +kernel
theorem dX2_wakes_121 : decode cX2_wakes 121 = .ok (.aload 4, 2) := by decide +kernel
theorem dX2_wakes_123 : decode cX2_wakes 123 = .ok (.bipush (-6), 2) := by decide +kernel
theorem dX2_wakes_125 : decode cX2_wakes 125 = .ok (.aload_n 0, 1) := by decide +kernel
theorem dX2_wakes_126 : decode cX2_wakes 126 = .ok (.getfield 52, 3) := by decide +kernel
theorem dX2_wakes_129 : decode cX2_wakes 129 = .ok (.getfield 86, 3) := by decide +kernel
theorem dX2_wakes_132 : decode cX2_wakes 132 = .ok (.iconst 1, 1) := by decide +kernel
theorem dX2_wakes_133 : decode cX2_wakes 133 = .ok (.isub, 1) := by decide +kernel
theorem dX2_wakes_134 : decode cX2_wakes 134 = .ok (.aload_n 1, 1) := by decide +kernel
theorem dX2_wakes_135 : decode cX2_wakes 135 = .ok (.getfield 202, 3) := by decide +kernel
theorem dX2_wakes_138 : decode cX2_wakes 138 = .ok (.isub, 1) := by decide +kernel
theorem dX2_wakes_139 : decode cX2_wakes 139 = .ok (.invokevirtual 220, 3) := by decide +kernel
theorem dX2_wakes_142 : decode cX2_wakes 142 = .ok (.aload 4, 2) := by decide +kernel
theorem dX2_wakes_144 : decode cX2_wakes 144 = .ok (.bipush (-7), 2) := by decide +kernel
theorem dX2_wakes_146 : decode cX2_wakes 146 = .ok (.aload_n 1, 1) := by decide +kernel
theorem dX2_wakes_147 : decode cX2_wakes 147 = .ok (.getfield 226, 3) := by decide +kernel
theorem dX2_wakes_150 : decode cX2_wakes 150 = .ok (.invokevirtual 220, 3) := by decide +kernel
theorem dX2_wakes_153 : decode cX2_wakes 153 = .ok (.aload 4, 2) := by decide +kernel
theorem dX2_wakes_155 : decode cX2_wakes 155 = .ok (.invokevirtual 229, 3) := by decide +kernel
theorem dX2_wakes_158 : decode cX2_wakes 158 = .ok (.ireturn, 1) := by decide +kernel
theorem dX2_snorersIn_0 : decode cX2_snorersIn 0 = .ok (.aload_n 0, 1) := by decide +kernel
theorem dX2_snorersIn_1 : decode cX2_snorersIn 1 = .ok (.iload_n 1, 1) := by decide +kernel
theorem dX2_snorersIn_2 : decode cX2_snorersIn 2 = .ok (.invokevirtual 98, 3) := by decide +kernel
theorem dX2_snorersIn_5 : decode cX2_snorersIn 5 = .ok (.getfield 66, 3) := by decide +kernel
theorem dX2_snorersIn_8 : decode cX2_snorersIn 8 = .ok (.getfield 125, 3) := by decide +kernel
theorem dX2_snorersIn_11 : decode cX2_snorersIn 11 = .ok (.iconst 2, 1) := by decide +kernel
theorem dX2_snorersIn_12 : decode cX2_snorersIn 12 = .ok (.if_icmp .ne 7, 3) := by decide +kernel
theorem dX2_snorersIn_15 : decode cX2_snorersIn 15 = .ok (.iconst 1, 1) := by decide +kernel
theorem dX2_snorersIn_16 : decode cX2_snorersIn 16 = .ok (.goto 4, 3) := by decide +kernel
theorem dX2_snorersIn_19 : decode cX2_snorersIn 19 = .ok (.iconst 0, 1) := by decide +kernel
theorem dX2_snorersIn_20 : decode cX2_snorersIn 20 = .ok (.ireturn, 1) := by decide +kernel
theorem dX2_wake_0 : decode cX2_wake 0 = .ok (.aload_n 1, 1) := by decide +kernel
theorem dX2_wake_1 : decode cX2_wake 1 = .ok (.aload_n 0, 1) := by decide +kernel
theorem dX2_wake_2 : decode cX2_wake 2 = .ok (.getfield 33, 3) := by decide +kernel
theorem dX2_wake_5 : decode cX2_wake 5 = .ok (.putfield 232, 3) := by decide +kernel
theorem dX2_wake_8 : decode cX2_wake 8 = .ok (.aload_n 1, 1) := by decide +kernel
theorem dX2_wake_9 : decode cX2_wake 9 = .ok (.dup, 1) := by decide +kernel
theorem dX2_wake_10 : decode cX2_wake 10 = .ok (.getfield 226, 3) := by decide +kernel
theorem dX2_wake_13 : decode cX2_wake 13 = .ok (.iconst 1, 1) := by decide +kernel
theorem dX2_wake_14 : decode cX2_wake 14 = .ok (.iadd, 1) := by decide +kernel
theorem dX2_wake_15 : decode cX2_wake 15 = .ok (.putfield 226, 3) := by decide +kernel
theorem dX2_wake_18 : decode cX2_wake 18 = .ok (.aload_n 0, 1) := by decide +kernel
theorem dX2_wake_19 : decode cX2_wake 19 = .ok (.dup, 1) := by decide +kernel
theorem dX2_wake_20 : decode cX2_wake 20 = .ok (.getfield 39, 3) := by decide +kernel
theorem dX2_wake_23 : decode cX2_wake 23 = .ok (.iconst 1, 1) := by decide +kernel
theorem dX2_wake_24 : decode cX2_wake 24 = .ok (.iadd, 1) := by decide +kernel
theorem dX2_wake_25 : decode cX2_wake 25 = .ok (.putfield 39, 3) := by decide +kernel
theorem dX2_wake_28 : decode cX2_wake 28 = .ok (.return_, 1) := by decide +kernel
theorem dX2_goOver_0 : decode cX2_goOver 0 = .ok (.iload_n 1, 1) := by decide +kernel
theorem dX2_goOver_1 : decode cX2_goOver 1 = .ok (.iconst 1, 1) := by decide +kernel
theorem dX2_goOver_2 : decode cX2_goOver 2 = .ok (.iadd, 1) := by decide +kernel
theorem dX2_goOver_3 : decode cX2_goOver 3 = .ok (.istore_n 2, 1) := by decide +kernel
theorem dX2_goOver_4 : decode cX2_goOver 4 = .ok (.iload_n 2, 1) := by decide +kernel
theorem dX2_goOver_5 : decode cX2_goOver 5 = .ok (.aload_n 0, 1) := by decide +kernel
theorem dX2_goOver_6 : decode cX2_goOver 6 = .ok (.getfield 52, 3) := by decide +kernel
theorem dX2_goOver_9 : decode cX2_goOver 9 = .ok (.getfield 86, 3) := by decide +kernel
theorem dX2_goOver_12 : decode cX2_goOver 12 = .ok (.if_icmp .ge 28, 3) := by decide +kernel
theorem dX2_goOver_15 : decode cX2_goOver 15 = .ok (.aload_n 0, 1) := by decide +kernel
theorem dX2_goOver_16 : decode cX2_goOver 16 = .ok (.iload_n 2, 1) := by decide +kernel
theorem dX2_goOver_17 : decode cX2_goOver 17 = .ok (.invokevirtual 98, 3) := by decide +kernel
theorem dX2_goOver_20 : decode cX2_goOver 20 = .ok (.astore_n 3, 1) := by decide +kernel
theorem dX2_goOver_21 : decode cX2_goOver 21 = .ok (.aload_n 0, 1) := by decide +kernel
theorem dX2_goOver_22 : decode cX2_goOver 22 = .ok (.aload_n 3, 1) := by decide +kernel
theorem dX2_goOver_23 : decode cX2_goOver 23 = .ok (.invokevirtual 165, 3) := by decide +kernel
theorem dX2_goOver_26 : decode cX2_goOver 26 = .ok (.ifCond .eq 8, 3) := by decide +kernel
theorem dX2_goOver_29 : decode cX2_goOver 29 = .ok (.aload_n 0, 1) := by decide +kernel
theorem dX2_goOver_30 : decode cX2_goOver 30 = .ok (.aload_n 3, 1) := by decide +kernel
theorem dX2_goOver_31 : decode cX2_goOver 31 = .ok (.invokevirtual 173, 3) := by decide +kernel
theorem dX2_goOver_34 : decode cX2_goOver 34 = .ok (.iinc 2 1, 3) := by decide +kernel
theorem dX2_goOver_37 : decode cX2_goOver 37 = .ok (.goto (-33), 3) := by decide +kernel
theorem dX2_goOver_40 : decode cX2_goOver 40 = .ok (.return_, 1) := by decide +kernel
theorem dX2_forgetSums_0 : decode cX2_forgetSums 0 = .ok (.aload_n 0, 1) := by decide +kernel
theorem dX2_forgetSums_1 : decode cX2_forgetSums 1 = .ok (.getfield 22, 3) := by decide +kernel
theorem dX2_forgetSums_4 : decode cX2_forgetSums 4 = .ok (.iconst 0, 1) := by decide +kernel
theorem dX2_forgetSums_5 : decode cX2_forgetSums 5 = .ok (.invokevirtual 235, 3) := by decide +kernel
theorem dX2_forgetSums_8 : decode cX2_forgetSums 8 = .ok (.return_, 1) := by decide +kernel
theorem dX2_addToSums_0 : decode cX2_addToSums 0 = .ok (.iconst 0, 1) := by decide +kernel
theorem dX2_addToSums_1 : decode cX2_addToSums 1 = .ok (.istore_n 1, 1) := by decide +kernel
theorem dX2_addToSums_2 : decode cX2_addToSums 2 = .ok (.iload_n 1, 1) := by decide +kernel
theorem dX2_addToSums_3 : decode cX2_addToSums 3 = .ok (.aload_n 0, 1) := by decide +kernel
theorem dX2_addToSums_4 : decode cX2_addToSums 4 = .ok (.getfield 52, 3) := by decide +kernel
theorem dX2_addToSums_7 : decode cX2_addToSums 7 = .ok (.getfield 86, 3) := by decide +kernel
theorem dX2_addToSums_10 : decode cX2_addToSums 10 = .ok (.if_icmp .ge 30, 3) := by decide +kernel
theorem dX2_addToSums_13 : decode cX2_addToSums 13 = .ok (.aload_n 0, 1) := by decide +kernel
theorem dX2_addToSums_14 : decode cX2_addToSums 14 = .ok (.iload_n 1, 1) := by decide +kernel
theorem dX2_addToSums_15 : decode cX2_addToSums 15 = .ok (.invokevirtual 98, 3) := by decide +kernel
theorem dX2_addToSums_18 : decode cX2_addToSums 18 = .ok (.astore_n 2, 1) := by decide +kernel
theorem dX2_addToSums_19 : decode cX2_addToSums 19 = .ok (.aload_n 0, 1) := by decide +kernel
theorem dX2_addToSums_20 : decode cX2_addToSums 20 = .ok (.getfield 22, 3) := by decide +kernel
theorem dX2_addToSums_23 : decode cX2_addToSums 23 = .ok (.aload_n 2, 1) := by decide +kernel
theorem dX2_addToSums_24 : decode cX2_addToSums 24 = .ok (.getfield 180, 3) := by decide +kernel
theorem dX2_addToSums_27 : decode cX2_addToSums 27 = .ok (.aload_n 2, 1) := by decide +kernel
theorem dX2_addToSums_28 : decode cX2_addToSums 28 = .ok (.getfield 226, 3) := by decide +kernel
theorem dX2_addToSums_31 : decode cX2_addToSums 31 = .ok (.invokevirtual 238, 3) := by decide +kernel
theorem dX2_addToSums_34 : decode cX2_addToSums 34 = .ok (.iinc 1 1, 3) := by decide +kernel
theorem dX2_addToSums_37 : decode cX2_addToSums 37 = .ok (.goto (-35), 3) := by decide +kernel
theorem dX2_addToSums_40 : decode cX2_addToSums 40 = .ok (.return_, 1) := by decide +kernel
