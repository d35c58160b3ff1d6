theorem dX5_init_0 : decode cX5_init 0 = .ok (.aload_n 0, 1) := by decide +kernel
theorem dX5_init_1 : decode cX5_init 1 = .ok (.invokespecial 3, 3) := by decide +kernel
theorem dX5_init_4 : decode cX5_init 4 = .ok (.aload_n 0, 1) := by decide +kernel
theorem dX5_init_5 : decode cX5_init 5 = .ok (.new 9, 3) := by decide +kernel
theorem dX5_init_8 : decode cX5_init 8 = .ok (.dup, 1) := by decide +kernel
theorem dX5_init_9 : decode cX5_init 9 = .ok (.new 11, 3) := by decide +kernel
theorem dX5_init_12 : decode cX5_init 12 = .ok (.dup, 1) := by decide +kernel
theorem dX5_init_13 : decode cX5_init 13 = .ok (.iconst 0, 1) := by decide +kernel
theorem dX5_init_14 : decode cX5_init 14 = .ok (.invokespecial 13, 3) := by decide +kernel
theorem dX5_init_17 : decode cX5_init 17 = .ok (.invokespecial 16, 3) := by decide +kernel
theorem dX5_init_20 : decode cX5_init 20 = .ok (.putfield 19, 3) := by decide +kernel
theorem dX5_init_23 : decode cX5_init 23 = .ok (.aload_n 0, 1) := by decide +kernel
theorem dX5_init_24 : decode cX5_init 24 = .ok (.iconst 0, 1) := by decide +kernel
theorem dX5_init_25 : decode cX5_init 25 = .ok (.putfield 25, 3) := by decide +kernel
theorem dX5_init_28 : decode cX5_init 28 = .ok (.aload_n 0, 1) := by decide +kernel
theorem dX5_init_29 : decode cX5_init 29 = .ok (.iconst (-1), 1) := by decide +kernel
theorem dX5_init_30 : decode cX5_init 30 = .ok (.putfield 29, 3) := by decide +kernel
theorem dX5_init_33 : decode cX5_init 33 = .ok (.aload_n 0, 1) := by decide +kernel
theorem dX5_init_34 : decode cX5_init 34 = .ok (.iconst 0, 1) := by decide +kernel
theorem dX5_init_35 : decode cX5_init 35 = .ok (.putfield 32, 3) := by decide +kernel
theorem dX5_init_38 : decode cX5_init 38 = .ok (.aload_n 0, 1) := by decide +kernel
theorem dX5_init_39 : decode cX5_init 39 = .ok (.aload_n 1, 1) := by decide +kernel
theorem dX5_init_40 : decode cX5_init 40 = .ok (.putfield 35, 3) := by decide +kernel
theorem dX5_init_43 : decode cX5_init 43 = .ok (.return_, 1) := by decide +kernel
theorem dX5_read_0 : decode cX5_read 0 = .ok (.aload_n 0, 1) := by decide +kernel
theorem dX5_read_1 : decode cX5_read 1 = .ok (.aload_n 3, 1) := by decide +kernel
theorem dX5_read_2 : decode cX5_read 2 = .ok (.putfield 35, 3) := by decide +kernel
theorem dX5_read_5 : decode cX5_read 5 = .ok (.aload_n 0, 1) := by decide +kernel
theorem dX5_read_6 : decode cX5_read 6 = .ok (.getfield 35, 3) := by decide +kernel
theorem dX5_read_9 : decode cX5_read 9 = .ok (.invokevirtual 39, 3) := by decide +kernel
theorem dX5_read_12 : decode cX5_read 12 = .ok (.aload_n 0, 1) := by decide +kernel
theorem dX5_read_13 : decode cX5_read 13 = .ok (.iconst 0, 1) := by decide +kernel
theorem dX5_read_14 : decode cX5_read 14 = .ok (.putfield 25, 3) := by decide +kernel
theorem dX5_read_17 : decode cX5_read 17 = .ok (.aload_n 0, 1) := by decide +kernel
theorem dX5_read_18 : decode cX5_read 18 = .ok (.iconst (-1), 1) := by decide +kernel
theorem dX5_read_19 : decode cX5_read 19 = .ok (.putfield 29, 3) := by decide +kernel
theorem dX5_read_22 : decode cX5_read 22 = .ok (.aload_n 0, 1) := by decide +kernel
theorem dX5_read_23 : decode cX5_read 23 = .ok (.iconst 0, 1) := by decide +kernel
theorem dX5_read_24 : decode cX5_read 24 = .ok (.putfield 32, 3) := by decide +kernel
theorem dX5_read_27 : decode cX5_read 27 = .ok (.aload_n 0, 1) := by decide +kernel
theorem dX5_read_28 : decode cX5_read 28 = .ok (.getfield 19, 3) := by decide +kernel
theorem dX5_read_31 : decode cX5_read 31 = .ok (.aload_n 1, 1) := by decide +kernel
theorem dX5_read_32 : decode cX5_read 32 = .ok (.iload_n 2, 1) := by decide +kernel
theorem dX5_read_33 : decode cX5_read 33 = .ok (.invokevirtual 44, 3) := by decide +kernel
theorem dX5_read_36 : decode cX5_read 36 = .ok (.iconst 0, 1) := by decide +kernel
theorem dX5_read_37 : decode cX5_read 37 = .ok (.istore 4, 2) := by decide +kernel
theorem dX5_read_39 : decode cX5_read 39 = .ok (.iload 4, 2) := by decide +kernel
theorem dX5_read_41 : decode cX5_read 41 = .ok (.iload_n 2, 1) := by decide +kernel
theorem dX5_read_42 : decode cX5_read 42 = .ok (.if_icmp .ge 23, 3) := by decide +kernel
theorem dX5_read_45 : decode cX5_read 45 = .ok (.aload_n 0, 1) := by decide +kernel
theorem dX5_read_46 : decode cX5_read 46 = .ok (.getfield 19, 3) := by decide +kernel
theorem dX5_read_49 : decode cX5_read 49 = .ok (.getfield 48, 3) := by decide +kernel
theorem dX5_read_52 : decode cX5_read 52 = .ok (.ifCond .eq 13, 3) := by decide +kernel
theorem dX5_read_55 : decode cX5_read 55 = .ok (.aload_n 0, 1) := by decide +kernel
theorem dX5_read_56 : decode cX5_read 56 = .ok (.invokevirtual 51, 3) := by decide +kernel
theorem dX5_read_59 : decode cX5_read 59 = .ok (.iinc 4 1, 3) := by decide +kernel
theorem dX5_read_62 : decode cX5_read 62 = .ok (.goto (-23), 3) := by decide +kernel
theorem dX5_read_65 : decode cX5_read 65 = .ok (.aload_n 0, 1) := by decide +kernel
theorem dX5_read_66 : decode cX5_read 66 = .ok (.getfield 25, 3) := by decide +kernel
theorem dX5_read_69 : decode cX5_read 69 = .ok (.ireturn, 1) := by decide +kernel
theorem dX5_refuse_0 : decode cX5_refuse 0 = .ok (.aload_n 0, 1) := by decide +kernel
theorem dX5_refuse_1 : decode cX5_refuse 1 = .ok (.getfield 25, 3) := by decide +kernel
theorem dX5_refuse_4 : decode cX5_refuse 4 = .ok (.ifCond .ne 19, 3) := by decide +kernel
theorem dX5_refuse_7 : decode cX5_refuse 7 = .ok (.aload_n 0, 1) := by decide +kernel
theorem dX5_refuse_8 : decode cX5_refuse 8 = .ok (.iload_n 1, 1) := by decide +kernel
theorem dX5_refuse_9 : decode cX5_refuse 9 = .ok (.putfield 25, 3) := by decide +kernel
theorem dX5_refuse_12 : decode cX5_refuse 12 = .ok (.aload_n 0, 1) := by decide +kernel
theorem dX5_refuse_13 : decode cX5_refuse 13 = .ok (.aload_n 0, 1) := by decide +kernel
theorem dX5_refuse_14 : decode cX5_refuse 14 = .ok (.getfield 19, 3) := by decide +kernel
theorem dX5_refuse_17 : decode cX5_refuse 17 = .ok (.getfield 54, 3) := by decide +kernel
theorem dX5_refuse_20 : decode cX5_refuse 20 = .ok (.putfield 29, 3) := by decide +kernel
theorem dX5_refuse_23 : decode cX5_refuse 23 = .ok (.aload_n 0, 1) := by decide +kernel
theorem dX5_refuse_24 : decode cX5_refuse 24 = .ok (.getfield 19, 3) := by decide +kernel
theorem dX5_refuse_27 : decode cX5_refuse 27 = .ok (.invokevirtual 57, 3) := by decide +kernel
theorem dX5_refuse_30 : decode cX5_refuse 30 = .ok (.return_, 1) := by decide +kernel
theorem dX5_readLine_0 : decode cX5_readLine 0 = .ok (.aload_n 0, 1) := by decide +kernel
theorem dX5_readLine_1 : decode cX5_readLine 1 = .ok (.invokevirtual 60, 3) := by decide +kernel
theorem dX5_readLine_4 : decode cX5_readLine 4 = .ok (.istore_n 1, 1) := by decide +kernel
theorem dX5_readLine_5 : decode cX5_readLine 5 = .ok (.iload_n 1, 1) := by decide +kernel
theorem dX5_readLine_6 : decode cX5_readLine 6 = .ok (.iconst 3, 1) := by decide +kernel
theorem dX5_readLine_7 : decode cX5_readLine 7 = .ok (.if_icmp .ne 10, 3) := by decide +kernel
theorem dX5_readLine_10 : decode cX5_readLine 10 = .ok (.aload_n 0, 1) := by decide +kernel
theorem dX5_readLine_11 : decode cX5_readLine 11 = .ok (.invokevirtual 64, 3) := by decide +kernel
theorem dX5_readLine_14 : decode cX5_readLine 14 = .ok (.goto 84, 3) := by decide +kernel
theorem dX5_readLine_17 : decode cX5_readLine 17 = .ok (.iload_n 1, 1) := by decide +kernel
theorem dX5_readLine_18 : decode cX5_readLine 18 = .ok (.iconst (-1), 1) := by decide +kernel
theorem dX5_readLine_19 : decode cX5_readLine 19 = .ok (.if_icmp .eq 11, 3) := by decide +kernel
theorem dX5_readLine_22 : decode cX5_readLine 22 = .ok (.aload_n 0, 1) := by decide +kernel
theorem dX5_readLine_23 : decode cX5_readLine 23 = .ok (.iload_n 1, 1) := by decide +kernel
theorem dX5_readLine_24 : decode cX5_readLine 24 = .ok (.invokevirtual 67, 3) := by decide +kernel
theorem dX5_readLine_27 : decode cX5_readLine 27 = .ok (.goto 71, 3) := by decide +kernel
theorem dX5_readLine_30 : decode cX5_readLine 30 = .ok (.aload_n 0, 1) := by decide +kernel
theorem dX5_readLine_31 : decode cX5_readLine 31 = .ok (.getfield 19, 3) := by decide +kernel
theorem dX5_readLine_34 : decode cX5_readLine 34 = .ok (.ldc 70, 2) := by decide +kernel
theorem dX5_readLine_36 : decode cX5_readLine 36 = .ok (.invokevirtual 72, 3) := by decide +kernel
theorem dX5_readLine_39 : decode cX5_readLine 39 = .ok (.ifCond .eq 10, 3) := by decide +kernel
theorem dX5_readLine_42 : decode cX5_readLine 42 = .ok (.aload_n 0, 1) := by decide +kernel
theorem dX5_readLine_43 : decode cX5_readLine 43 = .ok (.invokevirtual 76, 3) := by decide +kernel
theorem dX5_readLine_46 : decode cX5_readLine 46 = .ok (.goto 52, 3) := by decide +kernel
theorem dX5_readLine_49 : decode cX5_readLine 49 = .ok (.aload_n 0, 1) := by decide +kernel
theorem dX5_readLine_50 : decode cX5_readLine 50 = .ok (.getfield 19, 3) := by decide +kernel
theorem dX5_readLine_53 : decode cX5_readLine 53 = .ok (.ldc 79, 2) := by decide +kernel
theorem dX5_readLine_55 : decode cX5_readLine 55 = .ok (.invokevirtual 72, 3) := by decide +kernel
theorem dX5_readLine_58 : decode cX5_readLine 58 = .ok (.ifCond .eq 10, 3) := by decide +kernel
theorem dX5_readLine_61 : decode cX5_readLine 61 = .ok (.aload_n 0, 1) := by decide +kernel
theorem dX5_readLine_62 : decode cX5_readLine 62 = .ok (.invokevirtual 81, 3) := by decide +kernel
theorem dX5_readLine_65 : decode cX5_readLine 65 = .ok (.goto 33, 3) := by decide +kernel
theorem dX5_readLine_68 : decode cX5_readLine 68 = .ok (.aload_n 0, 1) := by decide +kernel
theorem dX5_readLine_69 : decode cX5_readLine 69 = .ok (.getfield 19, 3) := by decide +kernel
theorem dX5_readLine_72 : decode cX5_readLine 72 = .ok (.ldc 84, 2) := by decide +kernel
theorem dX5_readLine_74 : decode cX5_readLine 74 = .ok (.invokevirtual 72, 3) := by decide +kernel
theorem dX5_readLine_77 : decode cX5_readLine 77 = .ok (.ifCond .eq 17, 3) := by decide +kernel
theorem dX5_readLine_80 : decode cX5_readLine 80 = .ok (.aload_n 0, 1) := by decide +kernel
theorem dX5_readLine_81 : decode cX5_readLine 81 = .ok (.bipush 8, 2) := by decide +kernel
theorem dX5_readLine_83 : decode cX5_readLine 83 = .ok (.invokevirtual 86, 3) := by decide +kernel
theorem dX5_readLine_86 : decode cX5_readLine 86 = .ok (.aload_n 0, 1) := by decide +kernel
theorem dX5_readLine_87 : decode cX5_readLine 87 = .ok (.iconst 0, 1) := by decide +kernel
theorem dX5_readLine_88 : decode cX5_readLine 88 = .ok (.invokevirtual 89, 3) := by decide +kernel
theorem dX5_readLine_91 : decode cX5_readLine 91 = .ok (.goto 7, 3) := by decide +kernel
theorem dX5_readLine_94 : decode cX5_readLine 94 = .ok (.aload_n 0, 1) := by decide +kernel
theorem dX5_readLine_95 : decode cX5_readLine 95 = .ok (.invokevirtual 92, 3) := by decide +kernel
theorem dX5_readLine_98 : decode cX5_readLine 98 = .ok (.aload_n 0, 1) := by decide +kernel
theorem dX5_readLine_99 : decode cX5_readLine 99 = .ok (.bipush 59, 2) := by decide +kernel
theorem dX5_readLine_101 : decode cX5_readLine 101 = .ok (.invokevirtual 95, 3) := by decide +kernel
theorem dX5_readLine_104 : decode cX5_readLine 104 = .ok (.return_, 1) := by decide +kernel
theorem dX5_kindOfWord_0 : decode cX5_kindOfWord 0 = .ok (.aload_n 0, 1) := by decide +kernel
theorem dX5_kindOfWord_1 : decode cX5_kindOfWord 1 = .ok (.getfield 19, 3) := by decide +kernel
theorem dX5_kindOfWord_4 : decode cX5_kindOfWord 4 = .ok (.ldc 99, 2) := by decide +kernel
theorem dX5_kindOfWord_6 : decode cX5_kindOfWord 6 = .ok (.invokevirtual 72, 3) := by decide +kernel
theorem dX5_kindOfWord_9 : decode cX5_kindOfWord 9 = .ok (.ifCond .eq 5, 3) := by decide +kernel
theorem dX5_kindOfWord_12 : decode cX5_kindOfWord 12 = .ok (.iconst 0, 1) := by decide +kernel
theorem dX5_kindOfWord_13 : decode cX5_kindOfWord 13 = .ok (.ireturn, 1) := by decide +kernel
theorem dX5_kindOfWord_14 : decode cX5_kindOfWord 14 = .ok (.aload_n 0, 1) := by decide +kernel
theorem dX5_kindOfWord_15 : decode cX5_kindOfWord 15 = .ok (.getfield 19, 3) := by decide +kernel
theorem dX5_kindOfWord_18 : decode cX5_kindOfWord 18 = .ok (.ldc 101, 2) := by decide +kernel
theorem dX5_kindOfWord_20 : decode cX5_kindOfWord 20 = .ok (.invokevirtual 72, 3) := by decide +kernel
theorem dX5_kindOfWord_23 : decode cX5_kindOfWord 23 = .ok (.ifCond .eq 5, 3) := by decide +kernel
theorem dX5_kindOfWord_26 : decode cX5_kindOfWord 26 = .ok (.iconst 1, 1) := by decide +kernel
theorem dX5_kindOfWord_27 : decode cX5_kindOfWord 27 = .ok (.ireturn, 1) := by decide +kernel
theorem dX5_kindOfWord_28 : decode cX5_kindOfWord 28 = .ok (.aload_n 0, 1) := by decide +kernel
theorem dX5_kindOfWord_29 : decode cX5_kindOfWord 29 = .ok (.getfield 19, 3) := by decide +kernel
theorem dX5_kindOfWord_32 : decode cX5_kindOfWord 32 = .ok (.ldc 103, 2) := by decide +kernel
theorem dX5_kindOfWord_34 : decode cX5_kindOfWord 34 = .ok (.invokevirtual 72, 3) := by decide +kernel
theorem dX5_kindOfWord_37 : decode cX5_kindOfWord 37 = .ok (.ifCond .eq 5, 3) := by decide +kernel
theorem dX5_kindOfWord_40 : decode cX5_kindOfWord 40 = .ok (.iconst 2, 1) := by decide +kernel
theorem dX5_kindOfWord_41 : decode cX5_kindOfWord 41 = .ok (.ireturn, 1) := by decide +kernel
theorem dX5_kindOfWord_42 : decode cX5_kindOfWord 42 = .ok (.aload_n 0, 1) := by decide +kernel
theorem dX5_kindOfWord_43 : decode cX5_kindOfWord 43 = .ok (.getfield 19, 3) := by decide +kernel
theorem dX5_kindOfWord_46 : decode cX5_kindOfWord 46 = .ok (.ldc 105, 2) := by decide +kernel
theorem dX5_kindOfWord_48 : decode cX5_kindOfWord 48 = .ok (.invokevirtual 72, 3) := by decide +kernel
theorem dX5_kindOfWord_51 : decode cX5_kindOfWord 51 = .ok (.ifCond .eq 7, 3) := by decide +kernel
theorem dX5_kindOfWord_54 : decode cX5_kindOfWord 54 = .ok (.iconst 3, 1) := by decide +kernel
theorem dX5_kindOfWord_55 : decode cX5_kindOfWord 55 = .ok (.goto 4, 3) := by decide +kernel
theorem dX5_kindOfWord_58 : decode cX5_kindOfWord 58 = .ok (.iconst (-1), 1) := by decide +kernel
theorem dX5_kindOfWord_59 : decode cX5_kindOfWord 59 = .ok (.ireturn, 1) := by decide +kernel
theorem dX5_readSetting_0 : decode cX5_readSetting 0 = .ok (.aload_n 0, 1) := by decide +kernel
theorem dX5_readSetting_1 : decode cX5_readSetting 1 = .ok (.getfield 19, 3) := by decide +kernel
theorem dX5_readSetting_4 : decode cX5_readSetting 4 = .ok (.ldc 107, 2) := by decide +kernel
theorem dX5_readSetting_6 : decode cX5_readSetting 6 = .ok (.invokevirtual 72, 3) := by decide +kernel
theorem dX5_readSetting_9 : decode cX5_readSetting 9 = .ok (.ifCond .eq 39, 3) := by decide +kernel
theorem dX5_readSetting_12 : decode cX5_readSetting 12 = .ok (.aload_n 0, 1) := by decide +kernel
theorem dX5_readSetting_13 : decode cX5_readSetting 13 = .ok (.iconst 1, 1) := by decide +kernel
theorem dX5_readSetting_14 : decode cX5_readSetting 14 = .ok (.invokevirtual 86, 3) := by decide +kernel
theorem dX5_readSetting_17 : decode cX5_readSetting 17 = .ok (.aload_n 0, 1) := by decide +kernel
theorem dX5_readSetting_18 : decode cX5_readSetting 18 = .ok (.getfield 35, 3) := by decide +kernel
theorem dX5_readSetting_21 : decode cX5_readSetting 21 = .ok (.aload_n 0, 1) := by decide +kernel
theorem dX5_readSetting_22 : decode cX5_readSetting 22 = .ok (.iconst 1, 1) := by decide +kernel
theorem dX5_readSetting_23 : decode cX5_readSetting 23 = .ok (.bipush 99, 2) := by decide +kernel
theorem dX5_readSetting_25 : decode cX5_readSetting 25 = .ok (.invokevirtual 109, 3) := by decide +kernel
theorem dX5_readSetting_28 : decode cX5_readSetting 28 = .ok (.putfield 113, 3) := by decide +kernel
theorem dX5_readSetting_31 : decode cX5_readSetting 31 = .ok (.aload_n 0, 1) := by decide +kernel
theorem dX5_readSetting_32 : decode cX5_readSetting 32 = .ok (.getfield 35, 3) := by decide +kernel
theorem dX5_readSetting_35 : decode cX5_readSetting 35 = .ok (.aload_n 0, 1) := by decide +kernel
theorem dX5_readSetting_36 : decode cX5_readSetting 36 = .ok (.iconst 0, 1) := by decide +kernel
theorem dX5_readSetting_37 : decode cX5_readSetting 37 = .ok (.bipush 9, 2) := by decide +kernel
theorem dX5_readSetting_39 : decode cX5_readSetting 39 = .ok (.invokevirtual 109, 3) := by decide +kernel
theorem dX5_readSetting_42 : decode cX5_readSetting 42 = .ok (.putfield 116, 3) := by decide +kernel
theorem dX5_readSetting_45 : decode cX5_readSetting 45 = .ok (.goto 77, 3) := by decide +kernel
theorem dX5_readSetting_48 : decode cX5_readSetting 48 = .ok (.aload_n 0, 1) := by decide +kernel
theorem dX5_readSetting_49 : decode cX5_readSetting 49 = .ok (.getfield 19, 3) := by decide +kernel
theorem dX5_readSetting_52 : decode cX5_readSetting 52 = .ok (.ldc 119, 2) := by decide +kernel
theorem dX5_readSetting_54 : decode cX5_readSetting 54 = .ok (.invokevirtual 72, 3) := by decide +kernel
theorem dX5_readSetting_57 : decode cX5_readSetting 57 = .ok (.ifCond .eq 26, 3) := by decide +kernel
theorem dX5_readSetting_60 : decode cX5_readSetting 60 = .ok (.aload_n 0, 1) := by decide +kernel
theorem dX5_readSetting_61 : decode cX5_readSetting 61 = .ok (.iconst 2, 1) := by decide +kernel
theorem dX5_readSetting_62 : decode cX5_readSetting 62 = .ok (.invokevirtual 86, 3) := by decide +kernel
theorem dX5_readSetting_65 : decode cX5_readSetting 65 = .ok (.aload_n 0, 1) := by decide +kernel
theorem dX5_readSetting_66 : decode cX5_readSetting 66 = .ok (.getfield 35, 3) := by decide +kernel
theorem dX5_readSetting_69 : decode cX5_readSetting 69 = .ok (.aload_n 0, 1) := by decide +kernel
theorem dX5_readSetting_70 : decode cX5_readSetting 70 = .ok (.iconst 1, 1) := by decide +kernel
theorem dX5_readSetting_71 : decode cX5_readSetting 71 = .ok (.sipush 600, 3) := by decide +kernel
theorem dX5_readSetting_74 : decode cX5_readSetting 74 = .ok (.invokevirtual 109, 3) := by decide +kernel
theorem dX5_readSetting_77 : decode cX5_readSetting 77 = .ok (.putfield 121, 3) := by decide +kernel
theorem dX5_readSetting_80 : decode cX5_readSetting 80 = .ok (.goto 42, 3) := by decide +kernel
theorem dX5_readSetting_83 : decode cX5_readSetting 83 = .ok (.aload_n 0, 1) := by decide +kernel
theorem dX5_readSetting_84 : decode cX5_readSetting 84 = .ok (.getfield 19, 3) := by decide +kernel
theorem dX5_readSetting_87 : decode cX5_readSetting 87 = .ok (.ldc 124, 2) := by decide +kernel
theorem dX5_readSetting_89 : decode cX5_readSetting 89 = .ok (.invokevirtual 72, 3) := by decide +kernel
theorem dX5_readSetting_92 : decode cX5_readSetting 92 = .ok (.ifCond .eq 25, 3) := by decide +kernel
theorem dX5_readSetting_95 : decode cX5_readSetting 95 = .ok (.aload_n 0, 1) := by decide +kernel
theorem dX5_readSetting_96 : decode cX5_readSetting 96 = .ok (.iconst 4, 1) := by decide +kernel
theorem dX5_readSetting_97 : decode cX5_readSetting 97 = .ok (.invokevirtual 86, 3) := by decide +kernel
theorem dX5_readSetting_100 : decode cX5_readSetting 100 = .ok (.aload_n 0, 1) := by decide +kernel
theorem dX5_readSetting_101 : decode cX5_readSetting 101 = .ok (.getfield 35, 3) := by decide +kernel
theorem dX5_readSetting_104 : decode cX5_readSetting 104 = .ok (.aload_n 0, 1) := by decide +kernel
theorem dX5_readSetting_105 : decode cX5_readSetting 105 = .ok (.iconst 0, 1) := by decide +kernel
theorem dX5_readSetting_106 : decode cX5_readSetting 106 = .ok (.bipush 60, 2) := by decide +kernel
theorem dX5_readSetting_108 : decode cX5_readSetting 108 = .ok (.invokevirtual 109, 3) := by decide +kernel
theorem dX5_readSetting_111 : decode cX5_readSetting 111 = .ok (.putfield 126, 3) := by decide +kernel
theorem dX5_readSetting_114 : decode cX5_readSetting 114 = .ok (.goto 8, 3) := by decide +kernel
theorem dX5_readSetting_117 : decode cX5_readSetting 117 = .ok (.aload_n 0, 1) := by decide +kernel
theorem dX5_readSetting_118 : decode cX5_readSetting 118 = .ok (.iconst 1, 1) := by decide +kernel
theorem dX5_readSetting_119 : decode cX5_readSetting 119 = .ok (.invokevirtual 128, 3) := by decide +kernel
theorem dX5_readSetting_122 : decode cX5_readSetting 122 = .ok (.return_, 1) := by decide +kernel
theorem dX5_takeOnce_0 : decode cX5_takeOnce 0 = .ok (.aload_n 0, 1) := by decide +kernel
theorem dX5_takeOnce_1 : decode cX5_takeOnce 1 = .ok (.getfield 32, 3) := by decide +kernel
theorem dX5_takeOnce_4 : decode cX5_takeOnce 4 = .ok (.iload_n 1, 1) := by decide +kernel
theorem dX5_takeOnce_5 : decode cX5_takeOnce 5 = .ok (.iand, 1) := by decide +kernel
theorem dX5_takeOnce_6 : decode cX5_takeOnce 6 = .ok (.ifCond .eq 8, 3) := by decide +kernel
theorem dX5_takeOnce_9 : decode cX5_takeOnce 9 = .ok (.aload_n 0, 1) := by decide +kernel
theorem dX5_takeOnce_10 : decode cX5_takeOnce 10 = .ok (.iconst 5, 1) := by decide +kernel
theorem dX5_takeOnce_11 : decode cX5_takeOnce 11 = .ok (.invokevirtual 128, 3) := by decide +kernel
theorem dX5_takeOnce_14 : decode cX5_takeOnce 14 = .ok (.aload_n 0, 1) := by decide +kernel
theorem dX5_takeOnce_15 : decode cX5_takeOnce 15 = .ok (.dup, 1) := by decide +kernel
theorem dX5_takeOnce_16 : decode cX5_takeOnce 16 = .ok (.getfield 32, 3) := by decide +kernel
theorem dX5_takeOnce_19 : decode cX5_takeOnce 19 = .ok (.iload_n 1, 1) := by decide +kernel
theorem dX5_takeOnce_20 : decode cX5_takeOnce 20 = .ok (.ior, 1) := by decide +kernel
theorem dX5_takeOnce_21 : decode cX5_takeOnce 21 = .ok (.putfield 32, 3) := by decide +kernel
theorem dX5_takeOnce_24 : decode cX5_takeOnce 24 = .ok (.aload_n 0, 1) := by decide +kernel
theorem dX5_takeOnce_25 : decode cX5_takeOnce 25 = .ok (.getfield 19, 3) := by decide +kernel
theorem dX5_takeOnce_28 : decode cX5_takeOnce 28 = .ok (.invokevirtual 131, 3) := by decide +kernel
theorem dX5_takeOnce_31 : decode cX5_takeOnce 31 = .ok (.return_, 1) := by decide +kernel
theorem dX5_takeNumber_0 : decode cX5_takeNumber 0 = .ok (.aload_n 0, 1) := by decide +kernel
theorem dX5_takeNumber_1 : decode cX5_takeNumber 1 = .ok (.getfield 19, 3) := by decide +kernel
theorem dX5_takeNumber_4 : decode cX5_takeNumber 4 = .ok (.getfield 48, 3) := by decide +kernel
theorem dX5_takeNumber_7 : decode cX5_takeNumber 7 = .ok (.iconst 2, 1) := by decide +kernel
theorem dX5_takeNumber_8 : decode cX5_takeNumber 8 = .ok (.if_icmp .eq 11, 3) := by decide +kernel
theorem dX5_takeNumber_11 : decode cX5_takeNumber 11 = .ok (.aload_n 0, 1) := by decide +kernel
theorem dX5_takeNumber_12 : decode cX5_takeNumber 12 = .ok (.iconst 1, 1) := by decide +kernel
theorem dX5_takeNumber_13 : decode cX5_takeNumber 13 = .ok (.invokevirtual 128, 3) := by decide +kernel
theorem dX5_takeNumber_16 : decode cX5_takeNumber 16 = .ok (.goto 20, 3) := by decide +kernel
theorem dX5_takeNumber_19 : decode cX5_takeNumber 19 = .ok (.aload_n 0, 1) := by decide +kernel
theorem dX5_takeNumber_20 : decode cX5_takeNumber 20 = .ok (.getfield 19, 3) := by decide +kernel
theorem dX5_takeNumber_23 : decode cX5_takeNumber 23 = .ok (.iload_n 1, 1) := by decide +kernel
theorem dX5_takeNumber_24 : decode cX5_takeNumber 24 = .ok (.iload_n 2, 1) := by decide +kernel
theorem dX5_takeNumber_25 : decode cX5_takeNumber 25 = .ok (.invokevirtual 134, 3) := by decide +kernel
theorem dX5_takeNumber_28 : decode cX5_takeNumber 28 = .ok (.ifCond .ne 8, 3) := by decide +kernel
theorem dX5_takeNumber_31 : decode cX5_takeNumber 31 = .ok (.aload_n 0, 1) := by decide +kernel
theorem dX5_takeNumber_32 : decode cX5_takeNumber 32 = .ok (.iconst 2, 1) := by decide +kernel
theorem dX5_takeNumber_33 : decode cX5_takeNumber 33 = .ok (.invokevirtual 128, 3) := by decide +kernel
theorem dX5_takeNumber_36 : decode cX5_takeNumber 36 = .ok (.aload_n 0, 1) := by decide +kernel
theorem dX5_takeNumber_37 : decode cX5_takeNumber 37 = .ok (.getfield 19, 3) := by decide +kernel
theorem dX5_takeNumber_40 : decode cX5_takeNumber 40 = .ok (.invokevirtual 138, 3) := by decide +kernel
theorem dX5_takeNumber_43 : decode cX5_takeNumber 43 = .ok (.istore_n 3, 1) := by decide +kernel
theorem dX5_takeNumber_44 : decode cX5_takeNumber 44 = .ok (.aload_n 0, 1) := by decide +kernel
theorem dX5_takeNumber_45 : decode cX5_takeNumber 45 = .ok (.getfield 19, 3) := by decide +kernel
theorem dX5_takeNumber_48 : decode cX5_takeNumber 48 = .ok (.invokevirtual 131, 3) := by decide +kernel
theorem dX5_takeNumber_51 : decode cX5_takeNumber 51 = .ok (.iload_n 3, 1) := by decide +kernel
theorem dX5_takeNumber_52 : decode cX5_takeNumber 52 = .ok (.ireturn, 1) := by decide +kernel
theorem dX5_takeSign_0 : decode cX5_takeSign 0 = .ok (.aload_n 0, 1) := by decide +kernel
theorem dX5_takeSign_1 : decode cX5_takeSign 1 = .ok (.getfield 19, 3) := by decide +kernel
theorem dX5_takeSign_4 : decode cX5_takeSign 4 = .ok (.iload_n 1, 1) := by decide +kernel
theorem dX5_takeSign_5 : decode cX5_takeSign 5 = .ok (.invokevirtual 141, 3) := by decide +kernel
theorem dX5_takeSign_8 : decode cX5_takeSign 8 = .ok (.ifCond .ne 8, 3) := by decide +kernel
theorem dX5_takeSign_11 : decode cX5_takeSign 11 = .ok (.aload_n 0, 1) := by decide +kernel
theorem dX5_takeSign_12 : decode cX5_takeSign 12 = .ok (.iconst 1, 1) := by decide +kernel
theorem dX5_takeSign_13 : decode cX5_takeSign 13 = .ok (.invokevirtual 128, 3) := by decide +kernel
theorem dX5_takeSign_16 : decode cX5_takeSign 16 = .ok (.aload_n 0, 1) := by decide +kernel
theorem dX5_takeSign_17 : decode cX5_takeSign 17 = .ok (.getfield 19, 3) := by decide +kernel
theorem dX5_takeSign_20 : decode cX5_takeSign 20 = .ok (.invokevirtual 131, 3) := by decide +kernel
theorem dX5_takeSign_23 : decode cX5_takeSign 23 = .ok (.return_, 1) := by decide +kernel
theorem dX5_takeNewSleeper_0 : decode cX5_takeNewSleeper 0 = .ok (.aload_n 0, 1) := by decide +kernel
theorem dX5_takeNewSleeper_1 : decode cX5_takeNewSleeper 1 = .ok (.getfield 35, 3) := by decide +kernel
theorem dX5_takeNewSleeper_4 : decode cX5_takeNewSleeper 4 = .ok (.getfield 145, 3) := by decide +kernel
theorem dX5_takeNewSleeper_7 : decode cX5_takeNewSleeper 7 = .ok (.bipush 7, 2) := by decide +kernel
theorem dX5_takeNewSleeper_9 : decode cX5_takeNewSleeper 9 = .ok (.if_icmp .lt 8, 3) := by decide +kernel
theorem dX5_takeNewSleeper_12 : decode cX5_takeNewSleeper 12 = .ok (.aload_n 0, 1) := by decide +kernel
theorem dX5_takeNewSleeper_13 : decode cX5_takeNewSleeper 13 = .ok (.iconst 2, 1) := by decide +kernel
theorem dX5_takeNewSleeper_14 : decode cX5_takeNewSleeper 14 = .ok (.invokevirtual 128, 3) := by decide +kernel
theorem dX5_takeNewSleeper_17 : decode cX5_takeNewSleeper 17 = .ok (.aload_n 0, 1) := by decide +kernel
theorem dX5_takeNewSleeper_18 : decode cX5_takeNewSleeper 18 = .ok (.getfield 19, 3) := by decide +kernel
theorem dX5_takeNewSleeper_21 : decode cX5_takeNewSleeper 21 = .ok (.invokevirtual 131, 3) := by decide +kernel
theorem dX5_takeNewSleeper_24 : decode cX5_takeNewSleeper 24 = .ok (.return_, 1) := by decide +kernel
theorem dX5_readPerson_0 : decode cX5_readPerson 0 = .ok (.aload_n 0, 1) := by decide +kernel
theorem dX5_readPerson_1 : decode cX5_readPerson 1 = .ok (.invokevirtual 148, 3) := by decide +kernel
theorem dX5_readPerson_4 : decode cX5_readPerson 4 = .ok (.aload_n 0, 1) := by decide +kernel
theorem dX5_readPerson_5 : decode cX5_readPerson 5 = .ok (.iconst 1, 1) := by decide +kernel
theorem dX5_readPerson_6 : decode cX5_readPerson 6 = .ok (.sipush 240, 3) := by decide +kernel
theorem dX5_readPerson_9 : decode cX5_readPerson 9 = .ok (.invokevirtual 109, 3) := by decide +kernel
theorem dX5_readPerson_12 : decode cX5_readPerson 12 = .ok (.istore_n 2, 1) := by decide +kernel
theorem dX5_readPerson_13 : decode cX5_readPerson 13 = .ok (.aload_n 0, 1) := by decide +kernel
theorem dX5_readPerson_14 : decode cX5_readPerson 14 = .ok (.iconst 1, 1) := by decide +kernel
theorem dX5_readPerson_15 : decode cX5_readPerson 15 = .ok (.sipush 240, 3) := by decide +kernel
theorem dX5_readPerson_18 : decode cX5_readPerson 18 = .ok (.invokevirtual 109, 3) := by decide +kernel
theorem dX5_readPerson_21 : decode cX5_readPerson 21 = .ok (.istore_n 3, 1) := by decide +kernel
theorem dX5_readPerson_22 : decode cX5_readPerson 22 = .ok (.aload_n 0, 1) := by decide +kernel
theorem dX5_readPerson_23 : decode cX5_readPerson 23 = .ok (.iconst 0, 1) := by decide +kernel
theorem dX5_readPerson_24 : decode cX5_readPerson 24 = .ok (.bipush 9, 2) := by decide +kernel
theorem dX5_readPerson_26 : decode cX5_readPerson 26 = .ok (.invokevirtual 109, 3) := by decide +kernel
theorem dX5_readPerson_29 : decode cX5_readPerson 29 = .ok (.istore 4, 2) := by decide +kernel
theorem dX5_readPerson_31 : decode cX5_readPerson 31 = .ok (.aload_n 0, 1) := by decide +kernel
theorem dX5_readPerson_32 : decode cX5_readPerson 32 = .ok (.iconst 1, 1) := by decide +kernel
theorem dX5_readPerson_33 : decode cX5_readPerson 33 = .ok (.bipush 9, 2) := by decide +kernel
theorem dX5_readPerson_35 : decode cX5_readPerson 35 = .ok (.invokevirtual 109, 3) := by decide +kernel
theorem dX5_readPerson_38 : decode cX5_readPerson 38 = .ok (.istore 5, 2) := by decide +kernel
theorem dX5_readPerson_40 : decode cX5_readPerson 40 = .ok (.aload_n 0, 1) := by decide +kernel
theorem dX5_readPerson_41 : decode cX5_readPerson 41 = .ok (.iconst 0, 1) := by decide +kernel
theorem dX5_readPerson_42 : decode cX5_readPerson 42 = .ok (.sipush 600, 3) := by decide +kernel
theorem dX5_readPerson_45 : decode cX5_readPerson 45 = .ok (.invokevirtual 109, 3) := by decide +kernel
theorem dX5_readPerson_48 : decode cX5_readPerson 48 = .ok (.istore 6, 2) := by decide +kernel
theorem dX5_readPerson_50 : decode cX5_readPerson 50 = .ok (.aload_n 0, 1) := by decide +kernel
theorem dX5_readPerson_51 : decode cX5_readPerson 51 = .ok (.iconst 0, 1) := by decide +kernel
theorem dX5_readPerson_52 : decode cX5_readPerson 52 = .ok (.bipush 10, 2) := by decide +kernel
theorem dX5_readPerson_54 : decode cX5_readPerson 54 = .ok (.invokevirtual 109, 3) := by decide +kernel
theorem dX5_readPerson_57 : decode cX5_readPerson 57 = .ok (.istore 7, 2) := by decide +kernel
theorem dX5_readPerson_59 : decode cX5_readPerson 59 = .ok (.aload_n 0, 1) := by decide +kernel
theorem dX5_readPerson_60 : decode cX5_readPerson 60 = .ok (.getfield 35, 3) := by decide +kernel
theorem dX5_readPerson_63 : decode cX5_readPerson 63 = .ok (.aload_n 0, 1) := by decide +kernel
theorem dX5_readPerson_64 : decode cX5_readPerson 64 = .ok (.getfield 35, 3) := by decide +kernel
theorem dX5_readPerson_67 : decode cX5_readPerson 67 = .ok (.getfield 145, 3) := by decide +kernel
theorem dX5_readPerson_70 : decode cX5_readPerson 70 = .ok (.invokevirtual 151, 3) := by decide +kernel
theorem dX5_readPerson_73 : decode cX5_readPerson 73 = .ok (.astore 8, 2) := by decide +kernel
theorem dX5_readPerson_75 : decode cX5_readPerson 75 = .ok (.aload 8, 2) := by decide +kernel
theorem dX5_readPerson_77 : decode cX5_readPerson 77 = .ok (.iload_n 1, 1) := by decide +kernel
theorem dX5_readPerson_78 : decode cX5_readPerson 78 = .ok (.iload 5, 2) := by decide +kernel
theorem dX5_readPerson_80 : decode cX5_readPerson 80 = .ok (.invokevirtual 155, 3) := by decide +kernel
theorem dX5_readPerson_83 : decode cX5_readPerson 83 = .ok (.aload 8, 2) := by decide +kernel
theorem dX5_readPerson_85 : decode cX5_readPerson 85 = .ok (.iload_n 2, 1) := by decide +kernel
theorem dX5_readPerson_86 : decode cX5_readPerson 86 = .ok (.iload_n 3, 1) := by decide +kernel
theorem dX5_readPerson_87 : decode cX5_readPerson 87 = .ok (.iload 4, 2) := by decide +kernel
theorem dX5_readPerson_89 : decode cX5_readPerson 89 = .ok (.invokevirtual 161, 3) := by decide +kernel
theorem dX5_readPerson_92 : decode cX5_readPerson 92 = .ok (.aload 8, 2) := by decide +kernel
theorem dX5_readPerson_94 : decode cX5_readPerson 94 = .ok (.iload 6, 2) := by decide +kernel
theorem dX5_readPerson_96 : decode cX5_readPerson 96 = .ok (.iload 7, 2) := by decide +kernel
theorem dX5_readPerson_98 : decode cX5_readPerson 98 = .ok (.invokevirtual 165, 3) := by decide +kernel
theorem dX5_readPerson_101 : decode cX5_readPerson 101 = .ok (.aload_n 0, 1) := by decide +kernel
theorem dX5_readPerson_102 : decode cX5_readPerson 102 = .ok (.getfield 35, 3) := by decide +kernel
theorem dX5_readPerson_105 : decode cX5_readPerson 105 = .ok (.dup, 1) := by decide +kernel
theorem dX5_readPerson_106 : decode cX5_readPerson 106 = .ok (.getfield 145, 3) := by decide +kernel
theorem dX5_readPerson_109 : decode cX5_readPerson 109 = .ok (.iconst 1, 1) := by decide +kernel
theorem dX5_readPerson_110 : decode cX5_readPerson 110 = .ok (.iadd, 1) := by decide +kernel
theorem dX5_readPerson_111 : decode cX5_readPerson 111 = .ok (.putfield 145, 3) := by decide +kernel
theorem dX5_readPerson_114 : decode cX5_readPerson 114 = .ok (.return_, 1) := by decide +kernel
theorem dX5_readDog_0 : decode cX5_readDog 0 = .ok (.aload_n 0, 1) := by decide +kernel
theorem dX5_readDog_1 : decode cX5_readDog 1 = .ok (.invokevirtual 148, 3) := by decide +kernel
theorem dX5_readDog_4 : decode cX5_readDog 4 = .ok (.aload_n 0, 1) := by decide +kernel
theorem dX5_readDog_5 : decode cX5_readDog 5 = .ok (.iconst 1, 1) := by decide +kernel
theorem dX5_readDog_6 : decode cX5_readDog 6 = .ok (.bipush 9, 2) := by decide +kernel
theorem dX5_readDog_8 : decode cX5_readDog 8 = .ok (.invokevirtual 109, 3) := by decide +kernel
theorem dX5_readDog_11 : decode cX5_readDog 11 = .ok (.istore_n 1, 1) := by decide +kernel
theorem dX5_readDog_12 : decode cX5_readDog 12 = .ok (.aload_n 0, 1) := by decide +kernel
theorem dX5_readDog_13 : decode cX5_readDog 13 = .ok (.getfield 35, 3) := by decide +kernel
theorem dX5_readDog_16 : decode cX5_readDog 16 = .ok (.aload_n 0, 1) := by decide +kernel
theorem dX5_readDog_17 : decode cX5_readDog 17 = .ok (.getfield 35, 3) := by decide +kernel
theorem dX5_readDog_20 : decode cX5_readDog 20 = .ok (.getfield 145, 3) := by decide +kernel
theorem dX5_readDog_23 : decode cX5_readDog 23 = .ok (.invokevirtual 151, 3) := by decide +kernel
theorem dX5_readDog_26 : decode cX5_readDog 26 = .ok (.iconst 3, 1) := by decide +kernel
theorem dX5_readDog_27 : decode cX5_readDog 27 = .ok (.iload_n 1, 1) := by decide +kernel
theorem dX5_readDog_28 : decode cX5_readDog 28 = .ok (.invokevirtual 155, 3) := by decide +kernel
theorem dX5_readDog_31 : decode cX5_readDog 31 = .ok (.aload_n 0, 1) := by decide +kernel
theorem dX5_readDog_32 : decode cX5_readDog 32 = .ok (.getfield 35, 3) := by decide +kernel
theorem dX5_readDog_35 : decode cX5_readDog 35 = .ok (.dup, 1) := by decide +kernel
theorem dX5_readDog_36 : decode cX5_readDog 36 = .ok (.getfield 145, 3) := by decide +kernel
theorem dX5_readDog_39 : decode cX5_readDog 39 = .ok (.iconst 1, 1) := by decide +kernel
theorem dX5_readDog_40 : decode cX5_readDog 40 = .ok (.iadd, 1) := by decide +kernel
theorem dX5_readDog_41 : decode cX5_readDog 41 = .ok (.putfield 145, 3) := by decide +kernel
theorem dX5_readDog_44 : decode cX5_readDog 44 = .ok (.return_, 1) := by decide +kernel
theorem dX5_readBolster_0 : decode cX5_readBolster 0 = .ok (.aload_n 0, 1) := by decide +kernel
theorem dX5_readBolster_1 : decode cX5_readBolster 1 = .ok (.getfield 19, 3) := by decide +kernel
theorem dX5_readBolster_4 : decode cX5_readBolster 4 = .ok (.invokevirtual 131, 3) := by decide +kernel
theorem dX5_readBolster_7 : decode cX5_readBolster 7 = .ok (.aload_n 0, 1) := by decide +kernel
theorem dX5_readBolster_8 : decode cX5_readBolster 8 = .ok (.getfield 19, 3) := by decide +kernel
theorem dX5_readBolster_11 : decode cX5_readBolster 11 = .ok (.iconst 1, 1) := by decide +kernel
theorem dX5_readBolster_12 : decode cX5_readBolster 12 = .ok (.bipush 6, 2) := by decide +kernel
theorem dX5_readBolster_14 : decode cX5_readBolster 14 = .ok (.invokevirtual 134, 3) := by decide +kernel
theorem dX5_readBolster_17 : decode cX5_readBolster 17 = .ok (.istore_n 1, 1) := by decide +kernel
theorem dX5_readBolster_18 : decode cX5_readBolster 18 = .ok (.iload_n 1, 1) := by decide +kernel
theorem dX5_readBolster_19 : decode cX5_readBolster 19 = .ok (.ifCond .eq 29, 3) := by decide +kernel
theorem dX5_readBolster_22 : decode cX5_readBolster 22 = .ok (.aload_n 0, 1) := by decide +kernel
theorem dX5_readBolster_23 : decode cX5_readBolster 23 = .ok (.getfield 35, 3) := by decide +kernel
theorem dX5_readBolster_26 : decode cX5_readBolster 26 = .ok (.getfield 168, 3) := by decide +kernel
theorem dX5_readBolster_29 : decode cX5_readBolster 29 = .ok (.aload_n 0, 1) := by decide +kernel
theorem dX5_readBolster_30 : decode cX5_readBolster 30 = .ok (.getfield 19, 3) := by decide +kernel
theorem dX5_readBolster_33 : decode cX5_readBolster 33 = .ok (.invokevirtual 138, 3) := by decide +kernel
theorem dX5_readBolster_36 : decode cX5_readBolster 36 = .ok (.ishr, 1) := by decide +kernel
theorem dX5_readBolster_37 : decode cX5_readBolster 37 = .ok (.iconst 1, 1) := by decide +kernel
theorem dX5_readBolster_38 : decode cX5_readBolster 38 = .ok (.iand, 1) := by decide +kernel
theorem dX5_readBolster_39 : decode cX5_readBolster 39 = .ok (.iconst 1, 1) := by decide +kernel
theorem dX5_readBolster_40 : decode cX5_readBolster 40 = .ok (.if_icmp .ne 8, 3) := by decide +kernel
theorem dX5_readBolster_43 : decode cX5_readBolster 43 = .ok (.aload_n 0, 1) := by decide +kernel
theorem dX5_readBolster_44 : decode cX5_readBolster 44 = .ok (.iconst 5, 1) := by decide +kernel
theorem dX5_readBolster_45 : decode cX5_readBolster 45 = .ok (.invokevirtual 128, 3) := by decide +kernel
theorem dX5_readBolster_48 : decode cX5_readBolster 48 = .ok (.aload_n 0, 1) := by decide +kernel
theorem dX5_readBolster_49 : decode cX5_readBolster 49 = .ok (.getfield 35, 3) := by decide +kernel
theorem dX5_readBolster_52 : decode cX5_readBolster 52 = .ok (.dup, 1) := by decide +kernel
theorem dX5_readBolster_53 : decode cX5_readBolster 53 = .ok (.getfield 168, 3) := by decide +kernel
theorem dX5_readBolster_56 : decode cX5_readBolster 56 = .ok (.iconst 1, 1) := by decide +kernel
theorem dX5_readBolster_57 : decode cX5_readBolster 57 = .ok (.aload_n 0, 1) := by decide +kernel
theorem dX5_readBolster_58 : decode cX5_readBolster 58 = .ok (.iconst 1, 1) := by decide +kernel
theorem dX5_readBolster_59 : decode cX5_readBolster 59 = .ok (.bipush 6, 2) := by decide +kernel
theorem dX5_readBolster_61 : decode cX5_readBolster 61 = .ok (.invokevirtual 109, 3) := by decide +kernel
theorem dX5_readBolster_64 : decode cX5_readBolster 64 = .ok (.ishl, 1) := by decide +kernel
theorem dX5_readBolster_65 : decode cX5_readBolster 65 = .ok (.ior, 1) := by decide +kernel
theorem dX5_readBolster_66 : decode cX5_readBolster 66 = .ok (.putfield 168, 3) := by decide +kernel
theorem dX5_readBolster_69 : decode cX5_readBolster 69 = .ok (.return_, 1) := by decide +kernel
theorem dX5_refuseUntold_0 : decode cX5_refuseUntold 0 = .ok (.aload_n 0, 1) := by decide +kernel
theorem dX5_refuseUntold_1 : decode cX5_refuseUntold 1 = .ok (.getfield 19, 3) := by decide +kernel
theorem dX5_refuseUntold_4 : decode cX5_refuseUntold 4 = .ok (.aload_n 0, 1) := by decide +kernel
theorem dX5_refuseUntold_5 : decode cX5_refuseUntold 5 = .ok (.getfield 35, 3) := by decide +kernel
theorem dX5_refuseUntold_8 : decode cX5_refuseUntold 8 = .ok (.getfield 145, 3) := by decide +kernel
theorem dX5_refuseUntold_11 : decode cX5_refuseUntold 11 = .ok (.sipush 9999, 3) := by decide +kernel
theorem dX5_refuseUntold_14 : decode cX5_refuseUntold 14 = .ok (.invokevirtual 134, 3) := by decide +kernel
theorem dX5_refuseUntold_17 : decode cX5_refuseUntold 17 = .ok (.ifCond .eq 8, 3) := by decide +kernel
theorem dX5_refuseUntold_20 : decode cX5_refuseUntold 20 = .ok (.aload_n 0, 1) := by decide +kernel
theorem dX5_refuseUntold_21 : decode cX5_refuseUntold 21 = .ok (.iconst 3, 1) := by decide +kernel
theorem dX5_refuseUntold_22 : decode cX5_refuseUntold 22 = .ok (.invokevirtual 128, 3) := by decide +kernel
theorem dX5_refuseUntold_25 : decode cX5_refuseUntold 25 = .ok (.return_, 1) := by decide +kernel
theorem dX5_readNever_0 : decode cX5_readNever 0 = .ok (.aload_n 0, 1) := by decide +kernel
theorem dX5_readNever_1 : decode cX5_readNever 1 = .ok (.getfield 35, 3) := by decide +kernel
theorem dX5_readNever_4 : decode cX5_readNever 4 = .ok (.getfield 171, 3) := by decide +kernel
theorem dX5_readNever_7 : decode cX5_readNever 7 = .ok (.bipush 6, 2) := by decide +kernel
theorem dX5_readNever_9 : decode cX5_readNever 9 = .ok (.if_icmp .lt 8, 3) := by decide +kernel
theorem dX5_readNever_12 : decode cX5_readNever 12 = .ok (.aload_n 0, 1) := by decide +kernel
theorem dX5_readNever_13 : decode cX5_readNever 13 = .ok (.iconst 2, 1) := by decide +kernel
theorem dX5_readNever_14 : decode cX5_readNever 14 = .ok (.invokevirtual 128, 3) := by decide +kernel
theorem dX5_readNever_17 : decode cX5_readNever 17 = .ok (.aload_n 0, 1) := by decide +kernel
theorem dX5_readNever_18 : decode cX5_readNever 18 = .ok (.getfield 19, 3) := by decide +kernel
theorem dX5_readNever_21 : decode cX5_readNever 21 = .ok (.invokevirtual 131, 3) := by decide +kernel
theorem dX5_readNever_24 : decode cX5_readNever 24 = .ok (.aload_n 0, 1) := by decide +kernel
theorem dX5_readNever_25 : decode cX5_readNever 25 = .ok (.invokevirtual 174, 3) := by decide +kernel
theorem dX5_readNever_28 : decode cX5_readNever 28 = .ok (.aload_n 0, 1) := by decide +kernel
theorem dX5_readNever_29 : decode cX5_readNever 29 = .ok (.iconst 0, 1) := by decide +kernel
theorem dX5_readNever_30 : decode cX5_readNever 30 = .ok (.sipush 9999, 3) := by decide +kernel
theorem dX5_readNever_33 : decode cX5_readNever 33 = .ok (.invokevirtual 109, 3) := by decide +kernel
theorem dX5_readNever_36 : decode cX5_readNever 36 = .ok (.istore_n 1, 1) := by decide +kernel
theorem dX5_readNever_37 : decode cX5_readNever 37 = .ok (.aload_n 0, 1) := by decide +kernel
theorem dX5_readNever_38 : decode cX5_readNever 38 = .ok (.invokevirtual 174, 3) := by decide +kernel
theorem dX5_readNever_41 : decode cX5_readNever 41 = .ok (.aload_n 0, 1) := by decide +kernel
theorem dX5_readNever_42 : decode cX5_readNever 42 = .ok (.getfield 19, 3) := by decide +kernel
theorem dX5_readNever_45 : decode cX5_readNever 45 = .ok (.iconst 0, 1) := by decide +kernel
theorem dX5_readNever_46 : decode cX5_readNever 46 = .ok (.aload_n 0, 1) := by decide +kernel
theorem dX5_readNever_47 : decode cX5_readNever 47 = .ok (.getfield 35, 3) := by decide +kernel
theorem dX5_readNever_50 : decode cX5_readNever 50 = .ok (.getfield 145, 3) := by decide +kernel
theorem dX5_readNever_53 : decode cX5_readNever 53 = .ok (.iconst 1, 1) := by decide +kernel
theorem dX5_readNever_54 : decode cX5_readNever 54 = .ok (.isub, 1) := by decide +kernel
theorem dX5_readNever_55 : decode cX5_readNever 55 = .ok (.invokevirtual 134, 3) := by decide +kernel
theorem dX5_readNever_58 : decode cX5_readNever 58 = .ok (.istore_n 2, 1) := by decide +kernel
theorem dX5_readNever_59 : decode cX5_readNever 59 = .ok (.iload_n 2, 1) := by decide +kernel
theorem dX5_readNever_60 : decode cX5_readNever 60 = .ok (.ifCond .eq 37, 3) := by decide +kernel
theorem dX5_readNever_63 : decode cX5_readNever 63 = .ok (.aload_n 0, 1) := by decide +kernel
theorem dX5_readNever_64 : decode cX5_readNever 64 = .ok (.getfield 19, 3) := by decide +kernel
theorem dX5_readNever_67 : decode cX5_readNever 67 = .ok (.invokevirtual 138, 3) := by decide +kernel
theorem dX5_readNever_70 : decode cX5_readNever 70 = .ok (.iload_n 1, 1) := by decide +kernel
theorem dX5_readNever_71 : decode cX5_readNever 71 = .ok (.if_icmp .eq 21, 3) := by decide +kernel
theorem dX5_readNever_74 : decode cX5_readNever 74 = .ok (.aload_n 0, 1) := by decide +kernel
theorem dX5_readNever_75 : decode cX5_readNever 75 = .ok (.getfield 35, 3) := by decide +kernel
theorem dX5_readNever_78 : decode cX5_readNever 78 = .ok (.iload_n 1, 1) := by decide +kernel
theorem dX5_readNever_79 : decode cX5_readNever 79 = .ok (.aload_n 0, 1) := by decide +kernel
theorem dX5_readNever_80 : decode cX5_readNever 80 = .ok (.getfield 19, 3) := by decide +kernel
theorem dX5_readNever_83 : decode cX5_readNever 83 = .ok (.invokevirtual 138, 3) := by decide +kernel
theorem dX5_readNever_86 : decode cX5_readNever 86 = .ok (.invokevirtual 177, 3) := by decide +kernel
theorem dX5_readNever_89 : decode cX5_readNever 89 = .ok (.ifCond .eq 8, 3) := by decide +kernel
theorem dX5_readNever_92 : decode cX5_readNever 92 = .ok (.aload_n 0, 1) := by decide +kernel
theorem dX5_readNever_93 : decode cX5_readNever 93 = .ok (.iconst 4, 1) := by decide +kernel
theorem dX5_readNever_94 : decode cX5_readNever 94 = .ok (.invokevirtual 128, 3) := by decide +kernel
theorem dX5_readNever_97 : decode cX5_readNever 97 = .ok (.aload_n 0, 1) := by decide +kernel
theorem dX5_readNever_98 : decode cX5_readNever 98 = .ok (.getfield 35, 3) := by decide +kernel
theorem dX5_readNever_101 : decode cX5_readNever 101 = .ok (.iload_n 1, 1) := by decide +kernel
theorem dX5_readNever_102 : decode cX5_readNever 102 = .ok (.aload_n 0, 1) := by decide +kernel
theorem dX5_readNever_103 : decode cX5_readNever 103 = .ok (.iconst 0, 1) := by decide +kernel
theorem dX5_readNever_104 : decode cX5_readNever 104 = .ok (.sipush 9999, 3) := by decide +kernel
theorem dX5_readNever_107 : decode cX5_readNever 107 = .ok (.invokevirtual 109, 3) := by decide +kernel
theorem dX5_readNever_110 : decode cX5_readNever 110 = .ok (.invokevirtual 180, 3) := by decide +kernel
theorem dX5_readNever_113 : decode cX5_readNever 113 = .ok (.return_, 1) := by decide +kernel
theorem dX5_readExpr_0 : decode cX5_readExpr 0 = .ok (.iload_n 1, 1) := by decide +kernel
theorem dX5_readExpr_1 : decode cX5_readExpr 1 = .ok (.bipush 6, 2) := by decide +kernel
theorem dX5_readExpr_3 : decode cX5_readExpr 3 = .ok (.if_icmp .lt 20, 3) := by decide +kernel
theorem dX5_readExpr_6 : decode cX5_readExpr 6 = .ok (.aload_n 0, 1) := by decide +kernel
theorem dX5_readExpr_7 : decode cX5_readExpr 7 = .ok (.aload_n 0, 1) := by decide +kernel
theorem dX5_readExpr_8 : decode cX5_readExpr 8 = .ok (.invokevirtual 183, 3) := by decide +kernel
theorem dX5_readExpr_11 : decode cX5_readExpr 11 = .ok (.ifCond .eq 7, 3) := by decide +kernel
theorem dX5_readExpr_14 : decode cX5_readExpr 14 = .ok (.iconst 2, 1) := by decide +kernel
theorem dX5_readExpr_15 : decode cX5_readExpr 15 = .ok (.goto 4, 3) := by decide +kernel
theorem dX5_readExpr_18 : decode cX5_readExpr 18 = .ok (.iconst 1, 1) := by decide +kernel
theorem dX5_readExpr_19 : decode cX5_readExpr 19 = .ok (.invokevirtual 128, 3) := by decide +kernel
theorem dX5_readExpr_22 : decode cX5_readExpr 22 = .ok (.return_, 1) := by decide +kernel
theorem dX5_readExpr_23 : decode cX5_readExpr 23 = .ok (.aload_n 0, 1) := by decide +kernel
theorem dX5_readExpr_24 : decode cX5_readExpr 24 = .ok (.iload_n 1, 1) := by decide +kernel
theorem dX5_readExpr_25 : decode cX5_readExpr 25 = .ok (.invokevirtual 187, 3) := by decide +kernel
theorem dX5_readExpr_28 : decode cX5_readExpr 28 = .ok (.iconst 0, 1) := by decide +kernel
theorem dX5_readExpr_29 : decode cX5_readExpr 29 = .ok (.istore_n 2, 1) := by decide +kernel
theorem dX5_readExpr_30 : decode cX5_readExpr 30 = .ok (.iload_n 2, 1) := by decide +kernel
theorem dX5_readExpr_31 : decode cX5_readExpr 31 = .ok (.sipush 600, 3) := by decide +kernel
theorem dX5_readExpr_34 : decode cX5_readExpr 34 = .ok (.if_icmp .ge 45, 3) := by decide +kernel
theorem dX5_readExpr_37 : decode cX5_readExpr 37 = .ok (.aload_n 0, 1) := by decide +kernel
theorem dX5_readExpr_38 : decode cX5_readExpr 38 = .ok (.getfield 19, 3) := by decide +kernel
theorem dX5_readExpr_41 : decode cX5_readExpr 41 = .ok (.ldc 190, 2) := by decide +kernel
theorem dX5_readExpr_43 : decode cX5_readExpr 43 = .ok (.invokevirtual 72, 3) := by decide +kernel
theorem dX5_readExpr_46 : decode cX5_readExpr 46 = .ok (.ifCond .eq 33, 3) := by decide +kernel
theorem dX5_readExpr_49 : decode cX5_readExpr 49 = .ok (.aload_n 0, 1) := by decide +kernel
theorem dX5_readExpr_50 : decode cX5_readExpr 50 = .ok (.getfield 19, 3) := by decide +kernel
theorem dX5_readExpr_53 : decode cX5_readExpr 53 = .ok (.invokevirtual 131, 3) := by decide +kernel
theorem dX5_readExpr_56 : decode cX5_readExpr 56 = .ok (.aload_n 0, 1) := by decide +kernel
theorem dX5_readExpr_57 : decode cX5_readExpr 57 = .ok (.iload_n 1, 1) := by decide +kernel
theorem dX5_readExpr_58 : decode cX5_readExpr 58 = .ok (.invokevirtual 187, 3) := by decide +kernel
theorem dX5_readExpr_61 : decode cX5_readExpr 61 = .ok (.aload_n 0, 1) := by decide +kernel
theorem dX5_readExpr_62 : decode cX5_readExpr 62 = .ok (.getfield 35, 3) := by decide +kernel
theorem dX5_readExpr_65 : decode cX5_readExpr 65 = .ok (.getfield 192, 3) := by decide +kernel
theorem dX5_readExpr_68 : decode cX5_readExpr 68 = .ok (.bipush (-8), 2) := by decide +kernel
theorem dX5_readExpr_70 : decode cX5_readExpr 70 = .ok (.invokevirtual 198, 3) := by decide +kernel
theorem dX5_readExpr_73 : decode cX5_readExpr 73 = .ok (.iinc 2 1, 3) := by decide +kernel
theorem dX5_readExpr_76 : decode cX5_readExpr 76 = .ok (.goto (-46), 3) := by decide +kernel
theorem dX5_readExpr_79 : decode cX5_readExpr 79 = .ok (.return_, 1) := by decide +kernel
theorem dX5_canBeginPart_0 : decode cX5_canBeginPart 0 = .ok (.aload_n 0, 1) := by decide +kernel
theorem dX5_canBeginPart_1 : decode cX5_canBeginPart 1 = .ok (.getfield 19, 3) := by decide +kernel
theorem dX5_canBeginPart_4 : decode cX5_canBeginPart 4 = .ok (.getfield 48, 3) := by decide +kernel
theorem dX5_canBeginPart_7 : decode cX5_canBeginPart 7 = .ok (.iconst 2, 1) := by decide +kernel
theorem dX5_canBeginPart_8 : decode cX5_canBeginPart 8 = .ok (.if_icmp .eq 26, 3) := by decide +kernel
theorem dX5_canBeginPart_11 : decode cX5_canBeginPart 11 = .ok (.aload_n 0, 1) := by decide +kernel
theorem dX5_canBeginPart_12 : decode cX5_canBeginPart 12 = .ok (.getfield 19, 3) := by decide +kernel
theorem dX5_canBeginPart_15 : decode cX5_canBeginPart 15 = .ok (.getfield 48, 3) := by decide +kernel
theorem dX5_canBeginPart_18 : decode cX5_canBeginPart 18 = .ok (.iconst 1, 1) := by decide +kernel
theorem dX5_canBeginPart_19 : decode cX5_canBeginPart 19 = .ok (.if_icmp .eq 15, 3) := by decide +kernel
theorem dX5_canBeginPart_22 : decode cX5_canBeginPart 22 = .ok (.aload_n 0, 1) := by decide +kernel
theorem dX5_canBeginPart_23 : decode cX5_canBeginPart 23 = .ok (.getfield 19, 3) := by decide +kernel
theorem dX5_canBeginPart_26 : decode cX5_canBeginPart 26 = .ok (.bipush 40, 2) := by decide +kernel
theorem dX5_canBeginPart_28 : decode cX5_canBeginPart 28 = .ok (.invokevirtual 141, 3) := by decide +kernel
theorem dX5_canBeginPart_31 : decode cX5_canBeginPart 31 = .ok (.ifCond .eq 7, 3) := by decide +kernel
theorem dX5_canBeginPart_34 : decode cX5_canBeginPart 34 = .ok (.iconst 1, 1) := by decide +kernel
theorem dX5_canBeginPart_35 : decode cX5_canBeginPart 35 = .ok (.goto 4, 3) := by decide +kernel
theorem dX5_canBeginPart_38 : decode cX5_canBeginPart 38 = .ok (.iconst 0, 1) := by decide +kernel
theorem dX5_canBeginPart_39 : decode cX5_canBeginPart 39 = .ok (.ireturn, 1) := by decide +kernel
theorem dX5_readAnd_0 : decode cX5_readAnd 0 = .ok (.aload_n 0, 1) := by decide +kernel
theorem dX5_readAnd_1 : decode cX5_readAnd 1 = .ok (.iload_n 1, 1) := by decide +kernel
theorem dX5_readAnd_2 : decode cX5_readAnd 2 = .ok (.invokevirtual 201, 3) := by decide +kernel
theorem dX5_readAnd_5 : decode cX5_readAnd 5 = .ok (.iconst 0, 1) := by decide +kernel
theorem dX5_readAnd_6 : decode cX5_readAnd 6 = .ok (.istore_n 2, 1) := by decide +kernel
theorem dX5_readAnd_7 : decode cX5_readAnd 7 = .ok (.iload_n 2, 1) := by decide +kernel
theorem dX5_readAnd_8 : decode cX5_readAnd 8 = .ok (.sipush 600, 3) := by decide +kernel
theorem dX5_readAnd_11 : decode cX5_readAnd 11 = .ok (.if_icmp .ge 45, 3) := by decide +kernel
theorem dX5_readAnd_14 : decode cX5_readAnd 14 = .ok (.aload_n 0, 1) := by decide +kernel
theorem dX5_readAnd_15 : decode cX5_readAnd 15 = .ok (.getfield 19, 3) := by decide +kernel
theorem dX5_readAnd_18 : decode cX5_readAnd 18 = .ok (.ldc 204, 2) := by decide +kernel
theorem dX5_readAnd_20 : decode cX5_readAnd 20 = .ok (.invokevirtual 72, 3) := by decide +kernel
theorem dX5_readAnd_23 : decode cX5_readAnd 23 = .ok (.ifCond .eq 33, 3) := by decide +kernel
theorem dX5_readAnd_26 : decode cX5_readAnd 26 = .ok (.aload_n 0, 1) := by decide +kernel
theorem dX5_readAnd_27 : decode cX5_readAnd 27 = .ok (.getfield 19, 3) := by decide +kernel
theorem dX5_readAnd_30 : decode cX5_readAnd 30 = .ok (.invokevirtual 131, 3) := by decide +kernel
theorem dX5_readAnd_33 : decode cX5_readAnd 33 = .ok (.aload_n 0, 1) := by decide +kernel
theorem dX5_readAnd_34 : decode cX5_readAnd 34 = .ok (.iload_n 1, 1) := by decide +kernel
theorem dX5_readAnd_35 : decode cX5_readAnd 35 = .ok (.invokevirtual 201, 3) := by decide +kernel
theorem dX5_readAnd_38 : decode cX5_readAnd 38 = .ok (.aload_n 0, 1) := by decide +kernel
theorem dX5_readAnd_39 : decode cX5_readAnd 39 = .ok (.getfield 35, 3) := by decide +kernel
theorem dX5_readAnd_42 : decode cX5_readAnd 42 = .ok (.getfield 192, 3) := by decide +kernel
theorem dX5_readAnd_45 : decode cX5_readAnd 45 = .ok (.bipush (-9), 2) := by decide +kernel
theorem dX5_readAnd_47 : decode cX5_readAnd 47 = .ok (.invokevirtual 198, 3) := by decide +kernel
theorem dX5_readAnd_50 : decode cX5_readAnd 50 = .ok (.iinc 2 1, 3) := by decide +kernel
theorem dX5_readAnd_53 : decode cX5_readAnd 53 = .ok (.goto (-46), 3) := by decide +kernel
theorem dX5_readAnd_56 : decode cX5_readAnd 56 = .ok (.return_, 1) := by decide +kernel
theorem dX5_readNot_0 : decode cX5_readNot 0 = .ok (.iconst 0, 1) := by decide +kernel
theorem dX5_readNot_1 : decode cX5_readNot 1 = .ok (.istore_n 2, 1) := by decide +kernel
theorem dX5_readNot_2 : decode cX5_readNot 2 = .ok (.iload_n 2, 1) := by decide +kernel
theorem dX5_readNot_3 : decode cX5_readNot 3 = .ok (.bipush 6, 2) := by decide +kernel
theorem dX5_readNot_5 : decode cX5_readNot 5 = .ok (.if_icmp .ge 28, 3) := by decide +kernel
theorem dX5_readNot_8 : decode cX5_readNot 8 = .ok (.aload_n 0, 1) := by decide +kernel
theorem dX5_readNot_9 : decode cX5_readNot 9 = .ok (.getfield 19, 3) := by decide +kernel
theorem dX5_readNot_12 : decode cX5_readNot 12 = .ok (.ldc 206, 2) := by decide +kernel
theorem dX5_readNot_14 : decode cX5_readNot 14 = .ok (.invokevirtual 72, 3) := by decide +kernel
theorem dX5_readNot_17 : decode cX5_readNot 17 = .ok (.ifCond .eq 16, 3) := by decide +kernel
theorem dX5_readNot_20 : decode cX5_readNot 20 = .ok (.aload_n 0, 1) := by decide +kernel
theorem dX5_readNot_21 : decode cX5_readNot 21 = .ok (.getfield 19, 3) := by decide +kernel
theorem dX5_readNot_24 : decode cX5_readNot 24 = .ok (.invokevirtual 131, 3) := by decide +kernel
theorem dX5_readNot_27 : decode cX5_readNot 27 = .ok (.iinc 2 1, 3) := by decide +kernel
theorem dX5_readNot_30 : decode cX5_readNot 30 = .ok (.goto (-28), 3) := by decide +kernel
theorem dX5_readNot_33 : decode cX5_readNot 33 = .ok (.aload_n 0, 1) := by decide +kernel
theorem dX5_readNot_34 : decode cX5_readNot 34 = .ok (.getfield 19, 3) := by decide +kernel
theorem dX5_readNot_37 : decode cX5_readNot 37 = .ok (.ldc 206, 2) := by decide +kernel
theorem dX5_readNot_39 : decode cX5_readNot 39 = .ok (.invokevirtual 72, 3) := by decide +kernel
theorem dX5_readNot_42 : decode cX5_readNot 42 = .ok (.ifCond .eq 8, 3) := by decide +kernel
theorem dX5_readNot_45 : decode cX5_readNot 45 = .ok (.aload_n 0, 1) := by decide +kernel
theorem dX5_readNot_46 : decode cX5_readNot 46 = .ok (.iconst 2, 1) := by decide +kernel
theorem dX5_readNot_47 : decode cX5_readNot 47 = .ok (.invokevirtual 128, 3) := by decide +kernel
theorem dX5_readNot_50 : decode cX5_readNot 50 = .ok (.aload_n 0, 1) := by decide +kernel
theorem dX5_readNot_51 : decode cX5_readNot 51 = .ok (.iload_n 1, 1) := by decide +kernel
theorem dX5_readNot_52 : decode cX5_readNot 52 = .ok (.invokevirtual 208, 3) := by decide +kernel
theorem dX5_readNot_55 : decode cX5_readNot 55 = .ok (.iconst 0, 1) := by decide +kernel
theorem dX5_readNot_56 : decode cX5_readNot 56 = .ok (.istore_n 3, 1) := by decide +kernel
theorem dX5_readNot_57 : decode cX5_readNot 57 = .ok (.iload_n 3, 1) := by decide +kernel
theorem dX5_readNot_58 : decode cX5_readNot 58 = .ok (.iload_n 2, 1) := by decide +kernel
theorem dX5_readNot_59 : decode cX5_readNot 59 = .ok (.if_icmp .ge 21, 3) := by decide +kernel
theorem dX5_readNot_62 : decode cX5_readNot 62 = .ok (.aload_n 0, 1) := by decide +kernel
theorem dX5_readNot_63 : decode cX5_readNot 63 = .ok (.getfield 35, 3) := by decide +kernel
theorem dX5_readNot_66 : decode cX5_readNot 66 = .ok (.getfield 192, 3) := by decide +kernel
theorem dX5_readNot_69 : decode cX5_readNot 69 = .ok (.bipush (-10), 2) := by decide +kernel
theorem dX5_readNot_71 : decode cX5_readNot 71 = .ok (.invokevirtual 198, 3) := by decide +kernel
theorem dX5_readNot_74 : decode cX5_readNot 74 = .ok (.iinc 3 1, 3) := by decide +kernel
theorem dX5_readNot_77 : decode cX5_readNot 77 = .ok (.goto (-20), 3) := by decide +kernel
theorem dX5_readNot_80 : decode cX5_readNot 80 = .ok (.return_, 1) := by decide +kernel
theorem dX5_readTest_0 : decode cX5_readTest 0 = .ok (.aload_n 0, 1) := by decide +kernel
theorem dX5_readTest_1 : decode cX5_readTest 1 = .ok (.iload_n 1, 1) := by decide +kernel
theorem dX5_readTest_2 : decode cX5_readTest 2 = .ok (.invokevirtual 211, 3) := by decide +kernel
theorem dX5_readTest_5 : decode cX5_readTest 5 = .ok (.aload_n 0, 1) := by decide +kernel
theorem dX5_readTest_6 : decode cX5_readTest 6 = .ok (.getfield 19, 3) := by decide +kernel
theorem dX5_readTest_9 : decode cX5_readTest 9 = .ok (.bipush 60, 2) := by decide +kernel
theorem dX5_readTest_11 : decode cX5_readTest 11 = .ok (.invokevirtual 141, 3) := by decide +kernel
theorem dX5_readTest_14 : decode cX5_readTest 14 = .ok (.ifCond .ne 15, 3) := by decide +kernel
theorem dX5_readTest_17 : decode cX5_readTest 17 = .ok (.aload_n 0, 1) := by decide +kernel
theorem dX5_readTest_18 : decode cX5_readTest 18 = .ok (.getfield 19, 3) := by decide +kernel
theorem dX5_readTest_21 : decode cX5_readTest 21 = .ok (.bipush 61, 2) := by decide +kernel
theorem dX5_readTest_23 : decode cX5_readTest 23 = .ok (.invokevirtual 141, 3) := by decide +kernel
theorem dX5_readTest_26 : decode cX5_readTest 26 = .ok (.ifCond .eq 46, 3) := by decide +kernel
theorem dX5_readTest_29 : decode cX5_readTest 29 = .ok (.aload_n 0, 1) := by decide +kernel
theorem dX5_readTest_30 : decode cX5_readTest 30 = .ok (.getfield 19, 3) := by decide +kernel
theorem dX5_readTest_33 : decode cX5_readTest 33 = .ok (.bipush 60, 2) := by decide +kernel
theorem dX5_readTest_35 : decode cX5_readTest 35 = .ok (.invokevirtual 141, 3) := by decide +kernel
theorem dX5_readTest_38 : decode cX5_readTest 38 = .ok (.ifCond .eq 8, 3) := by decide +kernel
theorem dX5_readTest_41 : decode cX5_readTest 41 = .ok (.bipush (-11), 2) := by decide +kernel
theorem dX5_readTest_43 : decode cX5_readTest 43 = .ok (.goto 5, 3) := by decide +kernel
theorem dX5_readTest_46 : decode cX5_readTest 46 = .ok (.bipush (-12), 2) := by decide +kernel
theorem dX5_readTest_48 : decode cX5_readTest 48 = .ok (.istore_n 2, 1) := by decide +kernel
theorem dX5_readTest_49 : decode cX5_readTest 49 = .ok (.aload_n 0, 1) := by decide +kernel
theorem dX5_readTest_50 : decode cX5_readTest 50 = .ok (.getfield 19, 3) := by decide +kernel
theorem dX5_readTest_53 : decode cX5_readTest 53 = .ok (.invokevirtual 131, 3) := by decide +kernel
theorem dX5_readTest_56 : decode cX5_readTest 56 = .ok (.aload_n 0, 1) := by decide +kernel
theorem dX5_readTest_57 : decode cX5_readTest 57 = .ok (.iload_n 1, 1) := by decide +kernel
theorem dX5_readTest_58 : decode cX5_readTest 58 = .ok (.invokevirtual 211, 3) := by decide +kernel
theorem dX5_readTest_61 : decode cX5_readTest 61 = .ok (.aload_n 0, 1) := by decide +kernel
theorem dX5_readTest_62 : decode cX5_readTest 62 = .ok (.getfield 35, 3) := by decide +kernel
theorem dX5_readTest_65 : decode cX5_readTest 65 = .ok (.getfield 192, 3) := by decide +kernel
theorem dX5_readTest_68 : decode cX5_readTest 68 = .ok (.iload_n 2, 1) := by decide +kernel
theorem dX5_readTest_69 : decode cX5_readTest 69 = .ok (.invokevirtual 198, 3) := by decide +kernel
theorem dX5_readTest_72 : decode cX5_readTest 72 = .ok (.return_, 1) := by decide +kernel
theorem dX5_readSum_0 : decode cX5_readSum 0 = .ok (.aload_n 0, 1) := by decide +kernel
theorem dX5_readSum_1 : decode cX5_readSum 1 = .ok (.iload_n 1, 1) := by decide +kernel
theorem dX5_readSum_2 : decode cX5_readSum 2 = .ok (.invokevirtual 214, 3) := by decide +kernel
theorem dX5_readSum_5 : decode cX5_readSum 5 = .ok (.iconst 0, 1) := by decide +kernel
theorem dX5_readSum_6 : decode cX5_readSum 6 = .ok (.istore_n 2, 1) := by decide +kernel
theorem dX5_readSum_7 : decode cX5_readSum 7 = .ok (.iload_n 2, 1) := by decide +kernel
theorem dX5_readSum_8 : decode cX5_readSum 8 = .ok (.sipush 600, 3) := by decide +kernel
theorem dX5_readSum_11 : decode cX5_readSum 11 = .ok (.if_icmp .ge 76, 3) := by decide +kernel
theorem dX5_readSum_14 : decode cX5_readSum 14 = .ok (.aload_n 0, 1) := by decide +kernel
theorem dX5_readSum_15 : decode cX5_readSum 15 = .ok (.getfield 19, 3) := by decide +kernel
theorem dX5_readSum_18 : decode cX5_readSum 18 = .ok (.bipush 43, 2) := by decide +kernel
theorem dX5_readSum_20 : decode cX5_readSum 20 = .ok (.invokevirtual 141, 3) := by decide +kernel
theorem dX5_readSum_23 : decode cX5_readSum 23 = .ok (.ifCond .ne 15, 3) := by decide +kernel
theorem dX5_readSum_26 : decode cX5_readSum 26 = .ok (.aload_n 0, 1) := by decide +kernel
theorem dX5_readSum_27 : decode cX5_readSum 27 = .ok (.getfield 19, 3) := by decide +kernel
theorem dX5_readSum_30 : decode cX5_readSum 30 = .ok (.bipush 45, 2) := by decide +kernel
theorem dX5_readSum_32 : decode cX5_readSum 32 = .ok (.invokevirtual 141, 3) := by decide +kernel
theorem dX5_readSum_35 : decode cX5_readSum 35 = .ok (.ifCond .eq 52, 3) := by decide +kernel
theorem dX5_readSum_38 : decode cX5_readSum 38 = .ok (.aload_n 0, 1) := by decide +kernel
theorem dX5_readSum_39 : decode cX5_readSum 39 = .ok (.getfield 19, 3) := by decide +kernel
theorem dX5_readSum_42 : decode cX5_readSum 42 = .ok (.bipush 43, 2) := by decide +kernel
theorem dX5_readSum_44 : decode cX5_readSum 44 = .ok (.invokevirtual 141, 3) := by decide +kernel
theorem dX5_readSum_47 : decode cX5_readSum 47 = .ok (.ifCond .eq 8, 3) := by decide +kernel
theorem dX5_readSum_50 : decode cX5_readSum 50 = .ok (.bipush (-13), 2) := by decide +kernel
theorem dX5_readSum_52 : decode cX5_readSum 52 = .ok (.goto 5, 3) := by decide +kernel
theorem dX5_readSum_55 : decode cX5_readSum 55 = .ok (.bipush (-14), 2) := by decide +kernel
theorem dX5_readSum_57 : decode cX5_readSum 57 = .ok (.istore_n 3, 1) := by decide +kernel
theorem dX5_readSum_58 : decode cX5_readSum 58 = .ok (.aload_n 0, 1) := by decide +kernel
theorem dX5_readSum_59 : decode cX5_readSum 59 = .ok (.getfield 19, 3) := by decide +kernel
theorem dX5_readSum_62 : decode cX5_readSum 62 = .ok (.invokevirtual 131, 3) := by decide +kernel
theorem dX5_readSum_65 : decode cX5_readSum 65 = .ok (.aload_n 0, 1) := by decide +kernel
theorem dX5_readSum_66 : decode cX5_readSum 66 = .ok (.iload_n 1, 1) := by decide +kernel
theorem dX5_readSum_67 : decode cX5_readSum 67 = .ok (.invokevirtual 214, 3) := by decide +kernel
theorem dX5_readSum_70 : decode cX5_readSum 70 = .ok (.aload_n 0, 1) := by decide +kernel
theorem dX5_readSum_71 : decode cX5_readSum 71 = .ok (.getfield 35, 3) := by decide +kernel
theorem dX5_readSum_74 : decode cX5_readSum 74 = .ok (.getfield 192, 3) := by decide +kernel
theorem dX5_readSum_77 : decode cX5_readSum 77 = .ok (.iload_n 3, 1) := by decide +kernel
theorem dX5_readSum_78 : decode cX5_readSum 78 = .ok (.invokevirtual 198, 3) := by decide +kernel
theorem dX5_readSum_81 : decode cX5_readSum 81 = .ok (.iinc 2 1, 3) := by decide +kernel
theorem dX5_readSum_84 : decode cX5_readSum 84 = .ok (.goto (-77), 3) := by decide +kernel
theorem dX5_readSum_87 : decode cX5_readSum 87 = .ok (.return_, 1) := by decide +kernel
theorem dX5_readProduct_0 : decode cX5_readProduct 0 = .ok (.aload_n 0, 1) := by decide +kernel
theorem dX5_readProduct_1 : decode cX5_readProduct 1 = .ok (.iload_n 1, 1) := by decide +kernel
theorem dX5_readProduct_2 : decode cX5_readProduct 2 = .ok (.invokevirtual 217, 3) := by decide +kernel
theorem dX5_readProduct_5 : decode cX5_readProduct 5 = .ok (.iconst 0, 1) := by decide +kernel
theorem dX5_readProduct_6 : decode cX5_readProduct 6 = .ok (.istore_n 2, 1) := by decide +kernel
theorem dX5_readProduct_7 : decode cX5_readProduct 7 = .ok (.iload_n 2, 1) := by decide +kernel
theorem dX5_readProduct_8 : decode cX5_readProduct 8 = .ok (.sipush 600, 3) := by decide +kernel
theorem dX5_readProduct_11 : decode cX5_readProduct 11 = .ok (.if_icmp .ge 76, 3) := by decide +kernel
theorem dX5_readProduct_14 : decode cX5_readProduct 14 = .ok (.aload_n 0, 1) := by decide +kernel
theorem dX5_readProduct_15 : decode cX5_readProduct 15 = .ok (.getfield 19, 3) := by decide +kernel
theorem dX5_readProduct_18 : decode cX5_readProduct 18 = .ok (.bipush 42, 2) := by decide +kernel
theorem dX5_readProduct_20 : decode cX5_readProduct 20 = .ok (.invokevirtual 141, 3) := by decide +kernel
theorem dX5_readProduct_23 : decode cX5_readProduct 23 = .ok (.ifCond .ne 15, 3) := by decide +kernel
theorem dX5_readProduct_26 : decode cX5_readProduct 26 = .ok (.aload_n 0, 1) := by decide +kernel
theorem dX5_readProduct_27 : decode cX5_readProduct 27 = .ok (.getfield 19, 3) := by decide +kernel
theorem dX5_readProduct_30 : decode cX5_readProduct 30 = .ok (.bipush 47, 2) := by decide +kernel
theorem dX5_readProduct_32 : decode cX5_readProduct 32 = .ok (.invokevirtual 141, 3) := by decide +kernel
theorem dX5_readProduct_35 : decode cX5_readProduct 35 = .ok (.ifCond .eq 52, 3) := by decide +kernel
theorem dX5_readProduct_38 : decode cX5_readProduct 38 = .ok (.aload_n 0, 1) := by decide +kernel
theorem dX5_readProduct_39 : decode cX5_readProduct 39 = .ok (.getfield 19, 3) := by decide +kernel
theorem dX5_readProduct_42 : decode cX5_readProduct 42 = .ok (.bipush 42, 2) := by decide +kernel
theorem dX5_readProduct_44 : decode cX5_readProduct 44 = .ok (.invokevirtual 141, 3) := by decide +kernel
theorem dX5_readProduct_47 : decode cX5_readProduct 47 = .ok (.ifCond .eq 8, 3) := by decide +kernel
theorem dX5_readProduct_50 : decode cX5_readProduct 50 = .ok (.bipush (-15), 2) := by decide +kernel
theorem dX5_readProduct_52 : decode cX5_readProduct 52 = .ok (.goto 5, 3) := by decide +kernel
theorem dX5_readProduct_55 : decode cX5_readProduct 55 = .ok (.bipush (-16), 2) := by decide +kernel
theorem dX5_readProduct_57 : decode cX5_readProduct 57 = .ok (.istore_n 3, 1) := by decide +kernel
theorem dX5_readProduct_58 : decode cX5_readProduct 58 = .ok (.aload_n 0, 1) := by decide +kernel
theorem dX5_readProduct_59 : decode cX5_readProduct 59 = .ok (.getfield 19, 3) := by decide +kernel
theorem dX5_readProduct_62 : decode cX5_readProduct 62 = .ok (.invokevirtual 131, 3) := by decide +kernel
theorem dX5_readProduct_65 : decode cX5_readProduct 65 = .ok (.aload_n 0, 1) := by decide +kernel
theorem dX5_readProduct_66 : decode cX5_readProduct 66 = .ok (.iload_n 1, 1) := by decide +kernel
theorem dX5_readProduct_67 : decode cX5_readProduct 67 = .ok (.invokevirtual 217, 3) := by decide +kernel
theorem dX5_readProduct_70 : decode cX5_readProduct 70 = .ok (.aload_n 0, 1) := by decide +kernel
theorem dX5_readProduct_71 : decode cX5_readProduct 71 = .ok (.getfield 35, 3) := by decide +kernel
theorem dX5_readProduct_74 : decode cX5_readProduct 74 = .ok (.getfield 192, 3) := by decide +kernel
theorem dX5_readProduct_77 : decode cX5_readProduct 77 = .ok (.iload_n 3, 1) := by decide +kernel
theorem dX5_readProduct_78 : decode cX5_readProduct 78 = .ok (.invokevirtual 198, 3) := by decide +kernel
theorem dX5_readProduct_81 : decode cX5_readProduct 81 = .ok (.iinc 2 1, 3) := by decide +kernel
theorem dX5_readProduct_84 : decode cX5_readProduct 84 = .ok (.goto (-77), 3) := by decide +kernel
theorem dX5_readProduct_87 : decode cX5_readProduct 87 = .ok (.return_, 1) := by decide +kernel
theorem dX5_readPart_0 : decode cX5_readPart 0 = .ok (.aload_n 0, 1) := by decide +kernel
theorem dX5_readPart_1 : decode cX5_readPart 1 = .ok (.getfield 19, 3) := by decide +kernel
theorem dX5_readPart_4 : decode cX5_readPart 4 = .ok (.bipush 40, 2) := by decide +kernel
theorem dX5_readPart_6 : decode cX5_readPart 6 = .ok (.invokevirtual 141, 3) := by decide +kernel
theorem dX5_readPart_9 : decode cX5_readPart 9 = .ok (.ifCond .eq 26, 3) := by decide +kernel
theorem dX5_readPart_12 : decode cX5_readPart 12 = .ok (.aload_n 0, 1) := by decide +kernel
theorem dX5_readPart_13 : decode cX5_readPart 13 = .ok (.getfield 19, 3) := by decide +kernel
theorem dX5_readPart_16 : decode cX5_readPart 16 = .ok (.invokevirtual 131, 3) := by decide +kernel
theorem dX5_readPart_19 : decode cX5_readPart 19 = .ok (.aload_n 0, 1) := by decide +kernel
theorem dX5_readPart_20 : decode cX5_readPart 20 = .ok (.iload_n 1, 1) := by decide +kernel
theorem dX5_readPart_21 : decode cX5_readPart 21 = .ok (.iconst 1, 1) := by decide +kernel
theorem dX5_readPart_22 : decode cX5_readPart 22 = .ok (.iadd, 1) := by decide +kernel
theorem dX5_readPart_23 : decode cX5_readPart 23 = .ok (.invokevirtual 89, 3) := by decide +kernel
theorem dX5_readPart_26 : decode cX5_readPart 26 = .ok (.aload_n 0, 1) := by decide +kernel
theorem dX5_readPart_27 : decode cX5_readPart 27 = .ok (.bipush 41, 2) := by decide +kernel
theorem dX5_readPart_29 : decode cX5_readPart 29 = .ok (.invokevirtual 95, 3) := by decide +kernel
theorem dX5_readPart_32 : decode cX5_readPart 32 = .ok (.goto 39, 3) := by decide +kernel
theorem dX5_readPart_35 : decode cX5_readPart 35 = .ok (.aload_n 0, 1) := by decide +kernel
theorem dX5_readPart_36 : decode cX5_readPart 36 = .ok (.getfield 19, 3) := by decide +kernel
theorem dX5_readPart_39 : decode cX5_readPart 39 = .ok (.getfield 48, 3) := by decide +kernel
theorem dX5_readPart_42 : decode cX5_readPart 42 = .ok (.iconst 1, 1) := by decide +kernel
theorem dX5_readPart_43 : decode cX5_readPart 43 = .ok (.if_icmp .ne 10, 3) := by decide +kernel
theorem dX5_readPart_46 : decode cX5_readPart 46 = .ok (.aload_n 0, 1) := by decide +kernel
theorem dX5_readPart_47 : decode cX5_readPart 47 = .ok (.invokevirtual 220, 3) := by decide +kernel
theorem dX5_readPart_50 : decode cX5_readPart 50 = .ok (.goto 21, 3) := by decide +kernel
theorem dX5_readPart_53 : decode cX5_readPart 53 = .ok (.aload_n 0, 1) := by decide +kernel
theorem dX5_readPart_54 : decode cX5_readPart 54 = .ok (.getfield 35, 3) := by decide +kernel
theorem dX5_readPart_57 : decode cX5_readPart 57 = .ok (.getfield 192, 3) := by decide +kernel
theorem dX5_readPart_60 : decode cX5_readPart 60 = .ok (.aload_n 0, 1) := by decide +kernel
theorem dX5_readPart_61 : decode cX5_readPart 61 = .ok (.iconst 0, 1) := by decide +kernel
theorem dX5_readPart_62 : decode cX5_readPart 62 = .ok (.sipush 9999, 3) := by decide +kernel
theorem dX5_readPart_65 : decode cX5_readPart 65 = .ok (.invokevirtual 109, 3) := by decide +kernel
theorem dX5_readPart_68 : decode cX5_readPart 68 = .ok (.invokevirtual 198, 3) := by decide +kernel
theorem dX5_readPart_71 : decode cX5_readPart 71 = .ok (.return_, 1) := by decide +kernel
theorem dX5_readValue_0 : decode cX5_readValue 0 = .ok (.aload_n 0, 1) := by decide +kernel
theorem dX5_readValue_1 : decode cX5_readValue 1 = .ok (.invokevirtual 223, 3) := by decide +kernel
theorem dX5_readValue_4 : decode cX5_readValue 4 = .ok (.istore_n 1, 1) := by decide +kernel
theorem dX5_readValue_5 : decode cX5_readValue 5 = .ok (.iload_n 1, 1) := by decide +kernel
theorem dX5_readValue_6 : decode cX5_readValue 6 = .ok (.ifCond .ne 8, 3) := by decide +kernel
theorem dX5_readValue_9 : decode cX5_readValue 9 = .ok (.aload_n 0, 1) := by decide +kernel
theorem dX5_readValue_10 : decode cX5_readValue 10 = .ok (.iconst 3, 1) := by decide +kernel
theorem dX5_readValue_11 : decode cX5_readValue 11 = .ok (.invokevirtual 128, 3) := by decide +kernel
theorem dX5_readValue_14 : decode cX5_readValue 14 = .ok (.aload_n 0, 1) := by decide +kernel
theorem dX5_readValue_15 : decode cX5_readValue 15 = .ok (.getfield 35, 3) := by decide +kernel
theorem dX5_readValue_18 : decode cX5_readValue 18 = .ok (.getfield 192, 3) := by decide +kernel
theorem dX5_readValue_21 : decode cX5_readValue 21 = .ok (.iload_n 1, 1) := by decide +kernel
theorem dX5_readValue_22 : decode cX5_readValue 22 = .ok (.invokevirtual 198, 3) := by decide +kernel
theorem dX5_readValue_25 : decode cX5_readValue 25 = .ok (.aload_n 0, 1) := by decide +kernel
theorem dX5_readValue_26 : decode cX5_readValue 26 = .ok (.getfield 19, 3) := by decide +kernel
theorem dX5_readValue_29 : decode cX5_readValue 29 = .ok (.invokevirtual 131, 3) := by decide +kernel
theorem dX5_readValue_32 : decode cX5_readValue 32 = .ok (.return_, 1) := by decide +kernel
theorem dX5_valueOfWord_0 : decode cX5_valueOfWord 0 = .ok (.aload_n 0, 1) := by decide +kernel
theorem dX5_valueOfWord_1 : decode cX5_valueOfWord 1 = .ok (.getfield 19, 3) := by decide +kernel
theorem dX5_valueOfWord_4 : decode cX5_valueOfWord 4 = .ok (.ldc 226, 2) := by decide +kernel
theorem dX5_valueOfWord_6 : decode cX5_valueOfWord 6 = .ok (.invokevirtual 72, 3) := by decide +kernel
theorem dX5_valueOfWord_9 : decode cX5_valueOfWord 9 = .ok (.ifCond .eq 5, 3) := by decide +kernel
theorem dX5_valueOfWord_12 : decode cX5_valueOfWord 12 = .ok (.iconst (-1), 1) := by decide +kernel
theorem dX5_valueOfWord_13 : decode cX5_valueOfWord 13 = .ok (.ireturn, 1) := by decide +kernel
theorem dX5_valueOfWord_14 : decode cX5_valueOfWord 14 = .ok (.aload_n 0, 1) := by decide +kernel
theorem dX5_valueOfWord_15 : decode cX5_valueOfWord 15 = .ok (.getfield 19, 3) := by decide +kernel
theorem dX5_valueOfWord_18 : decode cX5_valueOfWord 18 = .ok (.ldc 228, 2) := by decide +kernel
theorem dX5_valueOfWord_20 : decode cX5_valueOfWord 20 = .ok (.invokevirtual 72, 3) := by decide +kernel
theorem dX5_valueOfWord_23 : decode cX5_valueOfWord 23 = .ok (.ifCond .eq 6, 3) := by decide +kernel
theorem dX5_valueOfWord_26 : decode cX5_valueOfWord 26 = .ok (.bipush (-2), 2) := by decide +kernel
theorem dX5_valueOfWord_28 : decode cX5_valueOfWord 28 = .ok (.ireturn, 1) := by decide +kernel
theorem dX5_valueOfWord_29 : decode cX5_valueOfWord 29 = .ok (.aload_n 0, 1) := by decide +kernel
theorem dX5_valueOfWord_30 : decode cX5_valueOfWord 30 = .ok (.getfield 19, 3) := by decide +kernel
theorem dX5_valueOfWord_33 : decode cX5_valueOfWord 33 = .ok (.ldc 230, 2) := by decide +kernel
theorem dX5_valueOfWord_35 : decode cX5_valueOfWord 35 = .ok (.invokevirtual 72, 3) := by decide +kernel
theorem dX5_valueOfWord_38 : decode cX5_valueOfWord 38 = .ok (.ifCond .eq 6, 3) := by decide +kernel
theorem dX5_valueOfWord_41 : decode cX5_valueOfWord 41 = .ok (.bipush (-3), 2) := by decide +kernel
theorem dX5_valueOfWord_43 : decode cX5_valueOfWord 43 = .ok (.ireturn, 1) := by decide +kernel
theorem dX5_valueOfWord_44 : decode cX5_valueOfWord 44 = .ok (.aload_n 0, 1) := by decide +kernel
theorem dX5_valueOfWord_45 : decode cX5_valueOfWord 45 = .ok (.getfield 19, 3) := by decide +kernel
theorem dX5_valueOfWord_48 : decode cX5_valueOfWord 48 = .ok (.ldc 232, 2) := by decide +kernel
theorem dX5_valueOfWord_50 : decode cX5_valueOfWord 50 = .ok (.invokevirtual 72, 3) := by decide +kernel
theorem dX5_valueOfWord_53 : decode cX5_valueOfWord 53 = .ok (.ifCond .eq 6, 3) := by decide +kernel
theorem dX5_valueOfWord_56 : decode cX5_valueOfWord 56 = .ok (.bipush (-4), 2) := by decide +kernel
theorem dX5_valueOfWord_58 : decode cX5_valueOfWord 58 = .ok (.ireturn, 1) := by decide +kernel
theorem dX5_valueOfWord_59 : decode cX5_valueOfWord 59 = .ok (.aload_n 0, 1) := by decide +kernel
theorem dX5_valueOfWord_60 : decode cX5_valueOfWord 60 = .ok (.getfield 19, 3) := by decide +kernel
theorem dX5_valueOfWord_63 : decode cX5_valueOfWord 63 = .ok (.ldc 234, 2) := by decide +kernel
theorem dX5_valueOfWord_65 : decode cX5_valueOfWord 65 = .ok (.invokevirtual 72, 3) := by decide +kernel
theorem dX5_valueOfWord_68 : decode cX5_valueOfWord 68 = .ok (.ifCond .eq 6, 3) := by decide +kernel
theorem dX5_valueOfWord_71 : decode cX5_valueOfWord 71 = .ok (.bipush (-5), 2) := by decide +kernel
theorem dX5_valueOfWord_73 : decode cX5_valueOfWord 73 = .ok (.ireturn, 1) := by decide +kernel
theorem dX5_valueOfWord_74 : decode cX5_valueOfWord 74 = .ok (.aload_n 0, 1) := by decide +kernel
theorem dX5_valueOfWord_75 : decode cX5_valueOfWord 75 = .ok (.getfield 19, 3) := by decide +kernel
theorem dX5_valueOfWord_78 : decode cX5_valueOfWord 78 = .ok (.ldc 236, 2) := by decide +kernel
theorem dX5_valueOfWord_80 : decode cX5_valueOfWord 80 = .ok (.invokevirtual 72, 3) := by decide +kernel
theorem dX5_valueOfWord_83 : decode cX5_valueOfWord 83 = .ok (.ifCond .eq 6, 3) := by decide +kernel
theorem dX5_valueOfWord_86 : decode cX5_valueOfWord 86 = .ok (.bipush (-6), 2) := by decide +kernel
theorem dX5_valueOfWord_88 : decode cX5_valueOfWord 88 = .ok (.ireturn, 1) := by decide +kernel
theorem dX5_valueOfWord_89 : decode cX5_valueOfWord 89 = .ok (.aload_n 0, 1) := by decide +kernel
theorem dX5_valueOfWord_90 : decode cX5_valueOfWord 90 = .ok (.getfield 19, 3) := by decide +kernel
theorem dX5_valueOfWord_93 : decode cX5_valueOfWord 93 = .ok (.ldc 238, 2) := by decide +kernel
theorem dX5_valueOfWord_95 : decode cX5_valueOfWord 95 = .ok (.invokevirtual 72, 3) := by decide +kernel
theorem dX5_valueOfWord_98 : decode cX5_valueOfWord 98 = .ok (.ifCond .eq 8, 3) := by decide +kernel
theorem dX5_valueOfWord_101 : decode cX5_valueOfWord 101 = .ok (.bipush (-7), 2) := by decide +kernel
theorem dX5_valueOfWord_103 : decode cX5_valueOfWord 103 = .ok (.goto 4, 3) := by decide +kernel
theorem dX5_valueOfWord_106 : decode cX5_valueOfWord 106 = .ok (.iconst 0, 1) := by decide +kernel
theorem dX5_valueOfWord_107 : decode cX5_valueOfWord 107 = .ok (.ireturn, 1) := by decide +kernel
