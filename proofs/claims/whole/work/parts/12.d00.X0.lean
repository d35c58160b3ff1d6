theorem dX0_init_0 : decode cX0_init 0 = .ok (.aload_n 0, 1) := by decide +kernel
theorem dX0_init_1 : decode cX0_init 1 = .ok (.invokespecial 3, 3) := by decide +kernel
theorem dX0_init_4 : decode cX0_init 4 = .ok (.aload_n 0, 1) := by decide +kernel
theorem dX0_init_5 : decode cX0_init 5 = .ok (.new 9, 3) := by decide +kernel
theorem dX0_init_8 : decode cX0_init 8 = .ok (.dup, 1) := by decide +kernel
theorem dX0_init_9 : decode cX0_init 9 = .ok (.invokespecial 11, 3) := by decide +kernel
theorem dX0_init_12 : decode cX0_init 12 = .ok (.putfield 12, 3) := by decide +kernel
theorem dX0_init_15 : decode cX0_init 15 = .ok (.aload_n 0, 1) := by decide +kernel
theorem dX0_init_16 : decode cX0_init 16 = .ok (.bipush 7, 2) := by decide +kernel
theorem dX0_init_18 : decode cX0_init 18 = .ok (.anewarray 9, 3) := by decide +kernel
theorem dX0_init_21 : decode cX0_init 21 = .ok (.putfield 18, 3) := by decide +kernel
theorem dX0_init_24 : decode cX0_init 24 = .ok (.aload_n 0, 1) := by decide +kernel
theorem dX0_init_25 : decode cX0_init 25 = .ok (.new 22, 3) := by decide +kernel
theorem dX0_init_28 : decode cX0_init 28 = .ok (.dup, 1) := by decide +kernel
theorem dX0_init_29 : decode cX0_init 29 = .ok (.bipush 7, 2) := by decide +kernel
theorem dX0_init_31 : decode cX0_init 31 = .ok (.invokespecial 24, 3) := by decide +kernel
theorem dX0_init_34 : decode cX0_init 34 = .ok (.putfield 27, 3) := by decide +kernel
theorem dX0_init_37 : decode cX0_init 37 = .ok (.aload_n 0, 1) := by decide +kernel
theorem dX0_init_38 : decode cX0_init 38 = .ok (.new 31, 3) := by decide +kernel
theorem dX0_init_41 : decode cX0_init 41 = .ok (.dup, 1) := by decide +kernel
theorem dX0_init_42 : decode cX0_init 42 = .ok (.invokespecial 33, 3) := by decide +kernel
theorem dX0_init_45 : decode cX0_init 45 = .ok (.putfield 34, 3) := by decide +kernel
theorem dX0_init_48 : decode cX0_init 48 = .ok (.iconst 0, 1) := by decide +kernel
theorem dX0_init_49 : decode cX0_init 49 = .ok (.istore_n 1, 1) := by decide +kernel
theorem dX0_init_50 : decode cX0_init 50 = .ok (.iload_n 1, 1) := by decide +kernel
theorem dX0_init_51 : decode cX0_init 51 = .ok (.aload_n 0, 1) := by decide +kernel
theorem dX0_init_52 : decode cX0_init 52 = .ok (.getfield 18, 3) := by decide +kernel
theorem dX0_init_55 : decode cX0_init 55 = .ok (.arraylength, 1) := by decide +kernel
theorem dX0_init_56 : decode cX0_init 56 = .ok (.if_icmp .ge 22, 3) := by decide +kernel
theorem dX0_init_59 : decode cX0_init 59 = .ok (.aload_n 0, 1) := by decide +kernel
theorem dX0_init_60 : decode cX0_init 60 = .ok (.getfield 18, 3) := by decide +kernel
theorem dX0_init_63 : decode cX0_init 63 = .ok (.iload_n 1, 1) := by decide +kernel
theorem dX0_init_64 : decode cX0_init 64 = .ok (.new 9, 3) := by decide +kernel
theorem dX0_init_67 : decode cX0_init 67 = .ok (.dup, 1) := by decide +kernel
theorem dX0_init_68 : decode cX0_init 68 = .ok (.invokespecial 11, 3) := by decide +kernel
theorem dX0_init_71 : decode cX0_init 71 = .ok (.aastore, 1) := by decide +kernel
theorem dX0_init_72 : decode cX0_init 72 = .ok (.iinc 1 1, 3) := by decide +kernel
theorem dX0_init_75 : decode cX0_init 75 = .ok (.goto (-25), 3) := by decide +kernel
theorem dX0_init_78 : decode cX0_init 78 = .ok (.aload_n 0, 1) := by decide +kernel
theorem dX0_init_79 : decode cX0_init 79 = .ok (.invokevirtual 38, 3) := by decide +kernel
theorem dX0_init_82 : decode cX0_init 82 = .ok (.return_, 1) := by decide +kernel
theorem dX0_makeAnew_0 : decode cX0_makeAnew 0 = .ok (.aload_n 0, 1) := by decide +kernel
theorem dX0_makeAnew_1 : decode cX0_makeAnew 1 = .ok (.getfield 27, 3) := by decide +kernel
theorem dX0_makeAnew_4 : decode cX0_makeAnew 4 = .ok (.iconst 0, 1) := by decide +kernel
theorem dX0_makeAnew_5 : decode cX0_makeAnew 5 = .ok (.invokevirtual 41, 3) := by decide +kernel
theorem dX0_makeAnew_8 : decode cX0_makeAnew 8 = .ok (.aload_n 0, 1) := by decide +kernel
theorem dX0_makeAnew_9 : decode cX0_makeAnew 9 = .ok (.getfield 34, 3) := by decide +kernel
theorem dX0_makeAnew_12 : decode cX0_makeAnew 12 = .ok (.invokevirtual 44, 3) := by decide +kernel
theorem dX0_makeAnew_15 : decode cX0_makeAnew 15 = .ok (.aload_n 0, 1) := by decide +kernel
theorem dX0_makeAnew_16 : decode cX0_makeAnew 16 = .ok (.iconst 0, 1) := by decide +kernel
theorem dX0_makeAnew_17 : decode cX0_makeAnew 17 = .ok (.putfield 47, 3) := by decide +kernel
theorem dX0_makeAnew_20 : decode cX0_makeAnew 20 = .ok (.aload_n 0, 1) := by decide +kernel
theorem dX0_makeAnew_21 : decode cX0_makeAnew 21 = .ok (.bipush 20, 2) := by decide +kernel
theorem dX0_makeAnew_23 : decode cX0_makeAnew 23 = .ok (.putfield 51, 3) := by decide +kernel
theorem dX0_makeAnew_26 : decode cX0_makeAnew 26 = .ok (.aload_n 0, 1) := by decide +kernel
theorem dX0_makeAnew_27 : decode cX0_makeAnew 27 = .ok (.iconst 3, 1) := by decide +kernel
theorem dX0_makeAnew_28 : decode cX0_makeAnew 28 = .ok (.putfield 54, 3) := by decide +kernel
theorem dX0_makeAnew_31 : decode cX0_makeAnew 31 = .ok (.aload_n 0, 1) := by decide +kernel
theorem dX0_makeAnew_32 : decode cX0_makeAnew 32 = .ok (.sipush 480, 3) := by decide +kernel
theorem dX0_makeAnew_35 : decode cX0_makeAnew 35 = .ok (.putfield 57, 3) := by decide +kernel
theorem dX0_makeAnew_38 : decode cX0_makeAnew 38 = .ok (.aload_n 0, 1) := by decide +kernel
theorem dX0_makeAnew_39 : decode cX0_makeAnew 39 = .ok (.bipush 15, 2) := by decide +kernel
theorem dX0_makeAnew_41 : decode cX0_makeAnew 41 = .ok (.putfield 60, 3) := by decide +kernel
theorem dX0_makeAnew_44 : decode cX0_makeAnew 44 = .ok (.aload_n 0, 1) := by decide +kernel
theorem dX0_makeAnew_45 : decode cX0_makeAnew 45 = .ok (.iconst 0, 1) := by decide +kernel
theorem dX0_makeAnew_46 : decode cX0_makeAnew 46 = .ok (.putfield 63, 3) := by decide +kernel
theorem dX0_makeAnew_49 : decode cX0_makeAnew 49 = .ok (.aload_n 0, 1) := by decide +kernel
theorem dX0_makeAnew_50 : decode cX0_makeAnew 50 = .ok (.iconst 0, 1) := by decide +kernel
theorem dX0_makeAnew_51 : decode cX0_makeAnew 51 = .ok (.putfield 66, 3) := by decide +kernel
theorem dX0_makeAnew_54 : decode cX0_makeAnew 54 = .ok (.return_, 1) := by decide +kernel
theorem dX0_who_0 : decode cX0_who 0 = .ok (.iload_n 1, 1) := by decide +kernel
theorem dX0_who_1 : decode cX0_who 1 = .ok (.ifCond .lt 21, 3) := by decide +kernel
theorem dX0_who_4 : decode cX0_who 4 = .ok (.iload_n 1, 1) := by decide +kernel
theorem dX0_who_5 : decode cX0_who 5 = .ok (.aload_n 0, 1) := by decide +kernel
theorem dX0_who_6 : decode cX0_who 6 = .ok (.getfield 18, 3) := by decide +kernel
theorem dX0_who_9 : decode cX0_who 9 = .ok (.arraylength, 1) := by decide +kernel
theorem dX0_who_10 : decode cX0_who 10 = .ok (.if_icmp .ge 12, 3) := by decide +kernel
theorem dX0_who_13 : decode cX0_who 13 = .ok (.aload_n 0, 1) := by decide +kernel
theorem dX0_who_14 : decode cX0_who 14 = .ok (.getfield 18, 3) := by decide +kernel
theorem dX0_who_17 : decode cX0_who 17 = .ok (.iload_n 1, 1) := by decide +kernel
theorem dX0_who_18 : decode cX0_who 18 = .ok (.aaload, 1) := by decide +kernel
theorem dX0_who_19 : decode cX0_who 19 = .ok (.ifnonnull 8, 3) := by decide +kernel
theorem dX0_who_22 : decode cX0_who 22 = .ok (.aload_n 0, 1) := by decide +kernel
theorem dX0_who_23 : decode cX0_who 23 = .ok (.getfield 12, 3) := by decide +kernel
theorem dX0_who_26 : decode cX0_who 26 = .ok (.areturn, 1) := by decide +kernel
theorem dX0_who_27 : decode cX0_who 27 = .ok (.aload_n 0, 1) := by decide +kernel
theorem dX0_who_28 : decode cX0_who 28 = .ok (.getfield 18, 3) := by decide +kernel
theorem dX0_who_31 : decode cX0_who 31 = .ok (.iload_n 1, 1) := by decide +kernel
theorem dX0_who_32 : decode cX0_who 32 = .ok (.aaload, 1) := by decide +kernel
theorem dX0_who_33 : decode cX0_who 33 = .ok (.areturn, 1) := by decide +kernel
theorem dX0_addNever_0 : decode cX0_addNever 0 = .ok (.aload_n 0, 1) := by decide +kernel
theorem dX0_addNever_1 : decode cX0_addNever 1 = .ok (.getfield 27, 3) := by decide +kernel
theorem dX0_addNever_4 : decode cX0_addNever 4 = .ok (.iload_n 1, 1) := by decide +kernel
theorem dX0_addNever_5 : decode cX0_addNever 5 = .ok (.aload_n 0, 1) := by decide +kernel
theorem dX0_addNever_6 : decode cX0_addNever 6 = .ok (.getfield 27, 3) := by decide +kernel
theorem dX0_addNever_9 : decode cX0_addNever 9 = .ok (.iload_n 1, 1) := by decide +kernel
theorem dX0_addNever_10 : decode cX0_addNever 10 = .ok (.invokevirtual 69, 3) := by decide +kernel
theorem dX0_addNever_13 : decode cX0_addNever 13 = .ok (.iconst 1, 1) := by decide +kernel
theorem dX0_addNever_14 : decode cX0_addNever 14 = .ok (.iload_n 2, 1) := by decide +kernel
theorem dX0_addNever_15 : decode cX0_addNever 15 = .ok (.ishl, 1) := by decide +kernel
theorem dX0_addNever_16 : decode cX0_addNever 16 = .ok (.ior, 1) := by decide +kernel
theorem dX0_addNever_17 : decode cX0_addNever 17 = .ok (.invokevirtual 73, 3) := by decide +kernel
theorem dX0_addNever_20 : decode cX0_addNever 20 = .ok (.aload_n 0, 1) := by decide +kernel
theorem dX0_addNever_21 : decode cX0_addNever 21 = .ok (.getfield 27, 3) := by decide +kernel
theorem dX0_addNever_24 : decode cX0_addNever 24 = .ok (.iload_n 2, 1) := by decide +kernel
theorem dX0_addNever_25 : decode cX0_addNever 25 = .ok (.aload_n 0, 1) := by decide +kernel
theorem dX0_addNever_26 : decode cX0_addNever 26 = .ok (.getfield 27, 3) := by decide +kernel
theorem dX0_addNever_29 : decode cX0_addNever 29 = .ok (.iload_n 2, 1) := by decide +kernel
theorem dX0_addNever_30 : decode cX0_addNever 30 = .ok (.invokevirtual 69, 3) := by decide +kernel
theorem dX0_addNever_33 : decode cX0_addNever 33 = .ok (.iconst 1, 1) := by decide +kernel
theorem dX0_addNever_34 : decode cX0_addNever 34 = .ok (.iload_n 1, 1) := by decide +kernel
theorem dX0_addNever_35 : decode cX0_addNever 35 = .ok (.ishl, 1) := by decide +kernel
theorem dX0_addNever_36 : decode cX0_addNever 36 = .ok (.ior, 1) := by decide +kernel
theorem dX0_addNever_37 : decode cX0_addNever 37 = .ok (.invokevirtual 73, 3) := by decide +kernel
theorem dX0_addNever_40 : decode cX0_addNever 40 = .ok (.aload_n 0, 1) := by decide +kernel
theorem dX0_addNever_41 : decode cX0_addNever 41 = .ok (.dup, 1) := by decide +kernel
theorem dX0_addNever_42 : decode cX0_addNever 42 = .ok (.getfield 66, 3) := by decide +kernel
theorem dX0_addNever_45 : decode cX0_addNever 45 = .ok (.iconst 1, 1) := by decide +kernel
theorem dX0_addNever_46 : decode cX0_addNever 46 = .ok (.iadd, 1) := by decide +kernel
theorem dX0_addNever_47 : decode cX0_addNever 47 = .ok (.putfield 66, 3) := by decide +kernel
theorem dX0_addNever_50 : decode cX0_addNever 50 = .ok (.return_, 1) := by decide +kernel
theorem dX0_isNever_0 : decode cX0_isNever 0 = .ok (.aload_n 0, 1) := by decide +kernel
theorem dX0_isNever_1 : decode cX0_isNever 1 = .ok (.getfield 27, 3) := by decide +kernel
theorem dX0_isNever_4 : decode cX0_isNever 4 = .ok (.iload_n 1, 1) := by decide +kernel
theorem dX0_isNever_5 : decode cX0_isNever 5 = .ok (.invokevirtual 69, 3) := by decide +kernel
theorem dX0_isNever_8 : decode cX0_isNever 8 = .ok (.iload_n 2, 1) := by decide +kernel
theorem dX0_isNever_9 : decode cX0_isNever 9 = .ok (.ishr, 1) := by decide +kernel
theorem dX0_isNever_10 : decode cX0_isNever 10 = .ok (.iconst 1, 1) := by decide +kernel
theorem dX0_isNever_11 : decode cX0_isNever 11 = .ok (.iand, 1) := by decide +kernel
theorem dX0_isNever_12 : decode cX0_isNever 12 = .ok (.iconst 1, 1) := by decide +kernel
theorem dX0_isNever_13 : decode cX0_isNever 13 = .ok (.if_icmp .ne 7, 3) := by decide +kernel
theorem dX0_isNever_16 : decode cX0_isNever 16 = .ok (.iconst 1, 1) := by decide +kernel
theorem dX0_isNever_17 : decode cX0_isNever 17 = .ok (.goto 4, 3) := by decide +kernel
theorem dX0_isNever_20 : decode cX0_isNever 20 = .ok (.iconst 0, 1) := by decide +kernel
theorem dX0_isNever_21 : decode cX0_isNever 21 = .ok (.ireturn, 1) := by decide +kernel
theorem dX0_allows_0 : decode cX0_allows 0 = .ok (.iconst 1, 1) := by decide +kernel
theorem dX0_allows_1 : decode cX0_allows 1 = .ok (.istore_n 2, 1) := by decide +kernel
theorem dX0_allows_2 : decode cX0_allows 2 = .ok (.iload_n 2, 1) := by decide +kernel
theorem dX0_allows_3 : decode cX0_allows 3 = .ok (.aload_n 1, 1) := by decide +kernel
theorem dX0_allows_4 : decode cX0_allows 4 = .ok (.getfield 77, 3) := by decide +kernel
theorem dX0_allows_7 : decode cX0_allows 7 = .ok (.if_icmp .ge 36, 3) := by decide +kernel
theorem dX0_allows_10 : decode cX0_allows 10 = .ok (.aload_n 0, 1) := by decide +kernel
theorem dX0_allows_11 : decode cX0_allows 11 = .ok (.aload_n 1, 1) := by decide +kernel
theorem dX0_allows_12 : decode cX0_allows 12 = .ok (.getfield 82, 3) := by decide +kernel
theorem dX0_allows_15 : decode cX0_allows 15 = .ok (.iload_n 2, 1) := by decide +kernel
theorem dX0_allows_16 : decode cX0_allows 16 = .ok (.iconst 1, 1) := by decide +kernel
theorem dX0_allows_17 : decode cX0_allows 17 = .ok (.isub, 1) := by decide +kernel
theorem dX0_allows_18 : decode cX0_allows 18 = .ok (.invokevirtual 69, 3) := by decide +kernel
theorem dX0_allows_21 : decode cX0_allows 21 = .ok (.aload_n 1, 1) := by decide +kernel
theorem dX0_allows_22 : decode cX0_allows 22 = .ok (.getfield 82, 3) := by decide +kernel
theorem dX0_allows_25 : decode cX0_allows 25 = .ok (.iload_n 2, 1) := by decide +kernel
theorem dX0_allows_26 : decode cX0_allows 26 = .ok (.invokevirtual 69, 3) := by decide +kernel
theorem dX0_allows_29 : decode cX0_allows 29 = .ok (.invokevirtual 85, 3) := by decide +kernel
theorem dX0_allows_32 : decode cX0_allows 32 = .ok (.ifCond .eq 5, 3) := by decide +kernel
theorem dX0_allows_35 : decode cX0_allows 35 = .ok (.iconst 0, 1) := by decide +kernel
theorem dX0_allows_36 : decode cX0_allows 36 = .ok (.ireturn, 1) := by decide +kernel
theorem dX0_allows_37 : decode cX0_allows 37 = .ok (.iinc 2 1, 3) := by decide +kernel
theorem dX0_allows_40 : decode cX0_allows 40 = .ok (.goto (-38), 3) := by decide +kernel
theorem dX0_allows_43 : decode cX0_allows 43 = .ok (.iconst 1, 1) := by decide +kernel
theorem dX0_allows_44 : decode cX0_allows 44 = .ok (.ireturn, 1) := by decide +kernel
theorem dX0_isFreeWithout_0 : decode cX0_isFreeWithout 0 = .ok (.aload_n 0, 1) := by decide +kernel
theorem dX0_isFreeWithout_1 : decode cX0_isFreeWithout 1 = .ok (.getfield 54, 3) := by decide +kernel
theorem dX0_isFreeWithout_4 : decode cX0_isFreeWithout 4 = .ok (.istore_n 2, 1) := by decide +kernel
theorem dX0_isFreeWithout_5 : decode cX0_isFreeWithout 5 = .ok (.iconst 0, 1) := by decide +kernel
theorem dX0_isFreeWithout_6 : decode cX0_isFreeWithout 6 = .ok (.istore_n 3, 1) := by decide +kernel
theorem dX0_isFreeWithout_7 : decode cX0_isFreeWithout 7 = .ok (.iload_n 3, 1) := by decide +kernel
theorem dX0_isFreeWithout_8 : decode cX0_isFreeWithout 8 = .ok (.aload_n 0, 1) := by decide +kernel
theorem dX0_isFreeWithout_9 : decode cX0_isFreeWithout 9 = .ok (.getfield 47, 3) := by decide +kernel
theorem dX0_isFreeWithout_12 : decode cX0_isFreeWithout 12 = .ok (.if_icmp .ge 29, 3) := by decide +kernel
theorem dX0_isFreeWithout_15 : decode cX0_isFreeWithout 15 = .ok (.iload_n 2, 1) := by decide +kernel
theorem dX0_isFreeWithout_16 : decode cX0_isFreeWithout 16 = .ok (.iload_n 3, 1) := by decide +kernel
theorem dX0_isFreeWithout_17 : decode cX0_isFreeWithout 17 = .ok (.iload_n 1, 1) := by decide +kernel
theorem dX0_isFreeWithout_18 : decode cX0_isFreeWithout 18 = .ok (.if_icmp .ne 7, 3) := by decide +kernel
theorem dX0_isFreeWithout_21 : decode cX0_isFreeWithout 21 = .ok (.iconst 0, 1) := by decide +kernel
theorem dX0_isFreeWithout_22 : decode cX0_isFreeWithout 22 = .ok (.goto 11, 3) := by decide +kernel
theorem dX0_isFreeWithout_25 : decode cX0_isFreeWithout 25 = .ok (.aload_n 0, 1) := by decide +kernel
theorem dX0_isFreeWithout_26 : decode cX0_isFreeWithout 26 = .ok (.iload_n 3, 1) := by decide +kernel
theorem dX0_isFreeWithout_27 : decode cX0_isFreeWithout 27 = .ok (.invokevirtual 89, 3) := by decide +kernel
theorem dX0_isFreeWithout_30 : decode cX0_isFreeWithout 30 = .ok (.getfield 93, 3) := by decide +kernel
theorem dX0_isFreeWithout_33 : decode cX0_isFreeWithout 33 = .ok (.iadd, 1) := by decide +kernel
theorem dX0_isFreeWithout_34 : decode cX0_isFreeWithout 34 = .ok (.istore_n 2, 1) := by decide +kernel
theorem dX0_isFreeWithout_35 : decode cX0_isFreeWithout 35 = .ok (.iinc 3 1, 3) := by decide +kernel
theorem dX0_isFreeWithout_38 : decode cX0_isFreeWithout 38 = .ok (.goto (-31), 3) := by decide +kernel
theorem dX0_isFreeWithout_41 : decode cX0_isFreeWithout 41 = .ok (.aload_n 0, 1) := by decide +kernel
theorem dX0_isFreeWithout_42 : decode cX0_isFreeWithout 42 = .ok (.getfield 51, 3) := by decide +kernel
theorem dX0_isFreeWithout_45 : decode cX0_isFreeWithout 45 = .ok (.iload_n 2, 1) := by decide +kernel
theorem dX0_isFreeWithout_46 : decode cX0_isFreeWithout 46 = .ok (.if_icmp .lt 7, 3) := by decide +kernel
theorem dX0_isFreeWithout_49 : decode cX0_isFreeWithout 49 = .ok (.iconst 1, 1) := by decide +kernel
theorem dX0_isFreeWithout_50 : decode cX0_isFreeWithout 50 = .ok (.goto 4, 3) := by decide +kernel
theorem dX0_isFreeWithout_53 : decode cX0_isFreeWithout 53 = .ok (.iconst 0, 1) := by decide +kernel
theorem dX0_isFreeWithout_54 : decode cX0_isFreeWithout 54 = .ok (.ireturn, 1) := by decide +kernel
theorem dX0_tenthsWoken_0 : decode cX0_tenthsWoken 0 = .ok (.iconst 0, 1) := by decide +kernel
theorem dX0_tenthsWoken_1 : decode cX0_tenthsWoken 1 = .ok (.istore_n 2, 1) := by decide +kernel
theorem dX0_tenthsWoken_2 : decode cX0_tenthsWoken 2 = .ok (.iconst 0, 1) := by decide +kernel
theorem dX0_tenthsWoken_3 : decode cX0_tenthsWoken 3 = .ok (.istore_n 3, 1) := by decide +kernel
theorem dX0_tenthsWoken_4 : decode cX0_tenthsWoken 4 = .ok (.aload_n 1, 1) := by decide +kernel
theorem dX0_tenthsWoken_5 : decode cX0_tenthsWoken 5 = .ok (.getfield 77, 3) := by decide +kernel
theorem dX0_tenthsWoken_8 : decode cX0_tenthsWoken 8 = .ok (.iconst 1, 1) := by decide +kernel
theorem dX0_tenthsWoken_9 : decode cX0_tenthsWoken 9 = .ok (.isub, 1) := by decide +kernel
theorem dX0_tenthsWoken_10 : decode cX0_tenthsWoken 10 = .ok (.istore 4, 2) := by decide +kernel
theorem dX0_tenthsWoken_12 : decode cX0_tenthsWoken 12 = .ok (.iload 4, 2) := by decide +kernel
theorem dX0_tenthsWoken_14 : decode cX0_tenthsWoken 14 = .ok (.ifCond .lt 50, 3) := by decide +kernel
theorem dX0_tenthsWoken_17 : decode cX0_tenthsWoken 17 = .ok (.aload_n 0, 1) := by decide +kernel
theorem dX0_tenthsWoken_18 : decode cX0_tenthsWoken 18 = .ok (.aload_n 1, 1) := by decide +kernel
theorem dX0_tenthsWoken_19 : decode cX0_tenthsWoken 19 = .ok (.getfield 82, 3) := by decide +kernel
theorem dX0_tenthsWoken_22 : decode cX0_tenthsWoken 22 = .ok (.iload 4, 2) := by decide +kernel
theorem dX0_tenthsWoken_24 : decode cX0_tenthsWoken 24 = .ok (.invokevirtual 69, 3) := by decide +kernel
theorem dX0_tenthsWoken_27 : decode cX0_tenthsWoken 27 = .ok (.invokevirtual 89, 3) := by decide +kernel
theorem dX0_tenthsWoken_30 : decode cX0_tenthsWoken 30 = .ok (.astore 5, 2) := by decide +kernel
theorem dX0_tenthsWoken_32 : decode cX0_tenthsWoken 32 = .ok (.iload_n 2, 1) := by decide +kernel
theorem dX0_tenthsWoken_33 : decode cX0_tenthsWoken 33 = .ok (.aload 5, 2) := by decide +kernel
theorem dX0_tenthsWoken_35 : decode cX0_tenthsWoken 35 = .ok (.getfield 96, 3) := by decide +kernel
theorem dX0_tenthsWoken_38 : decode cX0_tenthsWoken 38 = .ok (.iload_n 3, 1) := by decide +kernel
theorem dX0_tenthsWoken_39 : decode cX0_tenthsWoken 39 = .ok (.imul, 1) := by decide +kernel
theorem dX0_tenthsWoken_40 : decode cX0_tenthsWoken 40 = .ok (.iadd, 1) := by decide +kernel
theorem dX0_tenthsWoken_41 : decode cX0_tenthsWoken 41 = .ok (.istore_n 2, 1) := by decide +kernel
theorem dX0_tenthsWoken_42 : decode cX0_tenthsWoken 42 = .ok (.iload_n 3, 1) := by decide +kernel
theorem dX0_tenthsWoken_43 : decode cX0_tenthsWoken 43 = .ok (.aload 5, 2) := by decide +kernel
theorem dX0_tenthsWoken_45 : decode cX0_tenthsWoken 45 = .ok (.invokevirtual 99, 3) := by decide +kernel
theorem dX0_tenthsWoken_48 : decode cX0_tenthsWoken 48 = .ok (.ifCond .eq 7, 3) := by decide +kernel
theorem dX0_tenthsWoken_51 : decode cX0_tenthsWoken 51 = .ok (.iconst 1, 1) := by decide +kernel
theorem dX0_tenthsWoken_52 : decode cX0_tenthsWoken 52 = .ok (.goto 4, 3) := by decide +kernel
theorem dX0_tenthsWoken_55 : decode cX0_tenthsWoken 55 = .ok (.iconst 0, 1) := by decide +kernel
theorem dX0_tenthsWoken_56 : decode cX0_tenthsWoken 56 = .ok (.iadd, 1) := by decide +kernel
theorem dX0_tenthsWoken_57 : decode cX0_tenthsWoken 57 = .ok (.istore_n 3, 1) := by decide +kernel
theorem dX0_tenthsWoken_58 : decode cX0_tenthsWoken 58 = .ok (.iinc 4 (-1), 3) := by decide +kernel
theorem dX0_tenthsWoken_61 : decode cX0_tenthsWoken 61 = .ok (.goto (-49), 3) := by decide +kernel
theorem dX0_tenthsWoken_64 : decode cX0_tenthsWoken 64 = .ok (.iload_n 2, 1) := by decide +kernel
theorem dX0_tenthsWoken_65 : decode cX0_tenthsWoken 65 = .ok (.ireturn, 1) := by decide +kernel
