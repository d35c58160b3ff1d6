theorem dX1_init_0 : decode cX1_init 0 = .ok (.aload_n 0, 1) := by decide +kernel
theorem dX1_init_1 : decode cX1_init 1 = .ok (.invokespecial 3, 3) := by decide +kernel
theorem dX1_init_4 : decode cX1_init 4 = .ok (.aload_n 0, 1) := by decide +kernel
theorem dX1_init_5 : decode cX1_init 5 = .ok (.iconst (-1), 1) := by decide +kernel
theorem dX1_init_6 : decode cX1_init 6 = .ok (.putfield 9, 3) := by decide +kernel
theorem dX1_init_9 : decode cX1_init 9 = .ok (.aload_n 0, 1) := by decide +kernel
theorem dX1_init_10 : decode cX1_init 10 = .ok (.iconst 0, 1) := by decide +kernel
theorem dX1_init_11 : decode cX1_init 11 = .ok (.putfield 15, 3) := by decide +kernel
theorem dX1_init_14 : decode cX1_init 14 = .ok (.aload_n 0, 1) := by decide +kernel
theorem dX1_init_15 : decode cX1_init 15 = .ok (.iconst 0, 1) := by decide +kernel
theorem dX1_init_16 : decode cX1_init 16 = .ok (.putfield 18, 3) := by decide +kernel
theorem dX1_init_19 : decode cX1_init 19 = .ok (.aload_n 0, 1) := by decide +kernel
theorem dX1_init_20 : decode cX1_init 20 = .ok (.iconst 0, 1) := by decide +kernel
theorem dX1_init_21 : decode cX1_init 21 = .ok (.putfield 21, 3) := by decide +kernel
theorem dX1_init_24 : decode cX1_init 24 = .ok (.aload_n 0, 1) := by decide +kernel
theorem dX1_init_25 : decode cX1_init 25 = .ok (.iconst 0, 1) := by decide +kernel
theorem dX1_init_26 : decode cX1_init 26 = .ok (.putfield 24, 3) := by decide +kernel
theorem dX1_init_29 : decode cX1_init 29 = .ok (.aload_n 0, 1) := by decide +kernel
theorem dX1_init_30 : decode cX1_init 30 = .ok (.iconst 0, 1) := by decide +kernel
theorem dX1_init_31 : decode cX1_init 31 = .ok (.putfield 27, 3) := by decide +kernel
theorem dX1_init_34 : decode cX1_init 34 = .ok (.aload_n 0, 1) := by decide +kernel
theorem dX1_init_35 : decode cX1_init 35 = .ok (.iconst 0, 1) := by decide +kernel
theorem dX1_init_36 : decode cX1_init 36 = .ok (.putfield 30, 3) := by decide +kernel
theorem dX1_init_39 : decode cX1_init 39 = .ok (.aload_n 0, 1) := by decide +kernel
theorem dX1_init_40 : decode cX1_init 40 = .ok (.iconst 0, 1) := by decide +kernel
theorem dX1_init_41 : decode cX1_init 41 = .ok (.putfield 33, 3) := by decide +kernel
theorem dX1_init_44 : decode cX1_init 44 = .ok (.aload_n 0, 1) := by decide +kernel
theorem dX1_init_45 : decode cX1_init 45 = .ok (.aload_n 1, 1) := by decide +kernel
theorem dX1_init_46 : decode cX1_init 46 = .ok (.putfield 36, 3) := by decide +kernel
theorem dX1_init_49 : decode cX1_init 49 = .ok (.return_, 1) := by decide +kernel
theorem dX1_lieDown_0 : decode cX1_lieDown 0 = .ok (.aload_n 0, 1) := by decide +kernel
theorem dX1_lieDown_1 : decode cX1_lieDown 1 = .ok (.aload_n 1, 1) := by decide +kernel
theorem dX1_lieDown_2 : decode cX1_lieDown 2 = .ok (.putfield 36, 3) := by decide +kernel
theorem dX1_lieDown_5 : decode cX1_lieDown 5 = .ok (.aload_n 0, 1) := by decide +kernel
theorem dX1_lieDown_6 : decode cX1_lieDown 6 = .ok (.iload_n 2, 1) := by decide +kernel
theorem dX1_lieDown_7 : decode cX1_lieDown 7 = .ok (.putfield 9, 3) := by decide +kernel
theorem dX1_lieDown_10 : decode cX1_lieDown 10 = .ok (.aload_n 0, 1) := by decide +kernel
theorem dX1_lieDown_11 : decode cX1_lieDown 11 = .ok (.iload_n 3, 1) := by decide +kernel
theorem dX1_lieDown_12 : decode cX1_lieDown 12 = .ok (.putfield 15, 3) := by decide +kernel
theorem dX1_lieDown_15 : decode cX1_lieDown 15 = .ok (.aload_n 0, 1) := by decide +kernel
theorem dX1_lieDown_16 : decode cX1_lieDown 16 = .ok (.iload 4, 2) := by decide +kernel
theorem dX1_lieDown_18 : decode cX1_lieDown 18 = .ok (.putfield 18, 3) := by decide +kernel
theorem dX1_lieDown_21 : decode cX1_lieDown 21 = .ok (.aload_n 0, 1) := by decide +kernel
theorem dX1_lieDown_22 : decode cX1_lieDown 22 = .ok (.iload 5, 2) := by decide +kernel
theorem dX1_lieDown_24 : decode cX1_lieDown 24 = .ok (.putfield 21, 3) := by decide +kernel
theorem dX1_lieDown_27 : decode cX1_lieDown 27 = .ok (.aload_n 0, 1) := by decide +kernel
theorem dX1_lieDown_28 : decode cX1_lieDown 28 = .ok (.iconst 0, 1) := by decide +kernel
theorem dX1_lieDown_29 : decode cX1_lieDown 29 = .ok (.putfield 24, 3) := by decide +kernel
theorem dX1_lieDown_32 : decode cX1_lieDown 32 = .ok (.aload_n 0, 1) := by decide +kernel
theorem dX1_lieDown_33 : decode cX1_lieDown 33 = .ok (.iconst 0, 1) := by decide +kernel
theorem dX1_lieDown_34 : decode cX1_lieDown 34 = .ok (.putfield 27, 3) := by decide +kernel
theorem dX1_lieDown_37 : decode cX1_lieDown 37 = .ok (.aload_n 0, 1) := by decide +kernel
theorem dX1_lieDown_38 : decode cX1_lieDown 38 = .ok (.iconst 0, 1) := by decide +kernel
theorem dX1_lieDown_39 : decode cX1_lieDown 39 = .ok (.putfield 30, 3) := by decide +kernel
theorem dX1_lieDown_42 : decode cX1_lieDown 42 = .ok (.aload_n 0, 1) := by decide +kernel
theorem dX1_lieDown_43 : decode cX1_lieDown 43 = .ok (.iconst 0, 1) := by decide +kernel
theorem dX1_lieDown_44 : decode cX1_lieDown 44 = .ok (.putfield 33, 3) := by decide +kernel
theorem dX1_lieDown_47 : decode cX1_lieDown 47 = .ok (.return_, 1) := by decide +kernel
theorem dX1_tiredAt_0 : decode cX1_tiredAt 0 = .ok (.aload_n 0, 1) := by decide +kernel
theorem dX1_tiredAt_1 : decode cX1_tiredAt 1 = .ok (.getfield 24, 3) := by decide +kernel
theorem dX1_tiredAt_4 : decode cX1_tiredAt 4 = .ok (.aload_n 0, 1) := by decide +kernel
theorem dX1_tiredAt_5 : decode cX1_tiredAt 5 = .ok (.getfield 21, 3) := by decide +kernel
theorem dX1_tiredAt_8 : decode cX1_tiredAt 8 = .ok (.ifCond .ne 13, 3) := by decide +kernel
theorem dX1_tiredAt_11 : decode cX1_tiredAt 11 = .ok (.aload_n 0, 1) := by decide +kernel
theorem dX1_tiredAt_12 : decode cX1_tiredAt 12 = .ok (.getfield 36, 3) := by decide +kernel
theorem dX1_tiredAt_15 : decode cX1_tiredAt 15 = .ok (.getfield 40, 3) := by decide +kernel
theorem dX1_tiredAt_18 : decode cX1_tiredAt 18 = .ok (.goto 10, 3) := by decide +kernel
theorem dX1_tiredAt_21 : decode cX1_tiredAt 21 = .ok (.aload_n 0, 1) := by decide +kernel
theorem dX1_tiredAt_22 : decode cX1_tiredAt 22 = .ok (.getfield 36, 3) := by decide +kernel
theorem dX1_tiredAt_25 : decode cX1_tiredAt 25 = .ok (.getfield 45, 3) := by decide +kernel
theorem dX1_tiredAt_28 : decode cX1_tiredAt 28 = .ok (.iadd, 1) := by decide +kernel
theorem dX1_tiredAt_29 : decode cX1_tiredAt 29 = .ok (.ireturn, 1) := by decide +kernel
theorem dX1_isTired_0 : decode cX1_isTired 0 = .ok (.aload_n 0, 1) := by decide +kernel
theorem dX1_isTired_1 : decode cX1_isTired 1 = .ok (.getfield 36, 3) := by decide +kernel
theorem dX1_isTired_4 : decode cX1_isTired 4 = .ok (.getfield 48, 3) := by decide +kernel
theorem dX1_isTired_7 : decode cX1_isTired 7 = .ok (.iconst 3, 1) := by decide +kernel
theorem dX1_isTired_8 : decode cX1_isTired 8 = .ok (.if_icmp .eq 15, 3) := by decide +kernel
theorem dX1_isTired_11 : decode cX1_isTired 11 = .ok (.iload_n 1, 1) := by decide +kernel
theorem dX1_isTired_12 : decode cX1_isTired 12 = .ok (.aload_n 0, 1) := by decide +kernel
theorem dX1_isTired_13 : decode cX1_isTired 13 = .ok (.invokevirtual 51, 3) := by decide +kernel
theorem dX1_isTired_16 : decode cX1_isTired 16 = .ok (.if_icmp .lt 7, 3) := by decide +kernel
theorem dX1_isTired_19 : decode cX1_isTired 19 = .ok (.iconst 1, 1) := by decide +kernel
theorem dX1_isTired_20 : decode cX1_isTired 20 = .ok (.goto 4, 3) := by decide +kernel
theorem dX1_isTired_23 : decode cX1_isTired 23 = .ok (.iconst 0, 1) := by decide +kernel
theorem dX1_isTired_24 : decode cX1_isTired 24 = .ok (.ireturn, 1) := by decide +kernel
theorem dX1_turnOver_0 : decode cX1_turnOver 0 = .ok (.aload_n 0, 1) := by decide +kernel
theorem dX1_turnOver_1 : decode cX1_turnOver 1 = .ok (.getfield 36, 3) := by decide +kernel
theorem dX1_turnOver_4 : decode cX1_turnOver 4 = .ok (.getfield 48, 3) := by decide +kernel
theorem dX1_turnOver_7 : decode cX1_turnOver 7 = .ok (.iconst 3, 1) := by decide +kernel
theorem dX1_turnOver_8 : decode cX1_turnOver 8 = .ok (.if_icmp .eq 18, 3) := by decide +kernel
theorem dX1_turnOver_11 : decode cX1_turnOver 11 = .ok (.aload_n 0, 1) := by decide +kernel
theorem dX1_turnOver_12 : decode cX1_turnOver 12 = .ok (.iconst 1, 1) := by decide +kernel
theorem dX1_turnOver_13 : decode cX1_turnOver 13 = .ok (.aload_n 0, 1) := by decide +kernel
theorem dX1_turnOver_14 : decode cX1_turnOver 14 = .ok (.getfield 21, 3) := by decide +kernel
theorem dX1_turnOver_17 : decode cX1_turnOver 17 = .ok (.isub, 1) := by decide +kernel
theorem dX1_turnOver_18 : decode cX1_turnOver 18 = .ok (.putfield 21, 3) := by decide +kernel
theorem dX1_turnOver_21 : decode cX1_turnOver 21 = .ok (.aload_n 0, 1) := by decide +kernel
theorem dX1_turnOver_22 : decode cX1_turnOver 22 = .ok (.iload_n 1, 1) := by decide +kernel
theorem dX1_turnOver_23 : decode cX1_turnOver 23 = .ok (.putfield 24, 3) := by decide +kernel
theorem dX1_turnOver_26 : decode cX1_turnOver 26 = .ok (.return_, 1) := by decide +kernel
theorem dX1_isAwake_0 : decode cX1_isAwake 0 = .ok (.aload_n 0, 1) := by decide +kernel
theorem dX1_isAwake_1 : decode cX1_isAwake 1 = .ok (.getfield 27, 3) := by decide +kernel
theorem dX1_isAwake_4 : decode cX1_isAwake 4 = .ok (.ifCond .le 17, 3) := by decide +kernel
theorem dX1_isAwake_7 : decode cX1_isAwake 7 = .ok (.iload_n 1, 1) := by decide +kernel
theorem dX1_isAwake_8 : decode cX1_isAwake 8 = .ok (.aload_n 0, 1) := by decide +kernel
theorem dX1_isAwake_9 : decode cX1_isAwake 9 = .ok (.getfield 27, 3) := by decide +kernel
theorem dX1_isAwake_12 : decode cX1_isAwake 12 = .ok (.isub, 1) := by decide +kernel
theorem dX1_isAwake_13 : decode cX1_isAwake 13 = .ok (.iload_n 2, 1) := by decide +kernel
theorem dX1_isAwake_14 : decode cX1_isAwake 14 = .ok (.if_icmp .ge 7, 3) := by decide +kernel
theorem dX1_isAwake_17 : decode cX1_isAwake 17 = .ok (.iconst 1, 1) := by decide +kernel
theorem dX1_isAwake_18 : decode cX1_isAwake 18 = .ok (.goto 4, 3) := by decide +kernel
theorem dX1_isAwake_21 : decode cX1_isAwake 21 = .ok (.iconst 0, 1) := by decide +kernel
theorem dX1_isAwake_22 : decode cX1_isAwake 22 = .ok (.ireturn, 1) := by decide +kernel
