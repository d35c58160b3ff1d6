theorem dX8_init_0 : decode cX8_init 0 = .ok (.aload_n 0, 1) := by decide +kernel
theorem dX8_init_1 : decode cX8_init 1 = .ok (.invokespecial 3, 3) := by decide +kernel
theorem dX8_init_4 : decode cX8_init 4 = .ok (.aload_n 0, 1) := by decide +kernel
theorem dX8_init_5 : decode cX8_init 5 = .ok (.iconst 0, 1) := by decide +kernel
theorem dX8_init_6 : decode cX8_init 6 = .ok (.putfield 9, 3) := by decide +kernel
theorem dX8_init_9 : decode cX8_init 9 = .ok (.aload_n 0, 1) := by decide +kernel
theorem dX8_init_10 : decode cX8_init 10 = .ok (.iconst 0, 1) := by decide +kernel
theorem dX8_init_11 : decode cX8_init 11 = .ok (.putfield 15, 3) := by decide +kernel
theorem dX8_init_14 : decode cX8_init 14 = .ok (.aload_n 0, 1) := by decide +kernel
theorem dX8_init_15 : decode cX8_init 15 = .ok (.iconst 0, 1) := by decide +kernel
theorem dX8_init_16 : decode cX8_init 16 = .ok (.putfield 18, 3) := by decide +kernel
theorem dX8_init_19 : decode cX8_init 19 = .ok (.aload_n 0, 1) := by decide +kernel
theorem dX8_init_20 : decode cX8_init 20 = .ok (.iconst 0, 1) := by decide +kernel
theorem dX8_init_21 : decode cX8_init 21 = .ok (.putfield 21, 3) := by decide +kernel
theorem dX8_init_24 : decode cX8_init 24 = .ok (.aload_n 0, 1) := by decide +kernel
theorem dX8_init_25 : decode cX8_init 25 = .ok (.iconst 0, 1) := by decide +kernel
theorem dX8_init_26 : decode cX8_init 26 = .ok (.putfield 24, 3) := by decide +kernel
theorem dX8_init_29 : decode cX8_init 29 = .ok (.aload_n 0, 1) := by decide +kernel
theorem dX8_init_30 : decode cX8_init 30 = .ok (.iconst 0, 1) := by decide +kernel
theorem dX8_init_31 : decode cX8_init 31 = .ok (.putfield 27, 3) := by decide +kernel
theorem dX8_init_34 : decode cX8_init 34 = .ok (.aload_n 0, 1) := by decide +kernel
theorem dX8_init_35 : decode cX8_init 35 = .ok (.iconst 0, 1) := by decide +kernel
theorem dX8_init_36 : decode cX8_init 36 = .ok (.putfield 30, 3) := by decide +kernel
theorem dX8_init_39 : decode cX8_init 39 = .ok (.return_, 1) := by decide +kernel
theorem dX8_tell_0 : decode cX8_tell 0 = .ok (.aload_n 0, 1) := by decide +kernel
theorem dX8_tell_1 : decode cX8_tell 1 = .ok (.iload_n 1, 1) := by decide +kernel
theorem dX8_tell_2 : decode cX8_tell 2 = .ok (.putfield 9, 3) := by decide +kernel
theorem dX8_tell_5 : decode cX8_tell 5 = .ok (.aload_n 0, 1) := by decide +kernel
theorem dX8_tell_6 : decode cX8_tell 6 = .ok (.iload_n 2, 1) := by decide +kernel
theorem dX8_tell_7 : decode cX8_tell 7 = .ok (.putfield 24, 3) := by decide +kernel
theorem dX8_tell_10 : decode cX8_tell 10 = .ok (.aload_n 0, 1) := by decide +kernel
theorem dX8_tell_11 : decode cX8_tell 11 = .ok (.iconst 0, 1) := by decide +kernel
theorem dX8_tell_12 : decode cX8_tell 12 = .ok (.iconst 0, 1) := by decide +kernel
theorem dX8_tell_13 : decode cX8_tell 13 = .ok (.iconst 0, 1) := by decide +kernel
theorem dX8_tell_14 : decode cX8_tell 14 = .ok (.invokevirtual 33, 3) := by decide +kernel
theorem dX8_tell_17 : decode cX8_tell 17 = .ok (.aload_n 0, 1) := by decide +kernel
theorem dX8_tell_18 : decode cX8_tell 18 = .ok (.iconst 0, 1) := by decide +kernel
theorem dX8_tell_19 : decode cX8_tell 19 = .ok (.iconst 0, 1) := by decide +kernel
theorem dX8_tell_20 : decode cX8_tell 20 = .ok (.invokevirtual 37, 3) := by decide +kernel
theorem dX8_tell_23 : decode cX8_tell 23 = .ok (.return_, 1) := by decide +kernel
theorem dX8_tellSides_0 : decode cX8_tellSides 0 = .ok (.aload_n 0, 1) := by decide +kernel
theorem dX8_tellSides_1 : decode cX8_tellSides 1 = .ok (.iload_n 1, 1) := by decide +kernel
theorem dX8_tellSides_2 : decode cX8_tellSides 2 = .ok (.putfield 15, 3) := by decide +kernel
theorem dX8_tellSides_5 : decode cX8_tellSides 5 = .ok (.aload_n 0, 1) := by decide +kernel
theorem dX8_tellSides_6 : decode cX8_tellSides 6 = .ok (.iload_n 2, 1) := by decide +kernel
theorem dX8_tellSides_7 : decode cX8_tellSides 7 = .ok (.putfield 18, 3) := by decide +kernel
theorem dX8_tellSides_10 : decode cX8_tellSides 10 = .ok (.aload_n 0, 1) := by decide +kernel
theorem dX8_tellSides_11 : decode cX8_tellSides 11 = .ok (.iload_n 3, 1) := by decide +kernel
theorem dX8_tellSides_12 : decode cX8_tellSides 12 = .ok (.putfield 21, 3) := by decide +kernel
theorem dX8_tellSides_15 : decode cX8_tellSides 15 = .ok (.return_, 1) := by decide +kernel
theorem dX8_tellOut_0 : decode cX8_tellOut 0 = .ok (.aload_n 0, 1) := by decide +kernel
theorem dX8_tellOut_1 : decode cX8_tellOut 1 = .ok (.iload_n 1, 1) := by decide +kernel
theorem dX8_tellOut_2 : decode cX8_tellOut 2 = .ok (.putfield 27, 3) := by decide +kernel
theorem dX8_tellOut_5 : decode cX8_tellOut 5 = .ok (.aload_n 0, 1) := by decide +kernel
theorem dX8_tellOut_6 : decode cX8_tellOut 6 = .ok (.iload_n 2, 1) := by decide +kernel
theorem dX8_tellOut_7 : decode cX8_tellOut 7 = .ok (.putfield 30, 3) := by decide +kernel
theorem dX8_tellOut_10 : decode cX8_tellOut 10 = .ok (.return_, 1) := by decide +kernel
theorem dX8_canWake_0 : decode cX8_canWake 0 = .ok (.aload_n 0, 1) := by decide +kernel
theorem dX8_canWake_1 : decode cX8_canWake 1 = .ok (.getfield 9, 3) := by decide +kernel
theorem dX8_canWake_4 : decode cX8_canWake 4 = .ok (.iconst 1, 1) := by decide +kernel
theorem dX8_canWake_5 : decode cX8_canWake 5 = .ok (.if_icmp .eq 15, 3) := by decide +kernel
theorem dX8_canWake_8 : decode cX8_canWake 8 = .ok (.aload_n 0, 1) := by decide +kernel
theorem dX8_canWake_9 : decode cX8_canWake 9 = .ok (.getfield 9, 3) := by decide +kernel
theorem dX8_canWake_12 : decode cX8_canWake 12 = .ok (.iconst 3, 1) := by decide +kernel
theorem dX8_canWake_13 : decode cX8_canWake 13 = .ok (.if_icmp .eq 7, 3) := by decide +kernel
theorem dX8_canWake_16 : decode cX8_canWake 16 = .ok (.iconst 1, 1) := by decide +kernel
theorem dX8_canWake_17 : decode cX8_canWake 17 = .ok (.goto 4, 3) := by decide +kernel
theorem dX8_canWake_20 : decode cX8_canWake 20 = .ok (.iconst 0, 1) := by decide +kernel
theorem dX8_canWake_21 : decode cX8_canWake 21 = .ok (.ireturn, 1) := by decide +kernel
