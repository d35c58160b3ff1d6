/-! Strings that stand in the code: length, charAt, indexOf -/
theorem dJ0_length_8abf5_0 : decode cJ0_length_8abf5 0 = .ok (.aload_n 0, 1) := by decide +kernel
theorem dJ0_length_8abf5_1 : decode cJ0_length_8abf5 1 = .ok (.getfield 9, 3) := by decide +kernel
theorem dJ0_length_8abf5_4 : decode cJ0_length_8abf5 4 = .ok (.arraylength, 1) := by decide +kernel
theorem dJ0_length_8abf5_5 : decode cJ0_length_8abf5 5 = .ok (.aload_n 0, 1) := by decide +kernel
theorem dJ0_length_8abf5_6 : decode cJ0_length_8abf5 6 = .ok (.invokevirtual 335, 3) := by decide +kernel
theorem dJ0_length_8abf5_9 : decode cJ0_length_8abf5 9 = .ok (.ishr, 1) := by decide +kernel
theorem dJ0_length_8abf5_10 : decode cJ0_length_8abf5 10 = .ok (.ireturn, 1) := by decide +kernel
theorem dJ0_charAt_5068e_0 : decode cJ0_charAt_5068e 0 = .ok (.aload_n 0, 1) := by decide +kernel
theorem dJ0_charAt_5068e_1 : decode cJ0_charAt_5068e 1 = .ok (.invokevirtual 492, 3) := by decide +kernel
theorem dJ0_charAt_5068e_4 : decode cJ0_charAt_5068e 4 = .ok (.ifCond .eq 12, 3) := by decide +kernel
theorem dJ0_charAt_5068e_7 : decode cJ0_charAt_5068e 7 = .ok (.aload_n 0, 1) := by decide +kernel
theorem dJ0_charAt_5068e_8 : decode cJ0_charAt_5068e 8 = .ok (.getfield 9, 3) := by decide +kernel
theorem dJ0_charAt_5068e_11 : decode cJ0_charAt_5068e 11 = .ok (.iload_n 1, 1) := by decide +kernel
theorem dJ0_charAt_5068e_12 : decode cJ0_charAt_5068e 12 = .ok (.invokestatic 495, 3) := by decide +kernel
theorem dJ0_charAt_5068e_15 : decode cJ0_charAt_5068e 15 = .ok (.ireturn, 1) := by decide +kernel
theorem dJ0_charAt_5068e_16 : decode cJ0_charAt_5068e 16 = .ok (.aload_n 0, 1) := by decide +kernel
theorem dJ0_charAt_5068e_17 : decode cJ0_charAt_5068e 17 = .ok (.getfield 9, 3) := by decide +kernel
theorem dJ0_charAt_5068e_20 : decode cJ0_charAt_5068e 20 = .ok (.iload_n 1, 1) := by decide +kernel
theorem dJ0_charAt_5068e_21 : decode cJ0_charAt_5068e 21 = .ok (.invokestatic 498, 3) := by decide +kernel
theorem dJ0_charAt_5068e_24 : decode cJ0_charAt_5068e 24 = .ok (.ireturn, 1) := by decide +kernel
theorem dJ0_indexOf_0f7a4_0 : decode cJ0_indexOf_0f7a4 0 = .ok (.aload_n 0, 1) := by decide +kernel
theorem dJ0_indexOf_0f7a4_1 : decode cJ0_indexOf_0f7a4 1 = .ok (.iload_n 1, 1) := by decide +kernel
theorem dJ0_indexOf_0f7a4_2 : decode cJ0_indexOf_0f7a4 2 = .ok (.iconst 0, 1) := by decide +kernel
theorem dJ0_indexOf_0f7a4_3 : decode cJ0_indexOf_0f7a4 3 = .ok (.invokevirtual 633, 3) := by decide +kernel
theorem dJ0_indexOf_0f7a4_6 : decode cJ0_indexOf_0f7a4 6 = .ok (.ireturn, 1) := by decide +kernel
theorem dJ0_indexOf_7cf53_0 : decode cJ0_indexOf_7cf53 0 = .ok (.aload_n 0, 1) := by decide +kernel
theorem dJ0_indexOf_7cf53_1 : decode cJ0_indexOf_7cf53 1 = .ok (.invokevirtual 492, 3) := by decide +kernel
theorem dJ0_indexOf_7cf53_4 : decode cJ0_indexOf_7cf53 4 = .ok (.ifCond .eq 19, 3) := by decide +kernel
theorem dJ0_indexOf_7cf53_7 : decode cJ0_indexOf_7cf53 7 = .ok (.aload_n 0, 1) := by decide +kernel
theorem dJ0_indexOf_7cf53_8 : decode cJ0_indexOf_7cf53 8 = .ok (.getfield 9, 3) := by decide +kernel
theorem dJ0_indexOf_7cf53_11 : decode cJ0_indexOf_7cf53 11 = .ok (.iload_n 1, 1) := by decide +kernel
theorem dJ0_indexOf_7cf53_12 : decode cJ0_indexOf_7cf53 12 = .ok (.iload_n 2, 1) := by decide +kernel
theorem dJ0_indexOf_7cf53_13 : decode cJ0_indexOf_7cf53 13 = .ok (.aload_n 0, 1) := by decide +kernel
theorem dJ0_indexOf_7cf53_14 : decode cJ0_indexOf_7cf53 14 = .ok (.invokevirtual 505, 3) := by decide +kernel
theorem dJ0_indexOf_7cf53_17 : decode cJ0_indexOf_7cf53 17 = .ok (.invokestatic 637, 3) := by decide +kernel
theorem dJ0_indexOf_7cf53_20 : decode cJ0_indexOf_7cf53 20 = .ok (.goto 16, 3) := by decide +kernel
theorem dJ0_indexOf_7cf53_23 : decode cJ0_indexOf_7cf53 23 = .ok (.aload_n 0, 1) := by decide +kernel
theorem dJ0_indexOf_7cf53_24 : decode cJ0_indexOf_7cf53 24 = .ok (.getfield 9, 3) := by decide +kernel
theorem dJ0_indexOf_7cf53_27 : decode cJ0_indexOf_7cf53 27 = .ok (.iload_n 1, 1) := by decide +kernel
theorem dJ0_indexOf_7cf53_28 : decode cJ0_indexOf_7cf53 28 = .ok (.iload_n 2, 1) := by decide +kernel
theorem dJ0_indexOf_7cf53_29 : decode cJ0_indexOf_7cf53 29 = .ok (.aload_n 0, 1) := by decide +kernel
theorem dJ0_indexOf_7cf53_30 : decode cJ0_indexOf_7cf53 30 = .ok (.invokevirtual 505, 3) := by decide +kernel
theorem dJ0_indexOf_7cf53_33 : decode cJ0_indexOf_7cf53 33 = .ok (.invokestatic 640, 3) := by decide +kernel
theorem dJ0_indexOf_7cf53_36 : decode cJ0_indexOf_7cf53 36 = .ok (.ireturn, 1) := by decide +kernel
theorem dJ0_coder_7d493_0 : decode cJ0_coder_7d493 0 = .ok (.getstatic 38, 3) := by decide +kernel
theorem dJ0_coder_7d493_3 : decode cJ0_coder_7d493 3 = .ok (.ifCond .eq 10, 3) := by decide +kernel
theorem dJ0_coder_7d493_6 : decode cJ0_coder_7d493 6 = .ok (.aload_n 0, 1) := by decide +kernel
theorem dJ0_coder_7d493_7 : decode cJ0_coder_7d493 7 = .ok (.getfield 15, 3) := by decide +kernel
theorem dJ0_coder_7d493_10 : decode cJ0_coder_7d493 10 = .ok (.goto 4, 3) := by decide +kernel
theorem dJ0_coder_7d493_13 : decode cJ0_coder_7d493 13 = .ok (.iconst 1, 1) := by decide +kernel
theorem dJ0_coder_7d493_14 : decode cJ0_coder_7d493 14 = .ok (.ireturn, 1) := by decide +kernel
theorem dJ0_isLatin1_aae02_0 : decode cJ0_isLatin1_aae02 0 = .ok (.getstatic 38, 3) := by decide +kernel
theorem dJ0_isLatin1_aae02_3 : decode cJ0_isLatin1_aae02 3 = .ok (.ifCond .eq 14, 3) := by decide +kernel
theorem dJ0_isLatin1_aae02_6 : decode cJ0_isLatin1_aae02 6 = .ok (.aload_n 0, 1) := by decide +kernel
theorem dJ0_isLatin1_aae02_7 : decode cJ0_isLatin1_aae02 7 = .ok (.getfield 15, 3) := by decide +kernel
theorem dJ0_isLatin1_aae02_10 : decode cJ0_isLatin1_aae02 10 = .ok (.ifCond .ne 7, 3) := by decide +kernel
theorem dJ0_isLatin1_aae02_13 : decode cJ0_isLatin1_aae02 13 = .ok (.iconst 1, 1) := by decide +kernel
theorem dJ0_isLatin1_aae02_14 : decode cJ0_isLatin1_aae02 14 = .ok (.goto 4, 3) := by decide +kernel
theorem dJ0_isLatin1_aae02_17 : decode cJ0_isLatin1_aae02 17 = .ok (.iconst 0, 1) := by decide +kernel
theorem dJ0_isLatin1_aae02_18 : decode cJ0_isLatin1_aae02 18 = .ok (.ireturn, 1) := by decide +kernel
theorem dJ0_checkIndex_df160_0 : decode cJ0_checkIndex_df160 0 = .ok (.iload_n 0, 1) := by decide +kernel
theorem dJ0_checkIndex_df160_1 : decode cJ0_checkIndex_df160 1 = .ok (.iload_n 1, 1) := by decide +kernel
theorem dJ0_checkIndex_df160_2 : decode cJ0_checkIndex_df160 2 = .ok (.getstatic 1053, 3) := by decide +kernel
theorem dJ0_checkIndex_df160_5 : decode cJ0_checkIndex_df160 5 = .ok (.invokestatic 1059, 3) := by decide +kernel
theorem dJ0_checkIndex_df160_8 : decode cJ0_checkIndex_df160 8 = .ok (.pop, 1) := by decide +kernel
theorem dJ0_checkIndex_df160_9 : decode cJ0_checkIndex_df160 9 = .ok (.return_, 1) := by decide +kernel
theorem dJ1_charAt_3b067_0 : decode cJ1_charAt_3b067 0 = .ok (.iload_n 1, 1) := by decide +kernel
theorem dJ1_charAt_3b067_1 : decode cJ1_charAt_3b067 1 = .ok (.aload_n 0, 1) := by decide +kernel
theorem dJ1_charAt_3b067_2 : decode cJ1_charAt_3b067 2 = .ok (.arraylength, 1) := by decide +kernel
theorem dJ1_charAt_3b067_3 : decode cJ1_charAt_3b067 3 = .ok (.invokestatic 9, 3) := by decide +kernel
theorem dJ1_charAt_3b067_6 : decode cJ1_charAt_3b067 6 = .ok (.aload_n 0, 1) := by decide +kernel
theorem dJ1_charAt_3b067_7 : decode cJ1_charAt_3b067 7 = .ok (.iload_n 1, 1) := by decide +kernel
theorem dJ1_charAt_3b067_8 : decode cJ1_charAt_3b067 8 = .ok (.baload, 1) := by decide +kernel
theorem dJ1_charAt_3b067_9 : decode cJ1_charAt_3b067 9 = .ok (.sipush 255, 3) := by decide +kernel
theorem dJ1_charAt_3b067_12 : decode cJ1_charAt_3b067 12 = .ok (.iand, 1) := by decide +kernel
theorem dJ1_charAt_3b067_13 : decode cJ1_charAt_3b067 13 = .ok (.i2c, 1) := by decide +kernel
theorem dJ1_charAt_3b067_14 : decode cJ1_charAt_3b067 14 = .ok (.ireturn, 1) := by decide +kernel
theorem dJ1_canEncode_9a6ad_0 : decode cJ1_canEncode_9a6ad 0 = .ok (.iload_n 0, 1) := by decide +kernel
theorem dJ1_canEncode_9a6ad_1 : decode cJ1_canEncode_9a6ad 1 = .ok (.ifCond .lt 14, 3) := by decide +kernel
theorem dJ1_canEncode_9a6ad_4 : decode cJ1_canEncode_9a6ad 4 = .ok (.iload_n 0, 1) := by decide +kernel
theorem dJ1_canEncode_9a6ad_5 : decode cJ1_canEncode_9a6ad 5 = .ok (.sipush 255, 3) := by decide +kernel
theorem dJ1_canEncode_9a6ad_8 : decode cJ1_canEncode_9a6ad 8 = .ok (.if_icmp .gt 7, 3) := by decide +kernel
theorem dJ1_canEncode_9a6ad_11 : decode cJ1_canEncode_9a6ad 11 = .ok (.iconst 1, 1) := by decide +kernel
theorem dJ1_canEncode_9a6ad_12 : decode cJ1_canEncode_9a6ad 12 = .ok (.goto 4, 3) := by decide +kernel
theorem dJ1_canEncode_9a6ad_15 : decode cJ1_canEncode_9a6ad 15 = .ok (.iconst 0, 1) := by decide +kernel
theorem dJ1_canEncode_9a6ad_16 : decode cJ1_canEncode_9a6ad 16 = .ok (.ireturn, 1) := by decide +kernel
theorem dJ1_indexOf_4cfef_0 : decode cJ1_indexOf_4cfef 0 = .ok (.iload_n 1, 1) := by decide +kernel
theorem dJ1_indexOf_4cfef_1 : decode cJ1_indexOf_4cfef 1 = .ok (.invokestatic 88, 3) := by decide +kernel
theorem dJ1_indexOf_4cfef_4 : decode cJ1_indexOf_4cfef 4 = .ok (.ifCond .ne 5, 3) := by decide +kernel
theorem dJ1_indexOf_4cfef_7 : decode cJ1_indexOf_4cfef 7 = .ok (.iconst (-1), 1) := by decide +kernel
theorem dJ1_indexOf_4cfef_8 : decode cJ1_indexOf_4cfef 8 = .ok (.ireturn, 1) := by decide +kernel
theorem dJ1_indexOf_4cfef_9 : decode cJ1_indexOf_4cfef 9 = .ok (.iload_n 2, 1) := by decide +kernel
theorem dJ1_indexOf_4cfef_10 : decode cJ1_indexOf_4cfef 10 = .ok (.iconst 0, 1) := by decide +kernel
theorem dJ1_indexOf_4cfef_11 : decode cJ1_indexOf_4cfef 11 = .ok (.invokestatic 92, 3) := by decide +kernel
theorem dJ1_indexOf_4cfef_14 : decode cJ1_indexOf_4cfef 14 = .ok (.istore_n 2, 1) := by decide +kernel
theorem dJ1_indexOf_4cfef_15 : decode cJ1_indexOf_4cfef 15 = .ok (.iload_n 3, 1) := by decide +kernel
theorem dJ1_indexOf_4cfef_16 : decode cJ1_indexOf_4cfef 16 = .ok (.aload_n 0, 1) := by decide +kernel
theorem dJ1_indexOf_4cfef_17 : decode cJ1_indexOf_4cfef 17 = .ok (.arraylength, 1) := by decide +kernel
theorem dJ1_indexOf_4cfef_18 : decode cJ1_indexOf_4cfef 18 = .ok (.invokestatic 38, 3) := by decide +kernel
theorem dJ1_indexOf_4cfef_21 : decode cJ1_indexOf_4cfef 21 = .ok (.istore_n 3, 1) := by decide +kernel
theorem dJ1_indexOf_4cfef_22 : decode cJ1_indexOf_4cfef 22 = .ok (.iload_n 2, 1) := by decide +kernel
theorem dJ1_indexOf_4cfef_23 : decode cJ1_indexOf_4cfef 23 = .ok (.iload_n 3, 1) := by decide +kernel
theorem dJ1_indexOf_4cfef_24 : decode cJ1_indexOf_4cfef 24 = .ok (.if_icmp .lt 5, 3) := by decide +kernel
theorem dJ1_indexOf_4cfef_27 : decode cJ1_indexOf_4cfef 27 = .ok (.iconst (-1), 1) := by decide +kernel
theorem dJ1_indexOf_4cfef_28 : decode cJ1_indexOf_4cfef 28 = .ok (.ireturn, 1) := by decide +kernel
theorem dJ1_indexOf_4cfef_29 : decode cJ1_indexOf_4cfef 29 = .ok (.aload_n 0, 1) := by decide +kernel
theorem dJ1_indexOf_4cfef_30 : decode cJ1_indexOf_4cfef 30 = .ok (.iload_n 1, 1) := by decide +kernel
theorem dJ1_indexOf_4cfef_31 : decode cJ1_indexOf_4cfef 31 = .ok (.iload_n 2, 1) := by decide +kernel
theorem dJ1_indexOf_4cfef_32 : decode cJ1_indexOf_4cfef 32 = .ok (.iload_n 3, 1) := by decide +kernel
theorem dJ1_indexOf_4cfef_33 : decode cJ1_indexOf_4cfef 33 = .ok (.invokestatic 95, 3) := by decide +kernel
theorem dJ1_indexOf_4cfef_36 : decode cJ1_indexOf_4cfef 36 = .ok (.ireturn, 1) := by decide +kernel
theorem dJ1_indexOfChar_4cfef_0 : decode cJ1_indexOfChar_4cfef 0 = .ok (.iload_n 1, 1) := by decide +kernel
theorem dJ1_indexOfChar_4cfef_1 : decode cJ1_indexOfChar_4cfef 1 = .ok (.i2b, 1) := by decide +kernel
theorem dJ1_indexOfChar_4cfef_2 : decode cJ1_indexOfChar_4cfef 2 = .ok (.istore 4, 2) := by decide +kernel
theorem dJ1_indexOfChar_4cfef_4 : decode cJ1_indexOfChar_4cfef 4 = .ok (.iload_n 2, 1) := by decide +kernel
theorem dJ1_indexOfChar_4cfef_5 : decode cJ1_indexOfChar_4cfef 5 = .ok (.istore 5, 2) := by decide +kernel
theorem dJ1_indexOfChar_4cfef_7 : decode cJ1_indexOfChar_4cfef 7 = .ok (.iload 5, 2) := by decide +kernel
theorem dJ1_indexOfChar_4cfef_9 : decode cJ1_indexOfChar_4cfef 9 = .ok (.iload_n 3, 1) := by decide +kernel
theorem dJ1_indexOfChar_4cfef_10 : decode cJ1_indexOfChar_4cfef 10 = .ok (.if_icmp .ge 21, 3) := by decide +kernel
theorem dJ1_indexOfChar_4cfef_13 : decode cJ1_indexOfChar_4cfef 13 = .ok (.aload_n 0, 1) := by decide +kernel
theorem dJ1_indexOfChar_4cfef_14 : decode cJ1_indexOfChar_4cfef 14 = .ok (.iload 5, 2) := by decide +kernel
theorem dJ1_indexOfChar_4cfef_16 : decode cJ1_indexOfChar_4cfef 16 = .ok (.baload, 1) := by decide +kernel
theorem dJ1_indexOfChar_4cfef_17 : decode cJ1_indexOfChar_4cfef 17 = .ok (.iload 4, 2) := by decide +kernel
theorem dJ1_indexOfChar_4cfef_19 : decode cJ1_indexOfChar_4cfef 19 = .ok (.if_icmp .ne 6, 3) := by decide +kernel
theorem dJ1_indexOfChar_4cfef_22 : decode cJ1_indexOfChar_4cfef 22 = .ok (.iload 5, 2) := by decide +kernel
theorem dJ1_indexOfChar_4cfef_24 : decode cJ1_indexOfChar_4cfef 24 = .ok (.ireturn, 1) := by decide +kernel
theorem dJ1_indexOfChar_4cfef_25 : decode cJ1_indexOfChar_4cfef 25 = .ok (.iinc 5 1, 3) := by decide +kernel
theorem dJ1_indexOfChar_4cfef_28 : decode cJ1_indexOfChar_4cfef 28 = .ok (.goto (-21), 3) := by decide +kernel
theorem dJ1_indexOfChar_4cfef_31 : decode cJ1_indexOfChar_4cfef 31 = .ok (.iconst (-1), 1) := by decide +kernel
theorem dJ1_indexOfChar_4cfef_32 : decode cJ1_indexOfChar_4cfef 32 = .ok (.ireturn, 1) := by decide +kernel
theorem dJ3_checkIndex_8e157_0 : decode cJ3_checkIndex_8e157 0 = .ok (.iload_n 0, 1) := by decide +kernel
theorem dJ3_checkIndex_8e157_1 : decode cJ3_checkIndex_8e157 1 = .ok (.ifCond .lt 8, 3) := by decide +kernel
theorem dJ3_checkIndex_8e157_4 : decode cJ3_checkIndex_8e157 4 = .ok (.iload_n 0, 1) := by decide +kernel
theorem dJ3_checkIndex_8e157_5 : decode cJ3_checkIndex_8e157 5 = .ok (.iload_n 1, 1) := by decide +kernel
theorem dJ3_checkIndex_8e157_6 : decode cJ3_checkIndex_8e157 6 = .ok (.if_icmp .lt 10, 3) := by decide +kernel
theorem dJ3_checkIndex_8e157_9 : decode cJ3_checkIndex_8e157 9 = .ok (.aload_n 2, 1) := by decide +kernel
theorem dJ3_checkIndex_8e157_10 : decode cJ3_checkIndex_8e157 10 = .ok (.iload_n 0, 1) := by decide +kernel
theorem dJ3_checkIndex_8e157_11 : decode cJ3_checkIndex_8e157 11 = .ok (.iload_n 1, 1) := by decide +kernel
theorem dJ3_checkIndex_8e157_12 : decode cJ3_checkIndex_8e157 12 = .ok (.invokestatic 95, 3) := by decide +kernel
theorem dJ3_checkIndex_8e157_15 : decode cJ3_checkIndex_8e157 15 = .ok (.athrow, 1) := by decide +kernel
theorem dJ3_checkIndex_8e157_16 : decode cJ3_checkIndex_8e157 16 = .ok (.iload_n 0, 1) := by decide +kernel
theorem dJ3_checkIndex_8e157_17 : decode cJ3_checkIndex_8e157 17 = .ok (.ireturn, 1) := by decide +kernel
theorem w_cs : Cond.fieldLink (cn 15) 38 "java/lang/String" "COMPACT_STRINGS" "Z" ∈ TB := tb_of 980 (by decide +kernel) (by decide +kernel)
theorem w_co : Cond.fieldLink (cn 15) 15 "java/lang/String" "coder" "B" ∈ TB := tb_of 2097 (by decide +kernel) (by decide +kernel)
theorem w_va : Cond.fieldLink (cn 15) 9 "java/lang/String" "value" "[B" ∈ TB := tb_of 2098 (by decide +kernel) (by decide +kernel)
theorem w_si : Cond.fieldLink (cn 15) 1053 "jdk/internal/util/Preconditions" "SIOOBE_FORMATTER" "Ljava/util/function/BiFunction;" ∈ TB := tb_of 1019 (by decide +kernel) (by decide +kernel)
theorem k15_335 : LV 15 335 0 yJ0_coder_7d493 mJ0_coder_7d493 := ⟨tb_of 986 (by decide +kernel) (by decide +kernel), t_J0_coder_7d493⟩
theorem k15_492 : LV 15 492 0 yJ0_isLatin1_aae02 mJ0_isLatin1_aae02 := ⟨tb_of 976 (by decide +kernel) (by decide +kernel), t_J0_isLatin1_aae02⟩
theorem k15_505 : LV 15 505 0 yJ0_length_8abf5 mJ0_length_8abf5 := ⟨tb_of 982 (by decide +kernel) (by decide +kernel), t_J0_length_8abf5⟩
theorem k15_633 : LV 15 633 2 yJ0_indexOf_7cf53 mJ0_indexOf_7cf53 := ⟨tb_of 972 (by decide +kernel) (by decide +kernel), t_J0_indexOf_7cf53⟩
theorem k15_637 : LSt 15 637 4 yJ1_indexOf_4cfef mJ1_indexOf_4cfef := ⟨tb_of 990 (by decide +kernel) (by decide +kernel), t_J1_indexOf_4cfef⟩
theorem k15_495 : LSt 15 495 2 yJ1_charAt_3b067 mJ1_charAt_3b067 := ⟨tb_of 1068 (by decide +kernel) (by decide +kernel), t_J1_charAt_3b067⟩
theorem k15_1059 : LSt 15 1059 3 yJ3_checkIndex_8e157 mJ3_checkIndex_8e157 := ⟨tb_of 1074 (by decide +kernel) (by decide +kernel), t_J3_checkIndex_8e157⟩
theorem k16_9 : LSt 16 9 2 yJ0_checkIndex_df160 mJ0_checkIndex_df160 := ⟨tb_of 1071 (by decide +kernel) (by decide +kernel), t_J0_checkIndex_df160⟩
theorem k16_88 : LSt 16 88 1 yJ1_canEncode_9a6ad mJ1_canEncode_9a6ad := ⟨tb_of 993 (by decide +kernel) (by decide +kernel), t_J1_canEncode_9a6ad⟩
theorem k16_95 : LSt 16 95 4 yJ1_indexOfChar_4cfef mJ1_indexOfChar_4cfef := ⟨tb_of 998 (by decide +kernel) (by decide +kernel), t_J1_indexOfChar_4cfef⟩
theorem k10_39 : LV 10 39 1 yJ0_indexOf_0f7a4 mJ0_indexOf_0f7a4 := ⟨tb_of 968 (by decide +kernel) (by decide +kernel), t_J0_indexOf_0f7a4⟩
theorem k10_44 : LV 10 44 0 yJ0_length_8abf5 mJ0_length_8abf5 := ⟨tb_of 1063 (by decide +kernel) (by decide +kernel), t_J0_length_8abf5⟩
theorem k10_47 : LV 10 47 1 yJ0_charAt_5068e mJ0_charAt_5068e := ⟨tb_of 1064 (by decide +kernel) (by decide +kernel), t_J0_charAt_5068e⟩
theorem k12_214 : LV 12 214 0 yJ0_length_8abf5 mJ0_length_8abf5 := ⟨tb_of 1730 (by decide +kernel) (by decide +kernel), t_J0_length_8abf5⟩
theorem k12_218 : LV 12 218 1 yJ0_charAt_5068e mJ0_charAt_5068e := ⟨tb_of 1731 (by decide +kernel) (by decide +kernel), t_J0_charAt_5068e⟩
theorem k16_92 : LM 16 92 Lib.Math.max.name Lib.Math.max.code 2 := ⟨tb_of 996 (by decide +kernel) (by decide +kernel), tb_of 825 (by decide +kernel) (by decide +kernel), tb_of 121 (by decide +kernel) (by decide +kernel), tb_of 826 (by decide +kernel) (by decide +kernel)⟩
theorem k16_38 : LM 16 38 Lib.Math.min.name Lib.Math.min.code 2 := ⟨tb_of 997 (by decide +kernel) (by decide +kernel), tb_of 749 (by decide +kernel) (by decide +kernel), tb_of 121 (by decide +kernel) (by decide +kernel), tb_of 750 (by decide +kernel) (by decide +kernel)⟩
theorem ad_hi {G : GG} {k : Nat} (h : 1000 ≤ k) : ad G k = G.2.1 k := by unfold ad; rw [if_neg (by omega)]
theorem tr_hi {G : GG} {k : Nat} (h : 1000 ≤ k) : tr G (.ref k) = .ref (G.2.1 k) := by
  show Value.ref (ad G k) = _
  rw [ad_hi h]
theorem kk_S {G : GG} {M : MI} {d : Nat} {p : Program} {l : Launch} {s : State} {m : MethodId} {args : Array Value} {meth : Method} {c : Code} {R : Room} (C : Cx G M d p l s m args meth c R) : KS G s := C.2.2.2.2.2.2.2.2.2.1.2.2.2.2.2.2.2.2.1
section RS
variable {M M2 : MI} {d bc bs bc2 bs2 n pc : Nat} {out : OUT} {ls : List (Option Value)} {st rest : List Value} {E : HP} {y : MethodName}
theorem r_ldcS {idx i : Nat} {tx : String} {by9 : List Int32} (pc2 : Nat) (hd : decode M.2.1 pc = .ok (.ldc idx, 2)) (hp : pc + 2 = pc2) (hq : stL[i]? = some (cn M.1, idx, tx, by9)) (kk : Sm M d bc bs out pc2 ls (.ref (1000 + i) :: st) E n) : Sm M d bc bs out pc ls st E n := by
  subst hp
  intro G p l e s m args below meth c R H locs cells slots lsA Q C F hS hW hl h1 h2
  obtain ⟨k1, -⟩ := kk_S C i _ hq
  refine va_ldcS C.1 C.2.1 C.2.2.2.1 k1 hd ?_
  have := kk G p l e s m args below meth c R H locs cells slots lsA Q C F hS hW hl h1 h2
  rw [List.map_cons, tr_hi (by omega)] at this
  exact this
theorem r_strV {idx i : Nat} {q : String × Nat × String × List Int32} (pc2 : Nat) (hd : decode M.2.1 pc = .ok (.getfield idx, 3)) (hp : pc + 3 = pc2) (lk : Cond.fieldLink (cn M.1) idx "java/lang/String" "value" "[B" ∈ TB) (hq : stL[i]? = some q) (kk : Sm M d bc bs out pc2 ls (.ref (1100 + i) :: st) E n) : Sm M d bc bs out pc ls (.ref (1000 + i) :: st) E n := by
  subst hp
  intro G p l e s m args below meth c R H locs cells slots lsA Q C F hS hW hl h1 h2
  obtain ⟨k1, k2, k3, k4, k5⟩ := kk_S C i _ hq
  rw [List.map_cons, tr_hi (by omega)]
  refine vk_getf C.1 C.2.1 k4 hS C.2.2.2.1 (C.2.2.2.2.1 _ lk) (fun _ h => h) hd ?_
  have := kk G p l e s m args below meth c R H locs cells slots lsA Q C F hS hW hl h1 h2
  rw [List.map_cons, tr_hi (by omega)] at this
  exact this
theorem r_strC {idx i : Nat} {q : String × Nat × String × List Int32} (pc2 : Nat) (hd : decode M.2.1 pc = .ok (.getfield idx, 3)) (hp : pc + 3 = pc2) (lk : Cond.fieldLink (cn M.1) idx "java/lang/String" "coder" "B" ∈ TB) (hq : stL[i]? = some q) (kk : Sm M d bc bs out pc2 ls (.int 0 :: st) E n) : Sm M d bc bs out pc ls (.ref (1000 + i) :: st) E n := by
  subst hp
  intro G p l e s m args below meth c R H locs cells slots lsA Q C F hS hW hl h1 h2
  obtain ⟨k1, k2, k3, k4, k5⟩ := kk_S C i _ hq
  rw [List.map_cons, tr_hi (by omega)]
  exact vk_getf C.1 C.2.1 k3 hS C.2.2.2.1 (C.2.2.2.2.1 _ lk) (fun _ h => h) hd (kk G p l e s m args below meth c R H locs cells slots lsA Q C F hS hW hl h1 h2)
theorem r_compact {idx : Nat} (pc2 : Nat) (hd : decode M.2.1 pc = .ok (.getstatic idx, 3)) (hp : pc + 3 = pc2) (lk : Cond.fieldLink (cn M.1) idx "java/lang/String" "COMPACT_STRINGS" "Z" ∈ TB) (kk : Sm M d bc bs out pc2 ls (.int 1 :: st) E n) : Sm M d bc bs out pc ls st E n := by
  subst hp
  intro G p l e s m args below meth c R H locs cells slots lsA Q C F hS hW hl h1 h2
  exact va_gets C.1 C.2.1 C.2.2.2.2.2.2.2.2.2.1.2.2.2.2.2.2.2.2.2.2.2.1 hS C.2.2.2.1 (C.2.2.2.2.1 _ lk) (fun _ h => h) hd (kk G p l e s m args below meth c R H locs cells slots lsA Q C F hS hW hl h1 h2)
theorem r_sio {idx : Nat} (pc2 : Nat) (hd : decode M.2.1 pc = .ok (.getstatic idx, 3)) (hp : pc + 3 = pc2) (lk : Cond.fieldLink (cn M.1) idx "jdk/internal/util/Preconditions" "SIOOBE_FORMATTER" "Ljava/util/function/BiFunction;" ∈ TB) (kk : ∀ v, v = Value.null ∨ v = Value.ref 1999 → Sm M d bc bs out pc2 ls (v :: st) E n) : Sm M d bc bs out pc ls st E n := by
  subst hp
  intro G p l e s m args below meth c R H locs cells slots lsA Q C F hS hW hl h1 h2
  rcases C.2.2.2.2.2.2.2.2.2.1.2.2.2.2.2.2.2.2.2.2.2.2.1 with k | k
  · exact va_gets C.1 C.2.1 k hS C.2.2.2.1 (C.2.2.2.2.1 _ lk) (fun _ h => h) hd (kk .null (Or.inl rfl) G p l e s m args below meth c R H locs cells slots lsA Q C F hS hW hl h1 h2)
  · refine va_gets C.1 C.2.1 k hS C.2.2.2.1 (C.2.2.2.2.1 _ lk) (fun _ h => h) hd ?_
    have := kk (.ref 1999) (Or.inr rfl) G p l e s m args below meth c R H locs cells slots lsA Q C F hS hW hl h1 h2
    rw [List.map_cons, tr_hi (by omega)] at this
    exact this
theorem r_blen {i : Nat} {q : String × Nat × String × List Int32} (pc2 : Nat) (hd : decode M.2.1 pc = .ok (.arraylength, 1)) (hp : pc + 1 = pc2) (hq : stL[i]? = some q) (kk : Sm M d bc bs out pc2 ls (.int (nI q.2.2.2.length) :: st) E n) : Sm M d bc bs out pc ls (.ref (1100 + i) :: st) E n := by
  subst hp
  intro G p l e s m args below meth c R H locs cells slots lsA Q C F hS hW hl h1 h2
  obtain ⟨k1, k2, k3, k4, k5⟩ := kk_S C i _ hq
  rw [List.map_cons, tr_hi (by omega)]
  exact va_tlen C.1 C.2.1 k5 hS rfl hd (kk G p l e s m args below meth c R H locs cells slots lsA Q C F hS hW hl h1 h2)
theorem r_bald {i k : Nat} {x : Int32} {q : String × Nat × String × List Int32} (pc2 : Nat) (hd : decode M.2.1 pc = .ok (.baload, 1)) (hp : pc + 1 = pc2) (hq : stL[i]? = some q) (hx : x = nI k) (hk : k < q.2.2.2.length) (hl9 : q.2.2.2.length < 100) (kk : Sm M d bc bs out pc2 ls (.int (q.2.2.2.getD k 0) :: st) E n) : Sm M d bc bs out pc ls (.int x :: .ref (1100 + i) :: st) E n := by
  subst hp; subst hx
  intro G p l e s m args below meth c R H locs cells slots lsA Q C F hS hW hl h1 h2
  obtain ⟨k1, k2, k3, k4, k5⟩ := kk_S C i _ hq
  rw [List.map_cons, List.map_cons, tr_hi (by omega)]
  refine va_tb C.1 C.2.1 k5 hS (vp_in_nI hk (by omega)) (v := .int (q.2.2.2.getD k 0)) ?_ hd (kk G p l e s m args below meth c R H locs cells slots lsA Q C F hS hW hl h1 h2)
  show Value.int (q.2.2.2.getD (nI k).toNatClampNeg 0) = _
  rw [nI_clamp (by omega)]
theorem r_i2b {x : Int32} (pc2 : Nat) (hd : decode M.2.1 pc = .ok (.i2b, 1)) (hp : pc + 1 = pc2) (kk : Sm M d bc bs out pc2 ls (.int x.toInt8.toInt32 :: st) E n) : Sm M d bc bs out pc ls (.int x :: st) E n := by
  subst hp
  exact kk.lift fun hx hb hl k => lv_i2b hx hb hd rfl (k _ hl)
theorem r_bret {v : Int32} (hd : decode M.2.1 pc = .ok (.ireturn, 1)) (hrt : M.2.2.2.1 = some .byte) (hlaw : M.2.2.2.2.2.2.1 = false) (hv : v.toInt8.toInt32 = v) (ho : out = (.inl (some (.int v)), E, n)) : Sm M d bc bs out pc ls [.int v] E n := by
  subst ho
  intro G p l e s m args below meth c R H locs cells slots lsA Q C F hS hW hl h1 h2
  rcases F with F | ⟨F, -⟩
  · subst F
    refine W.widen (show cells ≤ R.cells by omega) (show slots ≤ R.slots by omega) (vx_ret ?_)
    exact W.zret (ty := .byte) C.1 C.2.1 (by rw [C.2.2.2.2.2.1, hrt]) (by show Value.int v.toInt8.toInt32 = _; rw [hv]) (fun t ht hA => ⟨some (.int v), E, n, rfl, rfl, by rw [ht]; exact hW, hS.F ht⟩) hS.2.2 hd C.2.2.2.2.2.2.1
  · rw [hlaw] at F; cases F
theorem r_cret {v : Int32} (hd : decode M.2.1 pc = .ok (.ireturn, 1)) (hrt : M.2.2.2.1 = some .char) (hlaw : M.2.2.2.2.2.2.1 = false) (hv : v.toUInt32.toUInt16.toUInt32.toInt32 = v) (ho : out = (.inl (some (.int v)), E, n)) : Sm M d bc bs out pc ls [.int v] E n := by
  subst ho
  intro G p l e s m args below meth c R H locs cells slots lsA Q C F hS hW hl h1 h2
  rcases F with F | ⟨F, -⟩
  · subst F
    refine W.widen (show cells ≤ R.cells by omega) (show slots ≤ R.slots by omega) (vx_ret ?_)
    exact W.zret (ty := .char) C.1 C.2.1 (by rw [C.2.2.2.2.2.1, hrt]) (by show Value.int v.toUInt32.toUInt16.toUInt32.toInt32 = _; rw [hv]) (fun t ht hA => ⟨some (.int v), E, n, rfl, rfl, by rw [ht]; exact hW, hS.F ht⟩) hS.2.2 hd C.2.2.2.2.2.2.1
  · rw [hlaw] at F; cases F
theorem run_VS {G : GG} {p : Program} {l : Launch} {e : Env} {s : State} {m : MethodId} {args : Array Value} {below : List Frame} {meth : Method} {c : Code} {R : Room} {H : Heap} {locs : List Loc} {cells slots : Nat} {lsA : Array Slot} {idx na i : Nat} {out2 : OUT} {q : String × Nat × String × List Int32} {as : List Value} (C : Cx G M (d + 1) p l s m args meth c R) (hS : va_S (fA G) s.heap H locs) (hW : WLd G E n H) (hl : lh G lsA M.2.2.1 ls)
    (hd : decode M.2.1 pc = .ok (.invokevirtual idx, 3)) (lk : LV M.1 idx na y M2) (hc : Cl y M2 d bc2 bs2 (.ref (1000 + i) :: as) E n out2) (hst : st = as.reverse ++ .ref (1000 + i) :: rest) (hna : as.length = na) (hq : stL[i]? = some q) (hcn : y.cls = "java/lang/String") (hr : (rest.map fun v => v.category).sum ≤ 8) (h1 : cells + bc2 ≤ R.cells) (h2 : slots + bs2 ≤ R.slots) :
    vx_Run p l e R s m args below meth c H locs cells slots bc2 bs2 (F0 m pc lsA (st.map (tr G))) (rest.map (tr G)) (QC G out2 (Value.ref (ad G (1000 + i)) :: as.map (tr G)).toArray) (XC G out2) (fA G) := by
  obtain ⟨w1, w2, w3, w4, w5, w6, w7, w8⟩ := lk
  have hg : GoodIn TB (wsV (cn M.1) idx y.cls y (MW y M2)) := by
    rw [MW_0 w8]
    exact tb_cons w1 (tb_cons w2 (tb_cons w3 (tb_cons w4 (tb_cons w5 tb_good))))
  obtain ⟨k1, k2, k3, k4, k5⟩ := kk_S C i _ hq
  obtain ⟨cell, g1, g2, g3⟩ := va_Orecv k2 hS
  rw [← ad_hi (G := G) (show 1000 ≤ 1000 + i by omega)] at g1
  refine vx_runV (C := y.cls) (As := as.map (tr G)) (n := na) (cx_fix C) (hc l G C.2.2.2.2.2.2.2.2.1) (cwV na C.2.2.2.2.1 hg (MW_0 w8) rfl rfl ⟨rfl, w6⟩ (rm_fit C w7)) ⟨PC_blind, ⟨cell, g1, g2, by rw [hcn]; exact g3⟩, fun U hU hW' => ⟨rfl, by rw [hU]; exact hW, KK_go C.2.2.2.2.2.2.2.2.2.1 hS hU hW'⟩⟩ rfl (by rw [List.length_map]; exact hna) hl.1 ?_ (lv_room (by rw [tr_sum]; exact hr)) hd ⟨h1, h2⟩
  show st.map (tr G) = (as.map (tr G)).reverse ++ .ref (ad G (1000 + i)) :: rest.map (tr G)
  rw [hst, List.map_append, List.map_reverse]
  rfl
theorem r_callVS {idx na i n2 : Nat} {q : String × Nat × String × List Int32} {as : List Value} {v : Option Value} {E2 : HP} (pc2 : Nat) (hd : decode M.2.1 pc = .ok (.invokevirtual idx, 3)) (hp : pc + 3 = pc2) (lk : LV M.1 idx na y M2) (hc : Cl y M2 d bc2 bs2 (.ref (1000 + i) :: as) E n (.inl v, E2, n2)) (hst : st = as.reverse ++ .ref (1000 + i) :: rest) (hna : as.length = na) (hq : stL[i]? = some q) (hcn : y.cls = "java/lang/String") (hr : (rest.map fun v => v.category).sum ≤ 8)
    (kk : Sm M (d + 1) bc bs out pc2 ls (v.toList ++ rest) E2 n2) : Sm M (d + 1) (bc + bc2) (bs + bs2) out pc ls st E n := by
  subst hp
  intro G p l e s m args below meth c R H locs cells slots lsA Q C F hS hW hl h1 h2
  refine run_ret (run_VS C hS hW hl hd lk hc hst hna hq hcn hr (by omega) (by omega)) hS fun H1 locs1 hS1 hW1 => ?_
  have := kk G p l e s m args below meth c R H1 locs1 (cells + bc2) (slots + bs2) lsA Q C F hS1 hW1 hl (by omega) (by omega)
  rw [List.map_append] at this
  cases v <;> exact this
end RS
/-- all literals: short, of low letters -/
theorem st_chk : stL.all (fun q => decide (q.2.2.2.length < 10) && q.2.2.2.all (fun b => decide (((b &&& 255).toUInt32 % 65536).toInt32 = b) && decide (b.toUInt32.toUInt16.toUInt32.toInt32 = b) && decide (0 ≤ b) && decide (b < 128))) = true := by decide +kernel
theorem st_len {i : Nat} {q : String × Nat × String × List Int32} (h : stL[i]? = some q) : q.2.2.2.length < 10 := by
  have := List.all_eq_true.mp st_chk q (List.mem_of_getElem? h)
  rw [Bool.and_eq_true] at this
  exact of_decide_eq_true this.1
theorem st_chr {i k : Nat} {q : String × Nat × String × List Int32} (h : stL[i]? = some q) (hk : k < q.2.2.2.length) : ((q.2.2.2.getD k 0 &&& 255).toUInt32 % 65536).toInt32 = q.2.2.2.getD k 0 ∧ (q.2.2.2.getD k 0).toUInt32.toUInt16.toUInt32.toInt32 = q.2.2.2.getD k 0 ∧ 0 ≤ q.2.2.2.getD k 0 ∧ q.2.2.2.getD k 0 < 128 := by
  have := List.all_eq_true.mp st_chk q (List.mem_of_getElem? h)
  rw [Bool.and_eq_true, List.all_eq_true] at this
  have hm : q.2.2.2.getD k 0 ∈ q.2.2.2 := by
    rw [List.getD_eq_getElem?_getD, List.getElem?_eq_getElem hk]
    exact List.getElem_mem hk
  have h2 := this.2 _ hm
  rw [Bool.and_eq_true, Bool.and_eq_true, Bool.and_eq_true, decide_eq_true_eq, decide_eq_true_eq, decide_eq_true_eq, decide_eq_true_eq] at h2
  exact ⟨h2.1.1.1, h2.1.1.2, h2.1.2, h2.2⟩
set_option maxRecDepth 20000 in
theorem c_coder {d n i : Nat} {q : String × Nat × String × List Int32} {E : HP} (hq : stL[i]? = some q) : Cl yJ0_coder_7d493 mJ0_coder_7d493 d 0 0 [.ref (1000 + i)] E n (.inl (some (.int 0)), E, n) := by
  refine Cl.of (by decide) rfl (fun q => by cases q) rfl rfl (Nat.le_of_ble_eq_true rfl) ?_
  show Sm _ _ _ _ _ 0 [some (.ref (1000 + i))] [] _ _
  refine r_compact 3 dJ0_coder_7d493_0 rfl w_cs ?_
  refine r_if_eq 6 13 dJ0_coder_7d493_3 rfl (by decide) (fun h => absurd h (by decide)) (fun _ => ?_)
  refine r_aload_n 7 dJ0_coder_7d493_6 rfl rfl ?_
  refine r_strC 10 dJ0_coder_7d493_7 rfl w_co hq ?_
  refine r_goto 14 dJ0_coder_7d493_10 (by decide) ?_
  exact r_bret dJ0_coder_7d493_14 rfl rfl (by decide) rfl
set_option maxRecDepth 20000 in
theorem c_isLat {d n i : Nat} {q : String × Nat × String × List Int32} {E : HP} (hq : stL[i]? = some q) : Cl yJ0_isLatin1_aae02 mJ0_isLatin1_aae02 d 0 0 [.ref (1000 + i)] E n (.inl (some (.int 1)), E, n) := by
  refine Cl.of (by decide) rfl (fun q => by cases q) rfl rfl (Nat.le_of_ble_eq_true rfl) ?_
  show Sm _ _ _ _ _ 0 [some (.ref (1000 + i))] [] _ _
  refine r_compact 3 dJ0_isLatin1_aae02_0 rfl w_cs ?_
  refine r_if_eq 6 17 dJ0_isLatin1_aae02_3 rfl (by decide) (fun h => absurd h (by decide)) (fun _ => ?_)
  refine r_aload_n 7 dJ0_isLatin1_aae02_6 rfl rfl ?_
  refine r_strC 10 dJ0_isLatin1_aae02_7 rfl w_co hq ?_
  refine r_if_ne 13 17 dJ0_isLatin1_aae02_10 rfl (by decide) (fun h => absurd rfl h) (fun _ => ?_)
  refine r_iconst (1) 14 dJ0_isLatin1_aae02_13 rfl (by decide) ?_
  refine r_goto 18 dJ0_isLatin1_aae02_14 (by decide) ?_
  exact r_zret dJ0_isLatin1_aae02_18 rfl rfl (by decide) rfl
set_option maxRecDepth 20000 in
theorem c_slen {d n i : Nat} {q : String × Nat × String × List Int32} {E : HP} (hq : stL[i]? = some q) : Cl yJ0_length_8abf5 mJ0_length_8abf5 (d + 1) 0 0 [.ref (1000 + i)] E n (.inl (some (.int (nI q.2.2.2.length))), E, n) := by
  refine Cl.of (by decide) rfl (fun q => by cases q) rfl rfl (Nat.le_of_ble_eq_true rfl) ?_
  show Sm _ _ _ _ _ 0 [some (.ref (1000 + i))] [] _ _
  refine r_aload_n 1 dJ0_length_8abf5_0 rfl rfl ?_
  refine r_strV 4 dJ0_length_8abf5_1 rfl w_va hq ?_
  refine r_blen 5 dJ0_length_8abf5_4 rfl hq ?_
  refine r_aload_n 6 dJ0_length_8abf5_5 rfl rfl ?_
  refine r_callVS (M := mJ0_length_8abf5) (pc := 6) 9 dJ0_length_8abf5_6 rfl k15_335 (c_coder hq) rfl rfl hq rfl (Nat.le_of_ble_eq_true rfl) ?_
  refine r_ishr 10 dJ0_length_8abf5_9 rfl ?_
  exact r_iret dJ0_length_8abf5_10 rfl rfl (out_eq (by rw [show (0 : Int32) &&& 31 = 0 by decide, Int32.shiftRight_zero]))
set_option maxRecDepth 20000 in
theorem c_pci {d n k l9 : Nat} {v : Value} {E : HP} (hk : k < l9) (hl : l9 < 100) (hv : v = Value.null ∨ v = Value.ref 1999) : Cl yJ3_checkIndex_8e157 mJ3_checkIndex_8e157 d 0 0 [.int (nI k), .int (nI l9), v] E n (.inl (some (.int (nI k))), E, n) := by
  rcases hv with e | e
  · subst e
    refine Cl.of (by decide) rfl (fun q => by cases q) rfl rfl (Nat.le_of_ble_eq_true rfl) ?_
    show Sm _ _ _ _ _ 0 [some (.int (nI k)), some (.int (nI l9)), some .null] [] _ _
    refine r_iload_n 1 dJ3_checkIndex_8e157_0 rfl rfl ?_
    refine r_if_lt 4 9 dJ3_checkIndex_8e157_1 rfl (by decide) (fun h => absurd h (nI_pos (by omega))) (fun _ => ?_)
    refine r_iload_n 5 dJ3_checkIndex_8e157_4 rfl rfl ?_
    refine r_iload_n 6 dJ3_checkIndex_8e157_5 rfl rfl ?_
    refine r_icmp_lt 9 16 dJ3_checkIndex_8e157_6 rfl (by decide) (fun _ => ?_) (fun h => absurd (nI_lt hk (by omega)) h)
    refine r_iload_n 17 dJ3_checkIndex_8e157_16 rfl rfl ?_
    exact r_iret dJ3_checkIndex_8e157_17 rfl rfl rfl
  · subst e
    refine Cl.of (by decide) rfl (fun q => by cases q) rfl rfl (Nat.le_of_ble_eq_true rfl) ?_
    show Sm _ _ _ _ _ 0 [some (.int (nI k)), some (.int (nI l9)), some (.ref 1999)] [] _ _
    refine r_iload_n 1 dJ3_checkIndex_8e157_0 rfl rfl ?_
    refine r_if_lt 4 9 dJ3_checkIndex_8e157_1 rfl (by decide) (fun h => absurd h (nI_pos (by omega))) (fun _ => ?_)
    refine r_iload_n 5 dJ3_checkIndex_8e157_4 rfl rfl ?_
    refine r_iload_n 6 dJ3_checkIndex_8e157_5 rfl rfl ?_
    refine r_icmp_lt 9 16 dJ3_checkIndex_8e157_6 rfl (by decide) (fun _ => ?_) (fun h => absurd (nI_lt hk (by omega)) h)
    refine r_iload_n 17 dJ3_checkIndex_8e157_16 rfl rfl ?_
    exact r_iret dJ3_checkIndex_8e157_17 rfl rfl rfl
set_option maxRecDepth 20000 in
theorem c_sci {d n k l9 : Nat} {E : HP} (hk : k < l9) (hl : l9 < 100) : Cl yJ0_checkIndex_df160 mJ0_checkIndex_df160 (d + 1) 0 0 [.int (nI k), .int (nI l9)] E n (.inl none, E, n) := by
  refine Cl.of (by decide) rfl (fun q => by cases q) rfl rfl (Nat.le_of_ble_eq_true rfl) ?_
  show Sm _ _ _ _ _ 0 [some (.int (nI k)), some (.int (nI l9))] [] _ _
  refine r_iload_n 1 dJ0_checkIndex_df160_0 rfl rfl ?_
  refine r_iload_n 2 dJ0_checkIndex_df160_1 rfl rfl ?_
  refine r_sio 5 dJ0_checkIndex_df160_2 rfl w_si (fun v hv => ?_)
  refine r_callS (M := mJ0_checkIndex_df160) (pc := 5) 8 dJ0_checkIndex_df160_5 rfl k15_1059 (c_pci (v := v) hk hl hv) rfl rfl (Nat.le_of_ble_eq_true rfl) ?_
  refine r_pop 9 dJ0_checkIndex_df160_8 rfl rfl ?_
  exact r_vret dJ0_checkIndex_df160_9 rfl rfl rfl
set_option maxRecDepth 20000 in
theorem c_lca {d n i k : Nat} {q : String × Nat × String × List Int32} {E : HP} (hq : stL[i]? = some q) (hk : k < q.2.2.2.length) : Cl yJ1_charAt_3b067 mJ1_charAt_3b067 (d + 2) 0 0 [.ref (1100 + i), .int (nI k)] E n (.inl (some (.int (q.2.2.2.getD k 0))), E, n) := by
  have hl := st_len hq
  obtain ⟨e1, e2, -⟩ := st_chr hq hk
  refine Cl.of (by decide) rfl (fun q => by cases q) rfl rfl (Nat.le_of_ble_eq_true rfl) ?_
  show Sm _ _ _ _ _ 0 [some (.ref (1100 + i)), some (.int (nI k))] [] _ _
  refine r_iload_n 1 dJ1_charAt_3b067_0 rfl rfl ?_
  refine r_aload_n 2 dJ1_charAt_3b067_1 rfl rfl ?_
  refine r_blen 3 dJ1_charAt_3b067_2 rfl hq ?_
  refine r_callS (M := mJ1_charAt_3b067) (pc := 3) 6 dJ1_charAt_3b067_3 rfl k16_9 (c_sci hk (by omega)) rfl rfl (Nat.le_of_ble_eq_true rfl) ?_
  refine r_aload_n 7 dJ1_charAt_3b067_6 rfl rfl ?_
  refine r_iload_n 8 dJ1_charAt_3b067_7 rfl rfl ?_
  refine r_bald 9 dJ1_charAt_3b067_8 rfl hq rfl hk (by omega) ?_
  refine r_sipush (255) 12 dJ1_charAt_3b067_9 rfl (by decide) ?_
  refine r_iand 13 dJ1_charAt_3b067_12 rfl ?_
  refine r_i2c 14 dJ1_charAt_3b067_13 rfl ?_
  rw [e1]
  exact r_cret dJ1_charAt_3b067_14 rfl rfl e2 rfl
set_option maxRecDepth 20000 in
theorem c_chr {d n i k : Nat} {q : String × Nat × String × List Int32} {E : HP} (hq : stL[i]? = some q) (hk : k < q.2.2.2.length) : Cl yJ0_charAt_5068e mJ0_charAt_5068e (d + 3) 0 0 [.ref (1000 + i), .int (nI k)] E n (.inl (some (.int (q.2.2.2.getD k 0))), E, n) := by
  obtain ⟨e1, e2, -⟩ := st_chr hq hk
  refine Cl.of (by decide) rfl (fun q => by cases q) rfl rfl (Nat.le_of_ble_eq_true rfl) ?_
  show Sm _ _ _ _ _ 0 [some (.ref (1000 + i)), some (.int (nI k))] [] _ _
  refine r_aload_n 1 dJ0_charAt_5068e_0 rfl rfl ?_
  refine r_callVS (M := mJ0_charAt_5068e) (pc := 1) 4 dJ0_charAt_5068e_1 rfl k15_492 (c_isLat hq) rfl rfl hq rfl (Nat.le_of_ble_eq_true rfl) ?_
  refine r_if_eq 7 16 dJ0_charAt_5068e_4 rfl (by decide) (fun h => absurd h (by decide)) (fun _ => ?_)
  refine r_aload_n 8 dJ0_charAt_5068e_7 rfl rfl ?_
  refine r_strV 11 dJ0_charAt_5068e_8 rfl w_va hq ?_
  refine r_iload_n 12 dJ0_charAt_5068e_11 rfl rfl ?_
  refine r_callS (M := mJ0_charAt_5068e) (pc := 12) 15 dJ0_charAt_5068e_12 rfl k15_495 (c_lca hq hk) rfl rfl (Nat.le_of_ble_eq_true rfl) ?_
  exact r_cret dJ0_charAt_5068e_15 rfl rfl e2 rfl
set_option maxRecDepth 20000 in
theorem c_can {d n : Nat} {c : Int32} {E : HP} (h0 : ¬ c < 0) (h1 : ¬ 255 < c) : Cl yJ1_canEncode_9a6ad mJ1_canEncode_9a6ad d 0 0 [.int c] E n (.inl (some (.int 1)), E, n) := by
  refine Cl.of (by decide) rfl (fun q => by cases q) rfl rfl (Nat.le_of_ble_eq_true rfl) ?_
  show Sm _ _ _ _ _ 0 [some (.int c)] [] _ _
  refine r_iload_n 1 dJ1_canEncode_9a6ad_0 rfl rfl ?_
  refine r_if_lt 4 15 dJ1_canEncode_9a6ad_1 rfl (by decide) (fun h => absurd h h0) (fun _ => ?_)
  refine r_iload_n 5 dJ1_canEncode_9a6ad_4 rfl rfl ?_
  refine r_sipush (255) 8 dJ1_canEncode_9a6ad_5 rfl (by decide) ?_
  refine r_icmp_gt 11 15 dJ1_canEncode_9a6ad_8 rfl (by decide) (fun h => absurd h h1) (fun _ => ?_)
  refine r_iconst (1) 12 dJ1_canEncode_9a6ad_11 rfl (by decide) ?_
  refine r_goto 16 dJ1_canEncode_9a6ad_12 (by decide) ?_
  exact r_zret dJ1_canEncode_9a6ad_16 rfl rfl (by decide) rfl
/-- from place k on, the first of a list's that is x: its place, or -1 -/
def ixF (x : Int32) (l : List Int32) : Nat → Nat → Int32
  | 0, _ => -1
  | j + 1, k => if l.getD k 0 = x then nI k else ixF x l j (k + 1)
theorem ix_sgn {x : Int32} {l : List Int32} : ∀ j k, k + j < 100000 → (¬ ixF x l j k < 0 ↔ ∃ i, k ≤ i ∧ i < k + j ∧ l.getD i 0 = x) := by
  intro j
  induction j with
  | zero => intro k hk; exact ⟨fun z => absurd (show ixF x l 0 k < 0 by show (-1 : Int32) < 0; decide) z, fun ⟨i, h1, h2, _⟩ => by omega⟩
  | succ j ih =>
    intro k hk
    unfold ixF
    by_cases h : l.getD k 0 = x
    · rw [if_pos h]; exact ⟨fun _ => ⟨k, Nat.le_refl k, by omega, h⟩, fun _ => nI_pos (by omega)⟩
    · rw [if_neg h, ih (k + 1) (by omega)]
      constructor
      · rintro ⟨i, h1, h2, h3⟩; exact ⟨i, by omega, by omega, h3⟩
      · rintro ⟨i, h1, h2, h3⟩
        refine ⟨i, ?_, by omega, h3⟩
        rcases Nat.lt_or_ge k i with z | z
        · omega
        · exact absurd h3 (by rw [show i = k by omega]; exact h)
set_option maxRecDepth 20000 in
theorem c_ixc {d n i : Nat} {c : Int32} {q : String × Nat × String × List Int32} {E : HP} (hq : stL[i]? = some q) : Cl yJ1_indexOfChar_4cfef mJ1_indexOfChar_4cfef d 0 0 [.ref (1100 + i), .int c, .int (nI 0), .int (nI q.2.2.2.length)] E n (.inl (some (.int (ixF c.toInt8.toInt32 q.2.2.2 q.2.2.2.length 0))), E, n) := by
  have hl := st_len hq
  refine Cl.of (by decide) rfl (fun q => by cases q) rfl rfl (Nat.le_of_ble_eq_true rfl) ?_
  show Sm _ _ _ _ _ 0 [some (.ref (1100 + i)), some (.int c), some (.int (nI 0)), some (.int (nI q.2.2.2.length)), none, none] [] _ _
  have loop := loopUp (P := fun k9 => Sm mJ1_indexOfChar_4cfef d 0 0 (.inl (some (.int (ixF c.toInt8.toInt32 q.2.2.2 (q.2.2.2.length - k9) k9))), E, n) 7 [some (.ref (1100 + i)), some (.int c), some (.int (nI 0)), some (.int (nI q.2.2.2.length)), some (.int c.toInt8.toInt32), some (.int (nI k9))] [] E n) (l := q.2.2.2.length) ?_ ?_
  · refine r_iload_n 1 dJ1_indexOfChar_4cfef_0 rfl rfl ?_
    refine r_i2b 2 dJ1_indexOfChar_4cfef_1 rfl ?_
    refine r_istore 4 dJ1_indexOfChar_4cfef_2 rfl (by decide) rfl ?_
    refine r_iload_n 5 dJ1_indexOfChar_4cfef_4 rfl rfl ?_
    refine r_istore 7 dJ1_indexOfChar_4cfef_5 rfl (by decide) rfl ?_
    exact loop
  · show Sm _ _ _ _ _ 7 _ _ _ _
    rw [Nat.sub_self]
    refine r_iload 9 dJ1_indexOfChar_4cfef_7 rfl rfl ?_
    refine r_iload_n 10 dJ1_indexOfChar_4cfef_9 rfl rfl ?_
    refine r_icmp_ge 13 31 dJ1_indexOfChar_4cfef_10 rfl (by decide) (fun _ => ?_) (fun h => absurd (nI_le (Nat.le_refl _) (by omega)) h)
    refine r_iconst (-1) 32 dJ1_indexOfChar_4cfef_31 rfl (by decide) ?_
    exact r_iret dJ1_indexOfChar_4cfef_32 rfl rfl rfl
  · intro k9 hk9 hq9
    show Sm _ _ _ _ _ 7 _ _ _ _
    obtain ⟨j, hj⟩ : ∃ j, q.2.2.2.length - k9 = j + 1 := ⟨q.2.2.2.length - k9 - 1, by omega⟩
    rw [show q.2.2.2.length - (k9 + 1) = j by omega] at hq9
    rw [hj]
    refine r_iload 9 dJ1_indexOfChar_4cfef_7 rfl rfl ?_
    refine r_iload_n 10 dJ1_indexOfChar_4cfef_9 rfl rfl ?_
    refine r_icmp_ge 13 31 dJ1_indexOfChar_4cfef_10 rfl (by decide) (fun h => absurd h (nI_ge hk9 (by omega))) (fun _ => ?_)
    refine r_aload_n 14 dJ1_indexOfChar_4cfef_13 rfl rfl ?_
    refine r_iload 16 dJ1_indexOfChar_4cfef_14 rfl rfl ?_
    refine r_bald 17 dJ1_indexOfChar_4cfef_16 rfl hq rfl hk9 (by omega) ?_
    refine r_iload 19 dJ1_indexOfChar_4cfef_17 rfl rfl ?_
    refine r_icmp_ne 22 25 dJ1_indexOfChar_4cfef_19 rfl (by decide) (fun h => ?_) (fun h => ?_)
    · rw [show ixF c.toInt8.toInt32 q.2.2.2 (j + 1) k9 = ixF c.toInt8.toInt32 q.2.2.2 j (k9 + 1) from if_neg h]
      refine r_iinc (1) 28 dJ1_indexOfChar_4cfef_25 rfl rfl (by decide) (by decide) rfl ?_
      refine r_goto 7 dJ1_indexOfChar_4cfef_28 (by decide) ?_
      rw [nI_pp]
      exact hq9
    · refine r_iload 24 dJ1_indexOfChar_4cfef_22 rfl rfl ?_
      exact r_iret dJ1_indexOfChar_4cfef_24 rfl rfl (out_eq (if_pos h))
set_option maxRecDepth 20000 in
theorem c_ix1 {d n i : Nat} {c : Int32} {q : String × Nat × String × List Int32} {E : HP} (hq : stL[i]? = some q) (h0 : ¬ c < 0) (h1 : ¬ 255 < c) (hl1 : 0 < q.2.2.2.length) : Cl yJ1_indexOf_4cfef mJ1_indexOf_4cfef (d + 1) 0 0 [.ref (1100 + i), .int c, .int (nI 0), .int (nI q.2.2.2.length)] E n (.inl (some (.int (ixF c.toInt8.toInt32 q.2.2.2 q.2.2.2.length 0))), E, n) := by
  have hl := st_len hq
  refine Cl.of (by decide) rfl (fun q => by cases q) rfl rfl (Nat.le_of_ble_eq_true rfl) ?_
  show Sm _ _ _ _ _ 0 [some (.ref (1100 + i)), some (.int c), some (.int (nI 0)), some (.int (nI q.2.2.2.length))] [] _ _
  refine r_iload_n 1 dJ1_indexOf_4cfef_0 rfl rfl ?_
  refine r_callS (M := mJ1_indexOf_4cfef) (pc := 1) 4 dJ1_indexOf_4cfef_1 rfl k16_88 (c_can h0 h1) rfl rfl (Nat.le_of_ble_eq_true rfl) ?_
  refine r_if_ne 7 9 dJ1_indexOf_4cfef_4 rfl (by decide) (fun _ => ?_) (fun h => absurd h (by decide))
  refine r_iload_n 10 dJ1_indexOf_4cfef_9 rfl rfl ?_
  refine r_iconst (0) 11 dJ1_indexOf_4cfef_10 rfl (by decide) ?_
  refine r_max 14 dJ1_indexOf_4cfef_11 rfl k16_92 (Nat.le_of_ble_eq_true rfl) ?_
  refine r_istore_n 15 dJ1_indexOf_4cfef_14 rfl (by decide) rfl ?_
  refine r_iload_n 16 dJ1_indexOf_4cfef_15 rfl rfl ?_
  refine r_aload_n 17 dJ1_indexOf_4cfef_16 rfl rfl ?_
  refine r_blen 18 dJ1_indexOf_4cfef_17 rfl hq ?_
  refine r_min 21 dJ1_indexOf_4cfef_18 rfl k16_38 (Nat.le_of_ble_eq_true rfl) ?_
  refine r_istore_n 22 dJ1_indexOf_4cfef_21 rfl (by decide) rfl ?_
  refine r_iload_n 23 dJ1_indexOf_4cfef_22 rfl rfl ?_
  refine r_iload_n 24 dJ1_indexOf_4cfef_23 rfl rfl ?_
  rw [show (if nI q.2.2.2.length < nI q.2.2.2.length then nI q.2.2.2.length else nI q.2.2.2.length) = nI q.2.2.2.length by split <;> rfl]
  rw [show (if nI 0 < (0 : Int32) then (0 : Int32) else nI 0) = nI 0 from rfl]
  refine r_icmp_lt 27 29 dJ1_indexOf_4cfef_24 rfl (by decide) (fun _ => ?_) (fun h => absurd (nI_lt hl1 (by omega)) h)
  refine r_aload_n 30 dJ1_indexOf_4cfef_29 rfl rfl ?_
  refine r_iload_n 31 dJ1_indexOf_4cfef_30 rfl rfl ?_
  refine r_iload_n 32 dJ1_indexOf_4cfef_31 rfl rfl ?_
  refine r_iload_n 33 dJ1_indexOf_4cfef_32 rfl rfl ?_
  refine r_callS (M := mJ1_indexOf_4cfef) (pc := 33) 36 dJ1_indexOf_4cfef_33 rfl k16_95 (c_ixc hq) rfl rfl (Nat.le_of_ble_eq_true rfl) ?_
  exact r_iret dJ1_indexOf_4cfef_36 rfl rfl rfl
set_option maxRecDepth 20000 in
theorem c_ix2 {d n i : Nat} {c : Int32} {q : String × Nat × String × List Int32} {E : HP} (hq : stL[i]? = some q) (h0 : ¬ c < 0) (h1 : ¬ 255 < c) (hl1 : 0 < q.2.2.2.length) : Cl yJ0_indexOf_7cf53 mJ0_indexOf_7cf53 (d + 2) 0 0 [.ref (1000 + i), .int c, .int (nI 0)] E n (.inl (some (.int (ixF c.toInt8.toInt32 q.2.2.2 q.2.2.2.length 0))), E, n) := by
  refine Cl.of (by decide) rfl (fun q => by cases q) rfl rfl (Nat.le_of_ble_eq_true rfl) ?_
  show Sm _ _ _ _ _ 0 [some (.ref (1000 + i)), some (.int c), some (.int (nI 0))] [] _ _
  refine r_aload_n 1 dJ0_indexOf_7cf53_0 rfl rfl ?_
  refine r_callVS (M := mJ0_indexOf_7cf53) (pc := 1) 4 dJ0_indexOf_7cf53_1 rfl k15_492 (c_isLat hq) rfl rfl hq rfl (Nat.le_of_ble_eq_true rfl) ?_
  refine r_if_eq 7 23 dJ0_indexOf_7cf53_4 rfl (by decide) (fun h => absurd h (by decide)) (fun _ => ?_)
  refine r_aload_n 8 dJ0_indexOf_7cf53_7 rfl rfl ?_
  refine r_strV 11 dJ0_indexOf_7cf53_8 rfl w_va hq ?_
  refine r_iload_n 12 dJ0_indexOf_7cf53_11 rfl rfl ?_
  refine r_iload_n 13 dJ0_indexOf_7cf53_12 rfl rfl ?_
  refine r_aload_n 14 dJ0_indexOf_7cf53_13 rfl rfl ?_
  refine r_callVS (M := mJ0_indexOf_7cf53) (pc := 14) 17 dJ0_indexOf_7cf53_14 rfl k15_505 (c_slen hq) rfl rfl hq rfl (Nat.le_of_ble_eq_true rfl) ?_
  refine r_callS (M := mJ0_indexOf_7cf53) (pc := 17) 20 dJ0_indexOf_7cf53_17 rfl k15_637 (c_ix1 hq h0 h1 hl1) rfl rfl (Nat.le_of_ble_eq_true rfl) ?_
  refine r_goto 36 dJ0_indexOf_7cf53_20 (by decide) ?_
  exact r_iret dJ0_indexOf_7cf53_36 rfl rfl rfl
set_option maxRecDepth 20000 in
theorem c_ix {d n i : Nat} {c : Int32} {q : String × Nat × String × List Int32} {E : HP} (hq : stL[i]? = some q) (h0 : ¬ c < 0) (h1 : ¬ 255 < c) (hl1 : 0 < q.2.2.2.length) : Cl yJ0_indexOf_0f7a4 mJ0_indexOf_0f7a4 (d + 3) 0 0 [.ref (1000 + i), .int c] E n (.inl (some (.int (ixF c.toInt8.toInt32 q.2.2.2 q.2.2.2.length 0))), E, n) := by
  refine Cl.of (by decide) rfl (fun q => by cases q) rfl rfl (Nat.le_of_ble_eq_true rfl) ?_
  show Sm _ _ _ _ _ 0 [some (.ref (1000 + i)), some (.int c)] [] _ _
  refine r_aload_n 1 dJ0_indexOf_0f7a4_0 rfl rfl ?_
  refine r_iload_n 2 dJ0_indexOf_0f7a4_1 rfl rfl ?_
  refine r_iconst (0) 3 dJ0_indexOf_0f7a4_2 rfl (by decide) ?_
  refine r_callVS (M := mJ0_indexOf_0f7a4) (pc := 3) 6 dJ0_indexOf_0f7a4_3 rfl k15_633 (c_ix2 hq h0 h1 hl1) rfl rfl hq rfl (Nat.le_of_ble_eq_true rfl) ?_
  exact r_iret dJ0_indexOf_0f7a4_6 rfl rfl rfl
