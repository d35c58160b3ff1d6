theorem dX12_takeOver_29 : decode cX12_takeOver 29 = .ok (.getfield 50, 3) := by decide +kernel
theorem dX12_takeOver_32 : decode cX12_takeOver 32 = .ok (.invokestatic 311, 3) := by decide +kernel
theorem dX12_takeOver_35 : decode cX12_takeOver 35 = .ok (.aload_n 0, 1) := by decide +kernel
theorem dX12_takeOver_36 : decode cX12_takeOver 36 = .ok (.getfield 53, 3) := by decide +kernel
theorem dX12_takeOver_39 : decode cX12_takeOver 39 = .ok (.invokestatic 311, 3) := by decide +kernel
theorem dX12_takeOver_42 : decode cX12_takeOver 42 = .ok (.aload_n 0, 1) := by decide +kernel
theorem dX12_takeOver_43 : decode cX12_takeOver 43 = .ok (.getfield 56, 3) := by decide +kernel
theorem dX12_takeOver_46 : decode cX12_takeOver 46 = .ok (.invokestatic 311, 3) := by decide +kernel
theorem dX12_takeOver_49 : decode cX12_takeOver 49 = .ok (.aload_n 0, 1) := by decide +kernel
theorem dX12_takeOver_50 : decode cX12_takeOver 50 = .ok (.getfield 59, 3) := by decide +kernel
theorem dX12_takeOver_53 : decode cX12_takeOver 53 = .ok (.invokestatic 311, 3) := by decide +kernel
theorem dX12_takeOver_56 : decode cX12_takeOver 56 = .ok (.aload_n 0, 1) := by decide +kernel
theorem dX12_takeOver_57 : decode cX12_takeOver 57 = .ok (.getfield 62, 3) := by decide +kernel
theorem dX12_takeOver_60 : decode cX12_takeOver 60 = .ok (.invokestatic 311, 3) := by decide +kernel
theorem dX12_takeOver_63 : decode cX12_takeOver 63 = .ok (.iconst 0, 1) := by decide +kernel
theorem dX12_takeOver_64 : decode cX12_takeOver 64 = .ok (.istore_n 1, 1) := by decide +kernel
theorem dX12_takeOver_65 : decode cX12_takeOver 65 = .ok (.iload_n 1, 1) := by decide +kernel
theorem dX12_takeOver_66 : decode cX12_takeOver 66 = .ok (.bipush 7, 2) := by decide +kernel
theorem dX12_takeOver_68 : decode cX12_takeOver 68 = .ok (.if_icmp .ge 16, 3) := by decide +kernel
theorem dX12_takeOver_71 : decode cX12_takeOver 71 = .ok (.aload_n 0, 1) := by decide +kernel
theorem dX12_takeOver_72 : decode cX12_takeOver 72 = .ok (.getfield 75, 3) := by decide +kernel
theorem dX12_takeOver_75 : decode cX12_takeOver 75 = .ok (.iload_n 1, 1) := by decide +kernel
theorem dX12_takeOver_76 : decode cX12_takeOver 76 = .ok (.iload_n 1, 1) := by decide +kernel
theorem dX12_takeOver_77 : decode cX12_takeOver 77 = .ok (.iastore, 1) := by decide +kernel
theorem dX12_takeOver_78 : decode cX12_takeOver 78 = .ok (.iinc 1 1, 3) := by decide +kernel
theorem dX12_takeOver_81 : decode cX12_takeOver 81 = .ok (.goto (-16), 3) := by decide +kernel
theorem dX12_takeOver_84 : decode cX12_takeOver 84 = .ok (.aload_n 0, 1) := by decide +kernel
theorem dX12_takeOver_85 : decode cX12_takeOver 85 = .ok (.iconst 0, 1) := by decide +kernel
theorem dX12_takeOver_86 : decode cX12_takeOver 86 = .ok (.putfield 315, 3) := by decide +kernel
theorem dX12_takeOver_89 : decode cX12_takeOver 89 = .ok (.aload_n 0, 1) := by decide +kernel
theorem dX12_takeOver_90 : decode cX12_takeOver 90 = .ok (.iconst (-1), 1) := by decide +kernel
theorem dX12_takeOver_91 : decode cX12_takeOver 91 = .ok (.putfield 81, 3) := by decide +kernel
theorem dX12_takeOver_94 : decode cX12_takeOver 94 = .ok (.aload_n 0, 1) := by decide +kernel
theorem dX12_takeOver_95 : decode cX12_takeOver 95 = .ok (.iconst 0, 1) := by decide +kernel
theorem dX12_takeOver_96 : decode cX12_takeOver 96 = .ok (.putfield 318, 3) := by decide +kernel
theorem dX12_takeOver_99 : decode cX12_takeOver 99 = .ok (.aload_n 0, 1) := by decide +kernel
theorem dX12_takeOver_100 : decode cX12_takeOver 100 = .ok (.aload_n 0, 1) := by decide +kernel
theorem dX12_takeOver_101 : decode cX12_takeOver 101 = .ok (.getfield 38, 3) := by decide +kernel
theorem dX12_takeOver_104 : decode cX12_takeOver 104 = .ok (.iconst 5, 1) := by decide +kernel
theorem dX12_takeOver_105 : decode cX12_takeOver 105 = .ok (.iaload, 1) := by decide +kernel
theorem dX12_takeOver_106 : decode cX12_takeOver 106 = .ok (.putfield 321, 3) := by decide +kernel
theorem dX12_takeOver_109 : decode cX12_takeOver 109 = .ok (.aload_n 0, 1) := by decide +kernel
theorem dX12_takeOver_110 : decode cX12_takeOver 110 = .ok (.iconst 0, 1) := by decide +kernel
theorem dX12_takeOver_111 : decode cX12_takeOver 111 = .ok (.putfield 324, 3) := by decide +kernel
theorem dX12_takeOver_114 : decode cX12_takeOver 114 = .ok (.aload_n 0, 1) := by decide +kernel
theorem dX12_takeOver_115 : decode cX12_takeOver 115 = .ok (.iconst 0, 1) := by decide +kernel
theorem dX12_takeOver_116 : decode cX12_takeOver 116 = .ok (.putfield 327, 3) := by decide +kernel
theorem dX12_takeOver_119 : decode cX12_takeOver 119 = .ok (.aload_n 0, 1) := by decide +kernel
theorem dX12_takeOver_120 : decode cX12_takeOver 120 = .ok (.iconst 0, 1) := by decide +kernel
theorem dX12_takeOver_121 : decode cX12_takeOver 121 = .ok (.putfield 330, 3) := by decide +kernel
theorem dX12_takeOver_124 : decode cX12_takeOver 124 = .ok (.aload_n 0, 1) := by decide +kernel
theorem dX12_takeOver_125 : decode cX12_takeOver 125 = .ok (.iconst 0, 1) := by decide +kernel
theorem dX12_takeOver_126 : decode cX12_takeOver 126 = .ok (.putfield 334, 3) := by decide +kernel
theorem dX12_takeOver_129 : decode cX12_takeOver 129 = .ok (.return_, 1) := by decide +kernel
theorem dX12_fault_0 : decode cX12_fault 0 = .ok (.aload_n 0, 1) := by decide +kernel
theorem dX12_fault_1 : decode cX12_fault 1 = .ok (.iconst 0, 1) := by decide +kernel
theorem dX12_fault_2 : decode cX12_fault 2 = .ok (.putfield 159, 3) := by decide +kernel
theorem dX12_fault_5 : decode cX12_fault 5 = .ok (.aload_n 0, 1) := by decide +kernel
theorem dX12_fault_6 : decode cX12_fault 6 = .ok (.getfield 71, 3) := by decide +kernel
theorem dX12_fault_9 : decode cX12_fault 9 = .ok (.ireturn, 1) := by decide +kernel
theorem dX12_pack_0 : decode cX12_pack 0 = .ok (.iconst 0, 1) := by decide +kernel
theorem dX12_pack_1 : decode cX12_pack 1 = .ok (.istore_n 3, 1) := by decide +kernel
theorem dX12_pack_2 : decode cX12_pack 2 = .ok (.iload_n 3, 1) := by decide +kernel
theorem dX12_pack_3 : decode cX12_pack 3 = .ok (.bipush 7, 2) := by decide +kernel
theorem dX12_pack_5 : decode cX12_pack 5 = .ok (.if_icmp .ge 34, 3) := by decide +kernel
theorem dX12_pack_8 : decode cX12_pack 8 = .ok (.aload_n 1, 1) := by decide +kernel
theorem dX12_pack_9 : decode cX12_pack 9 = .ok (.iload_n 2, 1) := by decide +kernel
theorem dX12_pack_10 : decode cX12_pack 10 = .ok (.iload_n 3, 1) := by decide +kernel
theorem dX12_pack_11 : decode cX12_pack 11 = .ok (.iadd, 1) := by decide +kernel
theorem dX12_pack_12 : decode cX12_pack 12 = .ok (.aload_n 0, 1) := by decide +kernel
theorem dX12_pack_13 : decode cX12_pack 13 = .ok (.getfield 75, 3) := by decide +kernel
theorem dX12_pack_16 : decode cX12_pack 16 = .ok (.iload_n 3, 1) := by decide +kernel
theorem dX12_pack_17 : decode cX12_pack 17 = .ok (.iaload, 1) := by decide +kernel
theorem dX12_pack_18 : decode cX12_pack 18 = .ok (.iastore, 1) := by decide +kernel
theorem dX12_pack_19 : decode cX12_pack 19 = .ok (.aload_n 1, 1) := by decide +kernel
theorem dX12_pack_20 : decode cX12_pack 20 = .ok (.iload_n 2, 1) := by decide +kernel
theorem dX12_pack_21 : decode cX12_pack 21 = .ok (.bipush 7, 2) := by decide +kernel
theorem dX12_pack_23 : decode cX12_pack 23 = .ok (.iadd, 1) := by decide +kernel
theorem dX12_pack_24 : decode cX12_pack 24 = .ok (.iload_n 3, 1) := by decide +kernel
theorem dX12_pack_25 : decode cX12_pack 25 = .ok (.iadd, 1) := by decide +kernel
theorem dX12_pack_26 : decode cX12_pack 26 = .ok (.aload_n 0, 1) := by decide +kernel
theorem dX12_pack_27 : decode cX12_pack 27 = .ok (.getfield 53, 3) := by decide +kernel
theorem dX12_pack_30 : decode cX12_pack 30 = .ok (.iload_n 3, 1) := by decide +kernel
theorem dX12_pack_31 : decode cX12_pack 31 = .ok (.iaload, 1) := by decide +kernel
theorem dX12_pack_32 : decode cX12_pack 32 = .ok (.iastore, 1) := by decide +kernel
theorem dX12_pack_33 : decode cX12_pack 33 = .ok (.iinc 3 1, 3) := by decide +kernel
theorem dX12_pack_36 : decode cX12_pack 36 = .ok (.goto (-34), 3) := by decide +kernel
theorem dX12_pack_39 : decode cX12_pack 39 = .ok (.iload_n 2, 1) := by decide +kernel
theorem dX12_pack_40 : decode cX12_pack 40 = .ok (.bipush 14, 2) := by decide +kernel
theorem dX12_pack_42 : decode cX12_pack 42 = .ok (.iadd, 1) := by decide +kernel
theorem dX12_pack_43 : decode cX12_pack 43 = .ok (.istore_n 3, 1) := by decide +kernel
theorem dX12_pack_44 : decode cX12_pack 44 = .ok (.aload_n 1, 1) := by decide +kernel
theorem dX12_pack_45 : decode cX12_pack 45 = .ok (.iload_n 3, 1) := by decide +kernel
theorem dX12_pack_46 : decode cX12_pack 46 = .ok (.aload_n 0, 1) := by decide +kernel
theorem dX12_pack_47 : decode cX12_pack 47 = .ok (.getfield 315, 3) := by decide +kernel
theorem dX12_pack_50 : decode cX12_pack 50 = .ok (.iastore, 1) := by decide +kernel
theorem dX12_pack_51 : decode cX12_pack 51 = .ok (.aload_n 1, 1) := by decide +kernel
theorem dX12_pack_52 : decode cX12_pack 52 = .ok (.iload_n 3, 1) := by decide +kernel
theorem dX12_pack_53 : decode cX12_pack 53 = .ok (.iconst 1, 1) := by decide +kernel
theorem dX12_pack_54 : decode cX12_pack 54 = .ok (.iadd, 1) := by decide +kernel
theorem dX12_pack_55 : decode cX12_pack 55 = .ok (.aload_n 0, 1) := by decide +kernel
theorem dX12_pack_56 : decode cX12_pack 56 = .ok (.getfield 81, 3) := by decide +kernel
theorem dX12_pack_59 : decode cX12_pack 59 = .ok (.iastore, 1) := by decide +kernel
theorem dX12_pack_60 : decode cX12_pack 60 = .ok (.aload_n 1, 1) := by decide +kernel
theorem dX12_pack_61 : decode cX12_pack 61 = .ok (.iload_n 3, 1) := by decide +kernel
theorem dX12_pack_62 : decode cX12_pack 62 = .ok (.iconst 2, 1) := by decide +kernel
theorem dX12_pack_63 : decode cX12_pack 63 = .ok (.iadd, 1) := by decide +kernel
theorem dX12_pack_64 : decode cX12_pack 64 = .ok (.aload_n 0, 1) := by decide +kernel
theorem dX12_pack_65 : decode cX12_pack 65 = .ok (.getfield 318, 3) := by decide +kernel
theorem dX12_pack_68 : decode cX12_pack 68 = .ok (.iastore, 1) := by decide +kernel
theorem dX12_pack_69 : decode cX12_pack 69 = .ok (.aload_n 1, 1) := by decide +kernel
theorem dX12_pack_70 : decode cX12_pack 70 = .ok (.iload_n 3, 1) := by decide +kernel
theorem dX12_pack_71 : decode cX12_pack 71 = .ok (.iconst 3, 1) := by decide +kernel
theorem dX12_pack_72 : decode cX12_pack 72 = .ok (.iadd, 1) := by decide +kernel
theorem dX12_pack_73 : decode cX12_pack 73 = .ok (.aload_n 0, 1) := by decide +kernel
theorem dX12_pack_74 : decode cX12_pack 74 = .ok (.getfield 321, 3) := by decide +kernel
theorem dX12_pack_77 : decode cX12_pack 77 = .ok (.iastore, 1) := by decide +kernel
theorem dX12_pack_78 : decode cX12_pack 78 = .ok (.return_, 1) := by decide +kernel
theorem dX12_unpack_0 : decode cX12_unpack 0 = .ok (.iconst 0, 1) := by decide +kernel
theorem dX12_unpack_1 : decode cX12_unpack 1 = .ok (.istore_n 3, 1) := by decide +kernel
theorem dX12_unpack_2 : decode cX12_unpack 2 = .ok (.iload_n 3, 1) := by decide +kernel
theorem dX12_unpack_3 : decode cX12_unpack 3 = .ok (.bipush 7, 2) := by decide +kernel
theorem dX12_unpack_5 : decode cX12_unpack 5 = .ok (.if_icmp .ge 34, 3) := by decide +kernel
theorem dX12_unpack_8 : decode cX12_unpack 8 = .ok (.aload_n 0, 1) := by decide +kernel
theorem dX12_unpack_9 : decode cX12_unpack 9 = .ok (.getfield 75, 3) := by decide +kernel
theorem dX12_unpack_12 : decode cX12_unpack 12 = .ok (.iload_n 3, 1) := by decide +kernel
theorem dX12_unpack_13 : decode cX12_unpack 13 = .ok (.aload_n 1, 1) := by decide +kernel
theorem dX12_unpack_14 : decode cX12_unpack 14 = .ok (.iload_n 2, 1) := by decide +kernel
theorem dX12_unpack_15 : decode cX12_unpack 15 = .ok (.iload_n 3, 1) := by decide +kernel
theorem dX12_unpack_16 : decode cX12_unpack 16 = .ok (.iadd, 1) := by decide +kernel
theorem dX12_unpack_17 : decode cX12_unpack 17 = .ok (.iaload, 1) := by decide +kernel
theorem dX12_unpack_18 : decode cX12_unpack 18 = .ok (.iastore, 1) := by decide +kernel
theorem dX12_unpack_19 : decode cX12_unpack 19 = .ok (.aload_n 0, 1) := by decide +kernel
theorem dX12_unpack_20 : decode cX12_unpack 20 = .ok (.getfield 53, 3) := by decide +kernel
theorem dX12_unpack_23 : decode cX12_unpack 23 = .ok (.iload_n 3, 1) := by decide +kernel
theorem dX12_unpack_24 : decode cX12_unpack 24 = .ok (.aload_n 1, 1) := by decide +kernel
theorem dX12_unpack_25 : decode cX12_unpack 25 = .ok (.iload_n 2, 1) := by decide +kernel
theorem dX12_unpack_26 : decode cX12_unpack 26 = .ok (.bipush 7, 2) := by decide +kernel
theorem dX12_unpack_28 : decode cX12_unpack 28 = .ok (.iadd, 1) := by decide +kernel
theorem dX12_unpack_29 : decode cX12_unpack 29 = .ok (.iload_n 3, 1) := by decide +kernel
theorem dX12_unpack_30 : decode cX12_unpack 30 = .ok (.iadd, 1) := by decide +kernel
theorem dX12_unpack_31 : decode cX12_unpack 31 = .ok (.iaload, 1) := by decide +kernel
theorem dX12_unpack_32 : decode cX12_unpack 32 = .ok (.iastore, 1) := by decide +kernel
theorem dX12_unpack_33 : decode cX12_unpack 33 = .ok (.iinc 3 1, 3) := by decide +kernel
theorem dX12_unpack_36 : decode cX12_unpack 36 = .ok (.goto (-34), 3) := by decide +kernel
theorem dX12_unpack_39 : decode cX12_unpack 39 = .ok (.iload_n 2, 1) := by decide +kernel
theorem dX12_unpack_40 : decode cX12_unpack 40 = .ok (.bipush 14, 2) := by decide +kernel
theorem dX12_unpack_42 : decode cX12_unpack 42 = .ok (.iadd, 1) := by decide +kernel
theorem dX12_unpack_43 : decode cX12_unpack 43 = .ok (.istore_n 3, 1) := by decide +kernel
theorem dX12_unpack_44 : decode cX12_unpack 44 = .ok (.aload_n 0, 1) := by decide +kernel
theorem dX12_unpack_45 : decode cX12_unpack 45 = .ok (.aload_n 1, 1) := by decide +kernel
theorem dX12_unpack_46 : decode cX12_unpack 46 = .ok (.iload_n 3, 1) := by decide +kernel
theorem dX12_unpack_47 : decode cX12_unpack 47 = .ok (.iaload, 1) := by decide +kernel
theorem dX12_unpack_48 : decode cX12_unpack 48 = .ok (.putfield 315, 3) := by decide +kernel
theorem dX12_unpack_51 : decode cX12_unpack 51 = .ok (.aload_n 0, 1) := by decide +kernel
theorem dX12_unpack_52 : decode cX12_unpack 52 = .ok (.aload_n 1, 1) := by decide +kernel
theorem dX12_unpack_53 : decode cX12_unpack 53 = .ok (.iload_n 3, 1) := by decide +kernel
theorem dX12_unpack_54 : decode cX12_unpack 54 = .ok (.iconst 1, 1) := by decide +kernel
theorem dX12_unpack_55 : decode cX12_unpack 55 = .ok (.iadd, 1) := by decide +kernel
theorem dX12_unpack_56 : decode cX12_unpack 56 = .ok (.iaload, 1) := by decide +kernel
theorem dX12_unpack_57 : decode cX12_unpack 57 = .ok (.putfield 81, 3) := by decide +kernel
theorem dX12_unpack_60 : decode cX12_unpack 60 = .ok (.aload_n 0, 1) := by decide +kernel
theorem dX12_unpack_61 : decode cX12_unpack 61 = .ok (.aload_n 1, 1) := by decide +kernel
theorem dX12_unpack_62 : decode cX12_unpack 62 = .ok (.iload_n 3, 1) := by decide +kernel
theorem dX12_unpack_63 : decode cX12_unpack 63 = .ok (.iconst 2, 1) := by decide +kernel
theorem dX12_unpack_64 : decode cX12_unpack 64 = .ok (.iadd, 1) := by decide +kernel
theorem dX12_unpack_65 : decode cX12_unpack 65 = .ok (.iaload, 1) := by decide +kernel
theorem dX12_unpack_66 : decode cX12_unpack 66 = .ok (.putfield 318, 3) := by decide +kernel
theorem dX12_unpack_69 : decode cX12_unpack 69 = .ok (.aload_n 0, 1) := by decide +kernel
theorem dX12_unpack_70 : decode cX12_unpack 70 = .ok (.aload_n 1, 1) := by decide +kernel
theorem dX12_unpack_71 : decode cX12_unpack 71 = .ok (.iload_n 3, 1) := by decide +kernel
theorem dX12_unpack_72 : decode cX12_unpack 72 = .ok (.iconst 3, 1) := by decide +kernel
theorem dX12_unpack_73 : decode cX12_unpack 73 = .ok (.iadd, 1) := by decide +kernel
theorem dX12_unpack_74 : decode cX12_unpack 74 = .ok (.iaload, 1) := by decide +kernel
theorem dX12_unpack_75 : decode cX12_unpack 75 = .ok (.putfield 321, 3) := by decide +kernel
theorem dX12_unpack_78 : decode cX12_unpack 78 = .ok (.return_, 1) := by decide +kernel
theorem dX12_reckon_0 : decode cX12_reckon 0 = .ok (.iload_n 0, 1) := by decide +kernel
theorem dX12_reckon_1 : decode cX12_reckon 1 = .ok (.tableswitch 103 (-26) (-20) #[89, 78, 67, 55, 51, 47, 43], 43) := by decide +kernel
theorem dX12_reckon_44 : decode cX12_reckon 44 = .ok (.iload_n 1, 1) := by decide +kernel
theorem dX12_reckon_45 : decode cX12_reckon 45 = .ok (.iload_n 2, 1) := by decide +kernel
theorem dX12_reckon_46 : decode cX12_reckon 46 = .ok (.iadd, 1) := by decide +kernel
theorem dX12_reckon_47 : decode cX12_reckon 47 = .ok (.ireturn, 1) := by decide +kernel
theorem dX12_reckon_48 : decode cX12_reckon 48 = .ok (.iload_n 1, 1) := by decide +kernel
theorem dX12_reckon_49 : decode cX12_reckon 49 = .ok (.iload_n 2, 1) := by decide +kernel
theorem dX12_reckon_50 : decode cX12_reckon 50 = .ok (.isub, 1) := by decide +kernel
theorem dX12_reckon_51 : decode cX12_reckon 51 = .ok (.ireturn, 1) := by decide +kernel
theorem dX12_reckon_52 : decode cX12_reckon 52 = .ok (.iload_n 1, 1) := by decide +kernel
theorem dX12_reckon_53 : decode cX12_reckon 53 = .ok (.iload_n 2, 1) := by decide +kernel
theorem dX12_reckon_54 : decode cX12_reckon 54 = .ok (.imul, 1) := by decide +kernel
theorem dX12_reckon_55 : decode cX12_reckon 55 = .ok (.ireturn, 1) := by decide +kernel
theorem dX12_reckon_56 : decode cX12_reckon 56 = .ok (.iload_n 2, 1) := by decide +kernel
theorem dX12_reckon_57 : decode cX12_reckon 57 = .ok (.ifCond .ne 7, 3) := by decide +kernel
theorem dX12_reckon_60 : decode cX12_reckon 60 = .ok (.iconst 0, 1) := by decide +kernel
theorem dX12_reckon_61 : decode cX12_reckon 61 = .ok (.goto 6, 3) := by decide +kernel
theorem dX12_reckon_64 : decode cX12_reckon 64 = .ok (.iload_n 1, 1) := by decide +kernel
theorem dX12_reckon_65 : decode cX12_reckon 65 = .ok (.iload_n 2, 1) := by decide +kernel
theorem dX12_reckon_66 : decode cX12_reckon 66 = .ok (.idiv, 1) := by decide +kernel
theorem dX12_reckon_67 : decode cX12_reckon 67 = .ok (.ireturn, 1) := by decide +kernel
theorem dX12_reckon_68 : decode cX12_reckon 68 = .ok (.iload_n 1, 1) := by decide +kernel
theorem dX12_reckon_69 : decode cX12_reckon 69 = .ok (.iload_n 2, 1) := by decide +kernel
theorem dX12_reckon_70 : decode cX12_reckon 70 = .ok (.if_icmp .ge 7, 3) := by decide +kernel
theorem dX12_reckon_73 : decode cX12_reckon 73 = .ok (.iconst 1, 1) := by decide +kernel
theorem dX12_reckon_74 : decode cX12_reckon 74 = .ok (.goto 4, 3) := by decide +kernel
theorem dX12_reckon_77 : decode cX12_reckon 77 = .ok (.iconst 0, 1) := by decide +kernel
theorem dX12_reckon_78 : decode cX12_reckon 78 = .ok (.ireturn, 1) := by decide +kernel
theorem dX12_reckon_79 : decode cX12_reckon 79 = .ok (.iload_n 1, 1) := by decide +kernel
theorem dX12_reckon_80 : decode cX12_reckon 80 = .ok (.iload_n 2, 1) := by decide +kernel
theorem dX12_reckon_81 : decode cX12_reckon 81 = .ok (.if_icmp .ne 7, 3) := by decide +kernel
theorem dX12_reckon_84 : decode cX12_reckon 84 = .ok (.iconst 1, 1) := by decide +kernel
theorem dX12_reckon_85 : decode cX12_reckon 85 = .ok (.goto 4, 3) := by decide +kernel
theorem dX12_reckon_88 : decode cX12_reckon 88 = .ok (.iconst 0, 1) := by decide +kernel
theorem dX12_reckon_89 : decode cX12_reckon 89 = .ok (.ireturn, 1) := by decide +kernel
theorem dX12_reckon_90 : decode cX12_reckon 90 = .ok (.iload_n 1, 1) := by decide +kernel
theorem dX12_reckon_91 : decode cX12_reckon 91 = .ok (.ifCond .eq 11, 3) := by decide +kernel
theorem dX12_reckon_94 : decode cX12_reckon 94 = .ok (.iload_n 2, 1) := by decide +kernel
theorem dX12_reckon_95 : decode cX12_reckon 95 = .ok (.ifCond .eq 7, 3) := by decide +kernel
theorem dX12_reckon_98 : decode cX12_reckon 98 = .ok (.iconst 1, 1) := by decide +kernel
theorem dX12_reckon_99 : decode cX12_reckon 99 = .ok (.goto 4, 3) := by decide +kernel
theorem dX12_reckon_102 : decode cX12_reckon 102 = .ok (.iconst 0, 1) := by decide +kernel
theorem dX12_reckon_103 : decode cX12_reckon 103 = .ok (.ireturn, 1) := by decide +kernel
theorem dX12_reckon_104 : decode cX12_reckon 104 = .ok (.iload_n 1, 1) := by decide +kernel
theorem dX12_reckon_105 : decode cX12_reckon 105 = .ok (.ifCond .ne 7, 3) := by decide +kernel
theorem dX12_reckon_108 : decode cX12_reckon 108 = .ok (.iload_n 2, 1) := by decide +kernel
theorem dX12_reckon_109 : decode cX12_reckon 109 = .ok (.ifCond .eq 7, 3) := by decide +kernel
theorem dX12_reckon_112 : decode cX12_reckon 112 = .ok (.iconst 1, 1) := by decide +kernel
theorem dX12_reckon_113 : decode cX12_reckon 113 = .ok (.goto 4, 3) := by decide +kernel
theorem dX12_reckon_116 : decode cX12_reckon 116 = .ok (.iconst 0, 1) := by decide +kernel
theorem dX12_reckon_117 : decode cX12_reckon 117 = .ok (.ireturn, 1) := by decide +kernel
theorem dX12_valueNow_0 : decode cX12_valueNow 0 = .ok (.iconst 0, 1) := by decide +kernel
theorem dX12_valueNow_1 : decode cX12_valueNow 1 = .ok (.istore_n 1, 1) := by decide +kernel
theorem dX12_valueNow_2 : decode cX12_valueNow 2 = .ok (.iconst 0, 1) := by decide +kernel
theorem dX12_valueNow_3 : decode cX12_valueNow 3 = .ok (.istore_n 2, 1) := by decide +kernel
theorem dX12_valueNow_4 : decode cX12_valueNow 4 = .ok (.iload_n 2, 1) := by decide +kernel
theorem dX12_valueNow_5 : decode cX12_valueNow 5 = .ok (.aload_n 0, 1) := by decide +kernel
theorem dX12_valueNow_6 : decode cX12_valueNow 6 = .ok (.getfield 38, 3) := by decide +kernel
theorem dX12_valueNow_9 : decode cX12_valueNow 9 = .ok (.bipush 7, 2) := by decide +kernel
theorem dX12_valueNow_11 : decode cX12_valueNow 11 = .ok (.iaload, 1) := by decide +kernel
theorem dX12_valueNow_12 : decode cX12_valueNow 12 = .ok (.if_icmp .ge 112, 3) := by decide +kernel
theorem dX12_valueNow_15 : decode cX12_valueNow 15 = .ok (.aload_n 0, 1) := by decide +kernel
theorem dX12_valueNow_16 : decode cX12_valueNow 16 = .ok (.getfield 62, 3) := by decide +kernel
theorem dX12_valueNow_19 : decode cX12_valueNow 19 = .ok (.iload_n 2, 1) := by decide +kernel
theorem dX12_valueNow_20 : decode cX12_valueNow 20 = .ok (.iaload, 1) := by decide +kernel
theorem dX12_valueNow_21 : decode cX12_valueNow 21 = .ok (.istore_n 3, 1) := by decide +kernel
theorem dX12_valueNow_22 : decode cX12_valueNow 22 = .ok (.iload_n 3, 1) := by decide +kernel
theorem dX12_valueNow_23 : decode cX12_valueNow 23 = .ok (.bipush (-20), 2) := by decide +kernel
theorem dX12_valueNow_25 : decode cX12_valueNow 25 = .ok (.if_icmp .le 31, 3) := by decide +kernel
theorem dX12_valueNow_28 : decode cX12_valueNow 28 = .ok (.aload_n 0, 1) := by decide +kernel
theorem dX12_valueNow_29 : decode cX12_valueNow 29 = .ok (.getfield 87, 3) := by decide +kernel
theorem dX12_valueNow_32 : decode cX12_valueNow 32 = .ok (.iload_n 1, 1) := by decide +kernel
theorem dX12_valueNow_33 : decode cX12_valueNow 33 = .ok (.iload_n 3, 1) := by decide +kernel
theorem dX12_valueNow_34 : decode cX12_valueNow 34 = .ok (.ifCond .lt 7, 3) := by decide +kernel
theorem dX12_valueNow_37 : decode cX12_valueNow 37 = .ok (.iload_n 3, 1) := by decide +kernel
theorem dX12_valueNow_38 : decode cX12_valueNow 38 = .ok (.goto 11, 3) := by decide +kernel
theorem dX12_valueNow_41 : decode cX12_valueNow 41 = .ok (.aload_n 0, 1) := by decide +kernel
theorem dX12_valueNow_42 : decode cX12_valueNow 42 = .ok (.getfield 84, 3) := by decide +kernel
theorem dX12_valueNow_45 : decode cX12_valueNow 45 = .ok (.iconst (-1), 1) := by decide +kernel
theorem dX12_valueNow_46 : decode cX12_valueNow 46 = .ok (.iload_n 3, 1) := by decide +kernel
theorem dX12_valueNow_47 : decode cX12_valueNow 47 = .ok (.isub, 1) := by decide +kernel
theorem dX12_valueNow_48 : decode cX12_valueNow 48 = .ok (.iaload, 1) := by decide +kernel
theorem dX12_valueNow_49 : decode cX12_valueNow 49 = .ok (.iastore, 1) := by decide +kernel
theorem dX12_valueNow_50 : decode cX12_valueNow 50 = .ok (.iinc 1 1, 3) := by decide +kernel
theorem dX12_valueNow_53 : decode cX12_valueNow 53 = .ok (.goto 65, 3) := by decide +kernel
theorem dX12_valueNow_56 : decode cX12_valueNow 56 = .ok (.iload_n 3, 1) := by decide +kernel
theorem dX12_valueNow_57 : decode cX12_valueNow 57 = .ok (.bipush (-28), 2) := by decide +kernel
theorem dX12_valueNow_59 : decode cX12_valueNow 59 = .ok (.if_icmp .ne 30, 3) := by decide +kernel
theorem dX12_valueNow_62 : decode cX12_valueNow 62 = .ok (.aload_n 0, 1) := by decide +kernel
theorem dX12_valueNow_63 : decode cX12_valueNow 63 = .ok (.getfield 87, 3) := by decide +kernel
theorem dX12_valueNow_66 : decode cX12_valueNow 66 = .ok (.iload_n 1, 1) := by decide +kernel
theorem dX12_valueNow_67 : decode cX12_valueNow 67 = .ok (.iconst 1, 1) := by decide +kernel
theorem dX12_valueNow_68 : decode cX12_valueNow 68 = .ok (.isub, 1) := by decide +kernel
theorem dX12_valueNow_69 : decode cX12_valueNow 69 = .ok (.aload_n 0, 1) := by decide +kernel
theorem dX12_valueNow_70 : decode cX12_valueNow 70 = .ok (.getfield 87, 3) := by decide +kernel
theorem dX12_valueNow_73 : decode cX12_valueNow 73 = .ok (.iload_n 1, 1) := by decide +kernel
theorem dX12_valueNow_74 : decode cX12_valueNow 74 = .ok (.iconst 1, 1) := by decide +kernel
theorem dX12_valueNow_75 : decode cX12_valueNow 75 = .ok (.isub, 1) := by decide +kernel
theorem dX12_valueNow_76 : decode cX12_valueNow 76 = .ok (.iaload, 1) := by decide +kernel
theorem dX12_valueNow_77 : decode cX12_valueNow 77 = .ok (.ifCond .eq 7, 3) := by decide +kernel
theorem dX12_valueNow_80 : decode cX12_valueNow 80 = .ok (.iconst 0, 1) := by decide +kernel
theorem dX12_valueNow_81 : decode cX12_valueNow 81 = .ok (.goto 4, 3) := by decide +kernel
theorem dX12_valueNow_84 : decode cX12_valueNow 84 = .ok (.iconst 1, 1) := by decide +kernel
theorem dX12_valueNow_85 : decode cX12_valueNow 85 = .ok (.iastore, 1) := by decide +kernel
theorem dX12_valueNow_86 : decode cX12_valueNow 86 = .ok (.goto 32, 3) := by decide +kernel
theorem dX12_valueNow_89 : decode cX12_valueNow 89 = .ok (.iinc 1 (-1), 3) := by decide +kernel
theorem dX12_valueNow_92 : decode cX12_valueNow 92 = .ok (.aload_n 0, 1) := by decide +kernel
theorem dX12_valueNow_93 : decode cX12_valueNow 93 = .ok (.getfield 87, 3) := by decide +kernel
theorem dX12_valueNow_96 : decode cX12_valueNow 96 = .ok (.iload_n 1, 1) := by decide +kernel
theorem dX12_valueNow_97 : decode cX12_valueNow 97 = .ok (.iconst 1, 1) := by decide +kernel
theorem dX12_valueNow_98 : decode cX12_valueNow 98 = .ok (.isub, 1) := by decide +kernel
theorem dX12_valueNow_99 : decode cX12_valueNow 99 = .ok (.iload_n 3, 1) := by decide +kernel
theorem dX12_valueNow_100 : decode cX12_valueNow 100 = .ok (.aload_n 0, 1) := by decide +kernel
theorem dX12_valueNow_101 : decode cX12_valueNow 101 = .ok (.getfield 87, 3) := by decide +kernel
theorem dX12_valueNow_104 : decode cX12_valueNow 104 = .ok (.iload_n 1, 1) := by decide +kernel
theorem dX12_valueNow_105 : decode cX12_valueNow 105 = .ok (.iconst 1, 1) := by decide +kernel
theorem dX12_valueNow_106 : decode cX12_valueNow 106 = .ok (.isub, 1) := by decide +kernel
theorem dX12_valueNow_107 : decode cX12_valueNow 107 = .ok (.iaload, 1) := by decide +kernel
theorem dX12_valueNow_108 : decode cX12_valueNow 108 = .ok (.aload_n 0, 1) := by decide +kernel
theorem dX12_valueNow_109 : decode cX12_valueNow 109 = .ok (.getfield 87, 3) := by decide +kernel
theorem dX12_valueNow_112 : decode cX12_valueNow 112 = .ok (.iload_n 1, 1) := by decide +kernel
theorem dX12_valueNow_113 : decode cX12_valueNow 113 = .ok (.iaload, 1) := by decide +kernel
theorem dX12_valueNow_114 : decode cX12_valueNow 114 = .ok (.invokestatic 337, 3) := by decide +kernel
theorem dX12_valueNow_117 : decode cX12_valueNow 117 = .ok (.iastore, 1) := by decide +kernel
theorem dX12_valueNow_118 : decode cX12_valueNow 118 = .ok (.iinc 2 1, 3) := by decide +kernel
theorem dX12_valueNow_121 : decode cX12_valueNow 121 = .ok (.goto (-117), 3) := by decide +kernel
theorem dX12_valueNow_124 : decode cX12_valueNow 124 = .ok (.aload_n 0, 1) := by decide +kernel
theorem dX12_valueNow_125 : decode cX12_valueNow 125 = .ok (.getfield 87, 3) := by decide +kernel
theorem dX12_valueNow_128 : decode cX12_valueNow 128 = .ok (.iconst 0, 1) := by decide +kernel
theorem dX12_valueNow_129 : decode cX12_valueNow 129 = .ok (.iaload, 1) := by decide +kernel
theorem dX12_valueNow_130 : decode cX12_valueNow 130 = .ok (.ireturn, 1) := by decide +kernel
theorem dX12_set_0 : decode cX12_set 0 = .ok (.aload_n 0, 1) := by decide +kernel
theorem dX12_set_1 : decode cX12_set 1 = .ok (.aload_n 0, 1) := by decide +kernel
theorem dX12_set_2 : decode cX12_set 2 = .ok (.getfield 38, 3) := by decide +kernel
theorem dX12_set_5 : decode cX12_set 5 = .ok (.iconst 0, 1) := by decide +kernel
theorem dX12_set_6 : decode cX12_set 6 = .ok (.iaload, 1) := by decide +kernel
theorem dX12_set_7 : decode cX12_set 7 = .ok (.putfield 341, 3) := by decide +kernel
theorem dX12_set_10 : decode cX12_set 10 = .ok (.iconst 0, 1) := by decide +kernel
theorem dX12_set_11 : decode cX12_set 11 = .ok (.istore_n 1, 1) := by decide +kernel
theorem dX12_set_12 : decode cX12_set 12 = .ok (.iload_n 1, 1) := by decide +kernel
theorem dX12_set_13 : decode cX12_set 13 = .ok (.aload_n 0, 1) := by decide +kernel
theorem dX12_set_14 : decode cX12_set 14 = .ok (.getfield 341, 3) := by decide +kernel
theorem dX12_set_17 : decode cX12_set 17 = .ok (.if_icmp .ge 33, 3) := by decide +kernel
theorem dX12_set_20 : decode cX12_set 20 = .ok (.aload_n 0, 1) := by decide +kernel
theorem dX12_set_21 : decode cX12_set 21 = .ok (.getfield 90, 3) := by decide +kernel
theorem dX12_set_24 : decode cX12_set 24 = .ok (.iload_n 1, 1) := by decide +kernel
theorem dX12_set_25 : decode cX12_set 25 = .ok (.aload_n 0, 1) := by decide +kernel
theorem dX12_set_26 : decode cX12_set 26 = .ok (.getfield 75, 3) := by decide +kernel
theorem dX12_set_29 : decode cX12_set 29 = .ok (.iload_n 1, 1) := by decide +kernel
theorem dX12_set_30 : decode cX12_set 30 = .ok (.iaload, 1) := by decide +kernel
theorem dX12_set_31 : decode cX12_set 31 = .ok (.iastore, 1) := by decide +kernel
theorem dX12_set_32 : decode cX12_set 32 = .ok (.aload_n 0, 1) := by decide +kernel
theorem dX12_set_33 : decode cX12_set 33 = .ok (.getfield 93, 3) := by decide +kernel
theorem dX12_set_36 : decode cX12_set 36 = .ok (.iload_n 1, 1) := by decide +kernel
theorem dX12_set_37 : decode cX12_set 37 = .ok (.aload_n 0, 1) := by decide +kernel
theorem dX12_set_38 : decode cX12_set 38 = .ok (.getfield 53, 3) := by decide +kernel
theorem dX12_set_41 : decode cX12_set 41 = .ok (.iload_n 1, 1) := by decide +kernel
theorem dX12_set_42 : decode cX12_set 42 = .ok (.iaload, 1) := by decide +kernel
theorem dX12_set_43 : decode cX12_set 43 = .ok (.iastore, 1) := by decide +kernel
theorem dX12_set_44 : decode cX12_set 44 = .ok (.iinc 1 1, 3) := by decide +kernel
theorem dX12_set_47 : decode cX12_set 47 = .ok (.goto (-35), 3) := by decide +kernel
theorem dX12_set_50 : decode cX12_set 50 = .ok (.aload_n 0, 1) := by decide +kernel
theorem dX12_set_51 : decode cX12_set 51 = .ok (.aload_n 0, 1) := by decide +kernel
theorem dX12_set_52 : decode cX12_set 52 = .ok (.getfield 81, 3) := by decide +kernel
theorem dX12_set_55 : decode cX12_set 55 = .ok (.putfield 344, 3) := by decide +kernel
theorem dX12_set_58 : decode cX12_set 58 = .ok (.aload_n 0, 1) := by decide +kernel
theorem dX12_set_59 : decode cX12_set 59 = .ok (.aload_n 0, 1) := by decide +kernel
theorem dX12_set_60 : decode cX12_set 60 = .ok (.getfield 81, 3) := by decide +kernel
theorem dX12_set_63 : decode cX12_set 63 = .ok (.iconst (-1), 1) := by decide +kernel
theorem dX12_set_64 : decode cX12_set 64 = .ok (.if_icmp .ne 7, 3) := by decide +kernel
theorem dX12_set_67 : decode cX12_set 67 = .ok (.iconst 0, 1) := by decide +kernel
theorem dX12_set_68 : decode cX12_set 68 = .ok (.goto 7, 3) := by decide +kernel
theorem dX12_set_71 : decode cX12_set 71 = .ok (.aload_n 0, 1) := by decide +kernel
theorem dX12_set_72 : decode cX12_set 72 = .ok (.getfield 318, 3) := by decide +kernel
theorem dX12_set_75 : decode cX12_set 75 = .ok (.putfield 347, 3) := by decide +kernel
theorem dX12_set_78 : decode cX12_set 78 = .ok (.aload_n 0, 1) := by decide +kernel
theorem dX12_set_79 : decode cX12_set 79 = .ok (.aload_n 0, 1) := by decide +kernel
theorem dX12_set_80 : decode cX12_set 80 = .ok (.getfield 321, 3) := by decide +kernel
theorem dX12_set_83 : decode cX12_set 83 = .ok (.putfield 350, 3) := by decide +kernel
theorem dX12_set_86 : decode cX12_set 86 = .ok (.aload_n 0, 1) := by decide +kernel
theorem dX12_set_87 : decode cX12_set 87 = .ok (.invokevirtual 353, 3) := by decide +kernel
theorem dX12_set_90 : decode cX12_set 90 = .ok (.return_, 1) := by decide +kernel
theorem dX12_tellFree_0 : decode cX12_tellFree 0 = .ok (.aload_n 0, 1) := by decide +kernel
theorem dX12_tellFree_1 : decode cX12_tellFree 1 = .ok (.getfield 38, 3) := by decide +kernel
theorem dX12_tellFree_4 : decode cX12_tellFree 4 = .ok (.iconst 2, 1) := by decide +kernel
theorem dX12_tellFree_5 : decode cX12_tellFree 5 = .ok (.iaload, 1) := by decide +kernel
theorem dX12_tellFree_6 : decode cX12_tellFree 6 = .ok (.istore_n 1, 1) := by decide +kernel
theorem dX12_tellFree_7 : decode cX12_tellFree 7 = .ok (.iconst 0, 1) := by decide +kernel
theorem dX12_tellFree_8 : decode cX12_tellFree 8 = .ok (.istore_n 2, 1) := by decide +kernel
theorem dX12_tellFree_9 : decode cX12_tellFree 9 = .ok (.iload_n 2, 1) := by decide +kernel
theorem dX12_tellFree_10 : decode cX12_tellFree 10 = .ok (.aload_n 0, 1) := by decide +kernel
theorem dX12_tellFree_11 : decode cX12_tellFree 11 = .ok (.getfield 341, 3) := by decide +kernel
theorem dX12_tellFree_14 : decode cX12_tellFree 14 = .ok (.if_icmp .ge 23, 3) := by decide +kernel
theorem dX12_tellFree_17 : decode cX12_tellFree 17 = .ok (.iload_n 1, 1) := by decide +kernel
theorem dX12_tellFree_18 : decode cX12_tellFree 18 = .ok (.aload_n 0, 1) := by decide +kernel
theorem dX12_tellFree_19 : decode cX12_tellFree 19 = .ok (.getfield 50, 3) := by decide +kernel
theorem dX12_tellFree_22 : decode cX12_tellFree 22 = .ok (.aload_n 0, 1) := by decide +kernel
theorem dX12_tellFree_23 : decode cX12_tellFree 23 = .ok (.getfield 90, 3) := by decide +kernel
theorem dX12_tellFree_26 : decode cX12_tellFree 26 = .ok (.iload_n 2, 1) := by decide +kernel
theorem dX12_tellFree_27 : decode cX12_tellFree 27 = .ok (.iaload, 1) := by decide +kernel
theorem dX12_tellFree_28 : decode cX12_tellFree 28 = .ok (.iaload, 1) := by decide +kernel
theorem dX12_tellFree_29 : decode cX12_tellFree 29 = .ok (.iadd, 1) := by decide +kernel
theorem dX12_tellFree_30 : decode cX12_tellFree 30 = .ok (.istore_n 1, 1) := by decide +kernel
theorem dX12_tellFree_31 : decode cX12_tellFree 31 = .ok (.iinc 2 1, 3) := by decide +kernel
theorem dX12_tellFree_34 : decode cX12_tellFree 34 = .ok (.goto (-25), 3) := by decide +kernel
theorem dX12_tellFree_37 : decode cX12_tellFree 37 = .ok (.aload_n 0, 1) := by decide +kernel
theorem dX12_tellFree_38 : decode cX12_tellFree 38 = .ok (.aload_n 0, 1) := by decide +kernel
theorem dX12_tellFree_39 : decode cX12_tellFree 39 = .ok (.getfield 38, 3) := by decide +kernel
theorem dX12_tellFree_42 : decode cX12_tellFree 42 = .ok (.iconst 1, 1) := by decide +kernel
theorem dX12_tellFree_43 : decode cX12_tellFree 43 = .ok (.iaload, 1) := by decide +kernel
theorem dX12_tellFree_44 : decode cX12_tellFree 44 = .ok (.iload_n 1, 1) := by decide +kernel
theorem dX12_tellFree_45 : decode cX12_tellFree 45 = .ok (.if_icmp .lt 7, 3) := by decide +kernel
theorem dX12_tellFree_48 : decode cX12_tellFree 48 = .ok (.iconst 1, 1) := by decide +kernel
theorem dX12_tellFree_49 : decode cX12_tellFree 49 = .ok (.goto 4, 3) := by decide +kernel
theorem dX12_tellFree_52 : decode cX12_tellFree 52 = .ok (.iconst 0, 1) := by decide +kernel
theorem dX12_tellFree_53 : decode cX12_tellFree 53 = .ok (.putfield 356, 3) := by decide +kernel
theorem dX12_tellFree_56 : decode cX12_tellFree 56 = .ok (.return_, 1) := by decide +kernel
theorem dX12_isAwake_0 : decode cX12_isAwake 0 = .ok (.aload_n 0, 1) := by decide +kernel
theorem dX12_isAwake_1 : decode cX12_isAwake 1 = .ok (.getfield 359, 3) := by decide +kernel
theorem dX12_isAwake_4 : decode cX12_isAwake 4 = .ok (.aload_n 0, 1) := by decide +kernel
theorem dX12_isAwake_5 : decode cX12_isAwake 5 = .ok (.getfield 102, 3) := by decide +kernel
theorem dX12_isAwake_8 : decode cX12_isAwake 8 = .ok (.iload_n 1, 1) := by decide +kernel
theorem dX12_isAwake_9 : decode cX12_isAwake 9 = .ok (.iaload, 1) := by decide +kernel
theorem dX12_isAwake_10 : decode cX12_isAwake 10 = .ok (.isub, 1) := by decide +kernel
theorem dX12_isAwake_11 : decode cX12_isAwake 11 = .ok (.aload_n 0, 1) := by decide +kernel
theorem dX12_isAwake_12 : decode cX12_isAwake 12 = .ok (.getfield 38, 3) := by decide +kernel
theorem dX12_isAwake_15 : decode cX12_isAwake 15 = .ok (.iconst 4, 1) := by decide +kernel
theorem dX12_isAwake_16 : decode cX12_isAwake 16 = .ok (.iaload, 1) := by decide +kernel
theorem dX12_isAwake_17 : decode cX12_isAwake 17 = .ok (.if_icmp .ge 7, 3) := by decide +kernel
theorem dX12_isAwake_20 : decode cX12_isAwake 20 = .ok (.iconst 1, 1) := by decide +kernel
theorem dX12_isAwake_21 : decode cX12_isAwake 21 = .ok (.goto 4, 3) := by decide +kernel
theorem dX12_isAwake_24 : decode cX12_isAwake 24 = .ok (.iconst 0, 1) := by decide +kernel
theorem dX12_isAwake_25 : decode cX12_isAwake 25 = .ok (.ireturn, 1) := by decide +kernel
theorem dX12_snorersBeside_0 : decode cX12_snorersBeside 0 = .ok (.iload_n 1, 1) := by decide +kernel
theorem dX12_snorersBeside_1 : decode cX12_snorersBeside 1 = .ok (.ifCond .le 24, 3) := by decide +kernel
theorem dX12_snorersBeside_4 : decode cX12_snorersBeside 4 = .ok (.aload_n 0, 1) := by decide +kernel
theorem dX12_snorersBeside_5 : decode cX12_snorersBeside 5 = .ok (.getfield 42, 3) := by decide +kernel
theorem dX12_snorersBeside_8 : decode cX12_snorersBeside 8 = .ok (.aload_n 0, 1) := by decide +kernel
theorem dX12_snorersBeside_9 : decode cX12_snorersBeside 9 = .ok (.getfield 90, 3) := by decide +kernel
theorem dX12_snorersBeside_12 : decode cX12_snorersBeside 12 = .ok (.iload_n 1, 1) := by decide +kernel
theorem dX12_snorersBeside_13 : decode cX12_snorersBeside 13 = .ok (.iconst 1, 1) := by decide +kernel
theorem dX12_snorersBeside_14 : decode cX12_snorersBeside 14 = .ok (.isub, 1) := by decide +kernel
theorem dX12_snorersBeside_15 : decode cX12_snorersBeside 15 = .ok (.iaload, 1) := by decide +kernel
theorem dX12_snorersBeside_16 : decode cX12_snorersBeside 16 = .ok (.iaload, 1) := by decide +kernel
theorem dX12_snorersBeside_17 : decode cX12_snorersBeside 17 = .ok (.iconst 2, 1) := by decide +kernel
theorem dX12_snorersBeside_18 : decode cX12_snorersBeside 18 = .ok (.if_icmp .ne 7, 3) := by decide +kernel
theorem dX12_snorersBeside_21 : decode cX12_snorersBeside 21 = .ok (.iconst 1, 1) := by decide +kernel
theorem dX12_snorersBeside_22 : decode cX12_snorersBeside 22 = .ok (.goto 4, 3) := by decide +kernel
theorem dX12_snorersBeside_25 : decode cX12_snorersBeside 25 = .ok (.iconst 0, 1) := by decide +kernel
theorem dX12_snorersBeside_26 : decode cX12_snorersBeside 26 = .ok (.iload_n 1, 1) := by decide +kernel
theorem dX12_snorersBeside_27 : decode cX12_snorersBeside 27 = .ok (.iconst 1, 1) := by decide +kernel
theorem dX12_snorersBeside_28 : decode cX12_snorersBeside 28 = .ok (.iadd, 1) := by decide +kernel
theorem dX12_snorersBeside_29 : decode cX12_snorersBeside 29 = .ok (.aload_n 0, 1) := by decide +kernel
theorem dX12_snorersBeside_30 : decode cX12_snorersBeside 30 = .ok (.getfield 341, 3) := by decide +kernel
theorem dX12_snorersBeside_33 : decode cX12_snorersBeside 33 = .ok (.if_icmp .ge 24, 3) := by decide +kernel
theorem dX12_snorersBeside_36 : decode cX12_snorersBeside 36 = .ok (.aload_n 0, 1) := by decide +kernel
theorem dX12_snorersBeside_37 : decode cX12_snorersBeside 37 = .ok (.getfield 42, 3) := by decide +kernel
theorem dX12_snorersBeside_40 : decode cX12_snorersBeside 40 = .ok (.aload_n 0, 1) := by decide +kernel
theorem dX12_snorersBeside_41 : decode cX12_snorersBeside 41 = .ok (.getfield 90, 3) := by decide +kernel
theorem dX12_snorersBeside_44 : decode cX12_snorersBeside 44 = .ok (.iload_n 1, 1) := by decide +kernel
theorem dX12_snorersBeside_45 : decode cX12_snorersBeside 45 = .ok (.iconst 1, 1) := by decide +kernel
theorem dX12_snorersBeside_46 : decode cX12_snorersBeside 46 = .ok (.iadd, 1) := by decide +kernel
theorem dX12_snorersBeside_47 : decode cX12_snorersBeside 47 = .ok (.iaload, 1) := by decide +kernel
theorem dX12_snorersBeside_48 : decode cX12_snorersBeside 48 = .ok (.iaload, 1) := by decide +kernel
theorem dX12_snorersBeside_49 : decode cX12_snorersBeside 49 = .ok (.iconst 2, 1) := by decide +kernel
theorem dX12_snorersBeside_50 : decode cX12_snorersBeside 50 = .ok (.if_icmp .ne 7, 3) := by decide +kernel
theorem dX12_snorersBeside_53 : decode cX12_snorersBeside 53 = .ok (.iconst 1, 1) := by decide +kernel
theorem dX12_snorersBeside_54 : decode cX12_snorersBeside 54 = .ok (.goto 4, 3) := by decide +kernel
theorem dX12_snorersBeside_57 : decode cX12_snorersBeside 57 = .ok (.iconst 0, 1) := by decide +kernel
theorem dX12_snorersBeside_58 : decode cX12_snorersBeside 58 = .ok (.iadd, 1) := by decide +kernel
theorem dX12_snorersBeside_59 : decode cX12_snorersBeside 59 = .ok (.ireturn, 1) := by decide +kernel
theorem dX12_wakes_0 : decode cX12_wakes 0 = .ok (.aload_n 0, 1) := by decide +kernel
theorem dX12_wakes_1 : decode cX12_wakes 1 = .ok (.getfield 90, 3) := by decide +kernel
theorem dX12_wakes_4 : decode cX12_wakes 4 = .ok (.iload_n 1, 1) := by decide +kernel
theorem dX12_wakes_5 : decode cX12_wakes 5 = .ok (.iaload, 1) := by decide +kernel
theorem dX12_wakes_6 : decode cX12_wakes 6 = .ok (.istore_n 3, 1) := by decide +kernel
theorem dX12_wakes_7 : decode cX12_wakes 7 = .ok (.iload_n 1, 1) := by decide +kernel
theorem dX12_wakes_8 : decode cX12_wakes 8 = .ok (.iload_n 2, 1) := by decide +kernel
theorem dX12_wakes_9 : decode cX12_wakes 9 = .ok (.isub, 1) := by decide +kernel
theorem dX12_wakes_10 : decode cX12_wakes 10 = .ok (.invokestatic 362, 3) := by decide +kernel
theorem dX12_wakes_13 : decode cX12_wakes 13 = .ok (.istore 4, 2) := by decide +kernel
theorem dX12_wakes_15 : decode cX12_wakes 15 = .ok (.aload_n 0, 1) := by decide +kernel
theorem dX12_wakes_16 : decode cX12_wakes 16 = .ok (.getfield 38, 3) := by decide +kernel
theorem dX12_wakes_19 : decode cX12_wakes 19 = .ok (.bipush 7, 2) := by decide +kernel
theorem dX12_wakes_21 : decode cX12_wakes 21 = .ok (.iaload, 1) := by decide +kernel
theorem dX12_wakes_22 : decode cX12_wakes 22 = .ok (.ifCond .ne 20, 3) := by decide +kernel
theorem dX12_wakes_25 : decode cX12_wakes 25 = .ok (.iload 4, 2) := by decide +kernel
theorem dX12_wakes_27 : decode cX12_wakes 27 = .ok (.aload_n 0, 1) := by decide +kernel
theorem dX12_wakes_28 : decode cX12_wakes 28 = .ok (.getfield 48, 3) := by decide +kernel
theorem dX12_wakes_31 : decode cX12_wakes 31 = .ok (.iload_n 3, 1) := by decide +kernel
theorem dX12_wakes_32 : decode cX12_wakes 32 = .ok (.iaload, 1) := by decide +kernel
theorem dX12_wakes_33 : decode cX12_wakes 33 = .ok (.if_icmp .gt 7, 3) := by decide +kernel
theorem dX12_wakes_36 : decode cX12_wakes 36 = .ok (.iconst 1, 1) := by decide +kernel
theorem dX12_wakes_37 : decode cX12_wakes 37 = .ok (.goto 4, 3) := by decide +kernel
theorem dX12_wakes_40 : decode cX12_wakes 40 = .ok (.iconst 0, 1) := by decide +kernel
theorem dX12_wakes_41 : decode cX12_wakes 41 = .ok (.ireturn, 1) := by decide +kernel
theorem dX12_wakes_42 : decode cX12_wakes 42 = .ok (.aload_n 0, 1) := by decide +kernel
theorem dX12_wakes_43 : decode cX12_wakes 43 = .ok (.getfield 84, 3) := by decide +kernel
theorem dX12_wakes_46 : decode cX12_wakes 46 = .ok (.iconst 0, 1) := by decide +kernel
theorem dX12_wakes_47 : decode cX12_wakes 47 = .ok (.aload_n 0, 1) := by decide +kernel
theorem dX12_wakes_48 : decode cX12_wakes 48 = .ok (.getfield 48, 3) := by decide +kernel
theorem dX12_wakes_51 : decode cX12_wakes 51 = .ok (.iload_n 3, 1) := by decide +kernel
theorem dX12_wakes_52 : decode cX12_wakes 52 = .ok (.iaload, 1) := by decide +kernel
theorem dX12_wakes_53 : decode cX12_wakes 53 = .ok (.iastore, 1) := by decide +kernel
theorem dX12_wakes_54 : decode cX12_wakes 54 = .ok (.aload_n 0, 1) := by decide +kernel
theorem dX12_wakes_55 : decode cX12_wakes 55 = .ok (.getfield 84, 3) := by decide +kernel
theorem dX12_wakes_58 : decode cX12_wakes 58 = .ok (.iconst 1, 1) := by decide +kernel
theorem dX12_wakes_59 : decode cX12_wakes 59 = .ok (.iload 4, 2) := by decide +kernel
theorem dX12_wakes_61 : decode cX12_wakes 61 = .ok (.iastore, 1) := by decide +kernel
theorem dX12_wakes_62 : decode cX12_wakes 62 = .ok (.aload_n 0, 1) := by decide +kernel
theorem dX12_wakes_63 : decode cX12_wakes 63 = .ok (.getfield 84, 3) := by decide +kernel
theorem dX12_wakes_66 : decode cX12_wakes 66 = .ok (.iconst 2, 1) := by decide +kernel
theorem dX12_wakes_67 : decode cX12_wakes 67 = .ok (.aload_n 0, 1) := by decide +kernel
theorem dX12_wakes_68 : decode cX12_wakes 68 = .ok (.getfield 365, 3) := by decide +kernel
theorem dX12_wakes_71 : decode cX12_wakes 71 = .ok (.iastore, 1) := by decide +kernel
theorem dX12_wakes_72 : decode cX12_wakes 72 = .ok (.aload_n 0, 1) := by decide +kernel
theorem dX12_wakes_73 : decode cX12_wakes 73 = .ok (.getfield 84, 3) := by decide +kernel
theorem dX12_wakes_76 : decode cX12_wakes 76 = .ok (.iconst 3, 1) := by decide +kernel
theorem dX12_wakes_77 : decode cX12_wakes 77 = .ok (.aload_n 0, 1) := by decide +kernel
theorem dX12_wakes_78 : decode cX12_wakes 78 = .ok (.getfield 359, 3) := by decide +kernel
theorem dX12_wakes_81 : decode cX12_wakes 81 = .ok (.bipush 60, 2) := by decide +kernel
theorem dX12_wakes_83 : decode cX12_wakes 83 = .ok (.idiv, 1) := by decide +kernel
theorem dX12_wakes_84 : decode cX12_wakes 84 = .ok (.iastore, 1) := by decide +kernel
theorem dX12_wakes_85 : decode cX12_wakes 85 = .ok (.aload_n 0, 1) := by decide +kernel
theorem dX12_wakes_86 : decode cX12_wakes 86 = .ok (.getfield 84, 3) := by decide +kernel
theorem dX12_wakes_89 : decode cX12_wakes 89 = .ok (.iconst 4, 1) := by decide +kernel
theorem dX12_wakes_90 : decode cX12_wakes 90 = .ok (.aload_n 0, 1) := by decide +kernel
theorem dX12_wakes_91 : decode cX12_wakes 91 = .ok (.iload_n 1, 1) := by decide +kernel
theorem dX12_wakes_92 : decode cX12_wakes 92 = .ok (.invokevirtual 367, 3) := by decide +kernel
theorem dX12_wakes_95 : decode cX12_wakes 95 = .ok (.iastore, 1) := by decide +kernel
theorem dX12_wakes_96 : decode cX12_wakes 96 = .ok (.aload_n 0, 1) := by decide +kernel
theorem dX12_wakes_97 : decode cX12_wakes 97 = .ok (.getfield 84, 3) := by decide +kernel
theorem dX12_wakes_100 : decode cX12_wakes 100 = .ok (.iconst 5, 1) := by decide +kernel
theorem dX12_wakes_101 : decode cX12_wakes 101 = .ok (.aload_n 0, 1) := by decide +kernel
theorem dX12_wakes_102 : decode cX12_wakes 102 = .ok (.getfield 341, 3) := by decide +kernel
theorem dX12_wakes_105 : decode cX12_wakes 105 = .ok (.iconst 1, 1) := by decide +kernel
theorem dX12_wakes_106 : decode cX12_wakes 106 = .ok (.isub, 1) := by decide +kernel
theorem dX12_wakes_107 : decode cX12_wakes 107 = .ok (.iload_n 1, 1) := by decide +kernel
theorem dX12_wakes_108 : decode cX12_wakes 108 = .ok (.isub, 1) := by decide +kernel
theorem dX12_wakes_109 : decode cX12_wakes 109 = .ok (.iastore, 1) := by decide +kernel
theorem dX12_wakes_110 : decode cX12_wakes 110 = .ok (.aload_n 0, 1) := by decide +kernel
theorem dX12_wakes_111 : decode cX12_wakes 111 = .ok (.getfield 84, 3) := by decide +kernel
theorem dX12_wakes_114 : decode cX12_wakes 114 = .ok (.bipush 6, 2) := by decide +kernel
theorem dX12_wakes_116 : decode cX12_wakes 116 = .ok (.aload_n 0, 1) := by decide +kernel
theorem dX12_wakes_117 : decode cX12_wakes 117 = .ok (.getfield 105, 3) := by decide +kernel
theorem dX12_wakes_120 : decode cX12_wakes 120 = .ok (.iload_n 3, 1) := by decide +kernel
theorem dX12_wakes_121 : decode cX12_wakes 121 = .ok (.iaload, 1) := by decide +kernel
theorem dX12_wakes_122 : decode cX12_wakes 122 = .ok (.iastore, 1) := by decide +kernel
theorem dX12_wakes_123 : decode cX12_wakes 123 = .ok (.aload_n 0, 1) := by decide +kernel
theorem dX12_wakes_124 : decode cX12_wakes 124 = .ok (.invokevirtual 370, 3) := by decide +kernel
theorem dX12_wakes_127 : decode cX12_wakes 127 = .ok (.ifCond .eq 7, 3) := by decide +kernel
theorem dX12_wakes_130 : decode cX12_wakes 130 = .ok (.iconst 1, 1) := by decide +kernel
theorem dX12_wakes_131 : decode cX12_wakes 131 = .ok (.goto 4, 3) := by decide +kernel
theorem dX12_wakes_134 : decode cX12_wakes 134 = .ok (.iconst 0, 1) := by decide +kernel
theorem dX12_wakes_135 : decode cX12_wakes 135 = .ok (.ireturn, 1) := by decide +kernel
theorem dX12_wake_0 : decode cX12_wake 0 = .ok (.aload_n 0, 1) := by decide +kernel
theorem dX12_wake_1 : decode cX12_wake 1 = .ok (.getfield 102, 3) := by decide +kernel
theorem dX12_wake_4 : decode cX12_wake 4 = .ok (.iload_n 1, 1) := by decide +kernel
theorem dX12_wake_5 : decode cX12_wake 5 = .ok (.aload_n 0, 1) := by decide +kernel
theorem dX12_wake_6 : decode cX12_wake 6 = .ok (.getfield 359, 3) := by decide +kernel
theorem dX12_wake_9 : decode cX12_wake 9 = .ok (.iastore, 1) := by decide +kernel
theorem dX12_wake_10 : decode cX12_wake 10 = .ok (.aload_n 0, 1) := by decide +kernel
theorem dX12_wake_11 : decode cX12_wake 11 = .ok (.getfield 105, 3) := by decide +kernel
theorem dX12_wake_14 : decode cX12_wake 14 = .ok (.iload_n 1, 1) := by decide +kernel
theorem dX12_wake_15 : decode cX12_wake 15 = .ok (.dup2, 1) := by decide +kernel
theorem dX12_wake_16 : decode cX12_wake 16 = .ok (.iaload, 1) := by decide +kernel
theorem dX12_wake_17 : decode cX12_wake 17 = .ok (.iconst 1, 1) := by decide +kernel
theorem dX12_wake_18 : decode cX12_wake 18 = .ok (.iadd, 1) := by decide +kernel
theorem dX12_wake_19 : decode cX12_wake 19 = .ok (.iastore, 1) := by decide +kernel
theorem dX12_wake_20 : decode cX12_wake 20 = .ok (.return_, 1) := by decide +kernel
theorem dX12_isDeaf_0 : decode cX12_isDeaf 0 = .ok (.aload_n 0, 1) := by decide +kernel
theorem dX12_isDeaf_1 : decode cX12_isDeaf 1 = .ok (.getfield 42, 3) := by decide +kernel
theorem dX12_isDeaf_4 : decode cX12_isDeaf 4 = .ok (.iload_n 1, 1) := by decide +kernel
theorem dX12_isDeaf_5 : decode cX12_isDeaf 5 = .ok (.iaload, 1) := by decide +kernel
theorem dX12_isDeaf_6 : decode cX12_isDeaf 6 = .ok (.iconst 1, 1) := by decide +kernel
theorem dX12_isDeaf_7 : decode cX12_isDeaf 7 = .ok (.if_icmp .eq 13, 3) := by decide +kernel
theorem dX12_isDeaf_10 : decode cX12_isDeaf 10 = .ok (.aload_n 0, 1) := by decide +kernel
theorem dX12_isDeaf_11 : decode cX12_isDeaf 11 = .ok (.getfield 42, 3) := by decide +kernel
theorem dX12_isDeaf_14 : decode cX12_isDeaf 14 = .ok (.iload_n 1, 1) := by decide +kernel
theorem dX12_isDeaf_15 : decode cX12_isDeaf 15 = .ok (.iaload, 1) := by decide +kernel
theorem dX12_isDeaf_16 : decode cX12_isDeaf 16 = .ok (.iconst 3, 1) := by decide +kernel
theorem dX12_isDeaf_17 : decode cX12_isDeaf 17 = .ok (.if_icmp .ne 7, 3) := by decide +kernel
theorem dX12_isDeaf_20 : decode cX12_isDeaf 20 = .ok (.iconst 1, 1) := by decide +kernel
theorem dX12_isDeaf_21 : decode cX12_isDeaf 21 = .ok (.goto 4, 3) := by decide +kernel
theorem dX12_isDeaf_24 : decode cX12_isDeaf 24 = .ok (.iconst 0, 1) := by decide +kernel
theorem dX12_isDeaf_25 : decode cX12_isDeaf 25 = .ok (.ireturn, 1) := by decide +kernel
theorem dX12_turnAll_0 : decode cX12_turnAll 0 = .ok (.iload_n 1, 1) := by decide +kernel
theorem dX12_turnAll_1 : decode cX12_turnAll 1 = .ok (.istore 5, 2) := by decide +kernel
theorem dX12_turnAll_3 : decode cX12_turnAll 3 = .ok (.iload 5, 2) := by decide +kernel
theorem dX12_turnAll_5 : decode cX12_turnAll 5 = .ok (.iload_n 2, 1) := by decide +kernel
theorem dX12_turnAll_6 : decode cX12_turnAll 6 = .ok (.if_icmp .ge 59, 3) := by decide +kernel
theorem dX12_turnAll_9 : decode cX12_turnAll 9 = .ok (.aload_n 0, 1) := by decide +kernel
theorem dX12_turnAll_10 : decode cX12_turnAll 10 = .ok (.getfield 90, 3) := by decide +kernel
theorem dX12_turnAll_13 : decode cX12_turnAll 13 = .ok (.iload 5, 2) := by decide +kernel
theorem dX12_turnAll_15 : decode cX12_turnAll 15 = .ok (.iaload, 1) := by decide +kernel
theorem dX12_turnAll_16 : decode cX12_turnAll 16 = .ok (.istore 6, 2) := by decide +kernel
theorem dX12_turnAll_18 : decode cX12_turnAll 18 = .ok (.aload_n 0, 1) := by decide +kernel
theorem dX12_turnAll_19 : decode cX12_turnAll 19 = .ok (.getfield 42, 3) := by decide +kernel
theorem dX12_turnAll_22 : decode cX12_turnAll 22 = .ok (.iload 6, 2) := by decide +kernel
theorem dX12_turnAll_24 : decode cX12_turnAll 24 = .ok (.iaload, 1) := by decide +kernel
theorem dX12_turnAll_25 : decode cX12_turnAll 25 = .ok (.iconst 3, 1) := by decide +kernel
theorem dX12_turnAll_26 : decode cX12_turnAll 26 = .ok (.if_icmp .ne 6, 3) := by decide +kernel
theorem dX12_turnAll_29 : decode cX12_turnAll 29 = .ok (.goto 30, 3) := by decide +kernel
theorem dX12_turnAll_32 : decode cX12_turnAll 32 = .ok (.aload_n 0, 1) := by decide +kernel
theorem dX12_turnAll_33 : decode cX12_turnAll 33 = .ok (.getfield 96, 3) := by decide +kernel
theorem dX12_turnAll_36 : decode cX12_turnAll 36 = .ok (.iload 6, 2) := by decide +kernel
theorem dX12_turnAll_38 : decode cX12_turnAll 38 = .ok (.iconst 1, 1) := by decide +kernel
theorem dX12_turnAll_39 : decode cX12_turnAll 39 = .ok (.aload_n 0, 1) := by decide +kernel
theorem dX12_turnAll_40 : decode cX12_turnAll 40 = .ok (.getfield 96, 3) := by decide +kernel
theorem dX12_turnAll_43 : decode cX12_turnAll 43 = .ok (.iload 6, 2) := by decide +kernel
theorem dX12_turnAll_45 : decode cX12_turnAll 45 = .ok (.iaload, 1) := by decide +kernel
theorem dX12_turnAll_46 : decode cX12_turnAll 46 = .ok (.isub, 1) := by decide +kernel
theorem dX12_turnAll_47 : decode cX12_turnAll 47 = .ok (.iastore, 1) := by decide +kernel
theorem dX12_turnAll_48 : decode cX12_turnAll 48 = .ok (.aload_n 0, 1) := by decide +kernel
theorem dX12_turnAll_49 : decode cX12_turnAll 49 = .ok (.getfield 99, 3) := by decide +kernel
theorem dX12_turnAll_52 : decode cX12_turnAll 52 = .ok (.iload 6, 2) := by decide +kernel
theorem dX12_turnAll_54 : decode cX12_turnAll 54 = .ok (.aload_n 0, 1) := by decide +kernel
theorem dX12_turnAll_55 : decode cX12_turnAll 55 = .ok (.getfield 359, 3) := by decide +kernel
theorem dX12_turnAll_58 : decode cX12_turnAll 58 = .ok (.iastore, 1) := by decide +kernel
theorem dX12_turnAll_59 : decode cX12_turnAll 59 = .ok (.iinc 5 1, 3) := by decide +kernel
theorem dX12_turnAll_62 : decode cX12_turnAll 62 = .ok (.goto (-59), 3) := by decide +kernel
theorem dX12_turnAll_65 : decode cX12_turnAll 65 = .ok (.iconst 0, 1) := by decide +kernel
theorem dX12_turnAll_66 : decode cX12_turnAll 66 = .ok (.istore 5, 2) := by decide +kernel
theorem dX12_turnAll_68 : decode cX12_turnAll 68 = .ok (.iload_n 1, 1) := by decide +kernel
theorem dX12_turnAll_69 : decode cX12_turnAll 69 = .ok (.istore 6, 2) := by decide +kernel
theorem dX12_turnAll_71 : decode cX12_turnAll 71 = .ok (.iload 6, 2) := by decide +kernel
theorem dX12_turnAll_73 : decode cX12_turnAll 73 = .ok (.iload_n 2, 1) := by decide +kernel
theorem dX12_turnAll_74 : decode cX12_turnAll 74 = .ok (.if_icmp .ge 64, 3) := by decide +kernel
theorem dX12_turnAll_77 : decode cX12_turnAll 77 = .ok (.aload_n 0, 1) := by decide +kernel
theorem dX12_turnAll_78 : decode cX12_turnAll 78 = .ok (.getfield 90, 3) := by decide +kernel
theorem dX12_turnAll_81 : decode cX12_turnAll 81 = .ok (.iload 6, 2) := by decide +kernel
theorem dX12_turnAll_83 : decode cX12_turnAll 83 = .ok (.iaload, 1) := by decide +kernel
theorem dX12_turnAll_84 : decode cX12_turnAll 84 = .ok (.istore 7, 2) := by decide +kernel
theorem dX12_turnAll_86 : decode cX12_turnAll 86 = .ok (.iload 6, 2) := by decide +kernel
theorem dX12_turnAll_88 : decode cX12_turnAll 88 = .ok (.iload_n 3, 1) := by decide +kernel
theorem dX12_turnAll_89 : decode cX12_turnAll 89 = .ok (.if_icmp .eq 43, 3) := by decide +kernel
theorem dX12_turnAll_92 : decode cX12_turnAll 92 = .ok (.aload_n 0, 1) := by decide +kernel
theorem dX12_turnAll_93 : decode cX12_turnAll 93 = .ok (.iload 7, 2) := by decide +kernel
theorem dX12_turnAll_95 : decode cX12_turnAll 95 = .ok (.invokevirtual 373, 3) := by decide +kernel
theorem dX12_turnAll_98 : decode cX12_turnAll 98 = .ok (.ifCond .ne 34, 3) := by decide +kernel
theorem dX12_turnAll_101 : decode cX12_turnAll 101 = .ok (.aload_n 0, 1) := by decide +kernel
theorem dX12_turnAll_102 : decode cX12_turnAll 102 = .ok (.iload 7, 2) := by decide +kernel
theorem dX12_turnAll_104 : decode cX12_turnAll 104 = .ok (.invokevirtual 376, 3) := by decide +kernel
theorem dX12_turnAll_107 : decode cX12_turnAll 107 = .ok (.ifCond .ne 25, 3) := by decide +kernel
theorem dX12_turnAll_110 : decode cX12_turnAll 110 = .ok (.aload_n 0, 1) := by decide +kernel
theorem dX12_turnAll_111 : decode cX12_turnAll 111 = .ok (.iload 6, 2) := by decide +kernel
theorem dX12_turnAll_113 : decode cX12_turnAll 113 = .ok (.iload_n 3, 1) := by decide +kernel
theorem dX12_turnAll_114 : decode cX12_turnAll 114 = .ok (.invokevirtual 379, 3) := by decide +kernel
theorem dX12_turnAll_117 : decode cX12_turnAll 117 = .ok (.ifCond .ne 6, 3) := by decide +kernel
theorem dX12_turnAll_120 : decode cX12_turnAll 120 = .ok (.goto 12, 3) := by decide +kernel
theorem dX12_turnAll_123 : decode cX12_turnAll 123 = .ok (.aload_n 0, 1) := by decide +kernel
theorem dX12_turnAll_124 : decode cX12_turnAll 124 = .ok (.iload 7, 2) := by decide +kernel
theorem dX12_turnAll_126 : decode cX12_turnAll 126 = .ok (.invokevirtual 382, 3) := by decide +kernel
theorem dX12_turnAll_129 : decode cX12_turnAll 129 = .ok (.iinc 5 1, 3) := by decide +kernel
theorem dX12_turnAll_132 : decode cX12_turnAll 132 = .ok (.iinc 6 1, 3) := by decide +kernel
theorem dX12_turnAll_135 : decode cX12_turnAll 135 = .ok (.goto (-64), 3) := by decide +kernel
theorem dX12_turnAll_138 : decode cX12_turnAll 138 = .ok (.aload_n 0, 1) := by decide +kernel
theorem dX12_turnAll_139 : decode cX12_turnAll 139 = .ok (.getfield 365, 3) := by decide +kernel
theorem dX12_turnAll_142 : decode cX12_turnAll 142 = .ok (.sipush 1200, 3) := by decide +kernel
theorem dX12_turnAll_145 : decode cX12_turnAll 145 = .ok (.if_icmp .ge 61, 3) := by decide +kernel
theorem dX12_turnAll_148 : decode cX12_turnAll 148 = .ok (.aload_n 0, 1) := by decide +kernel
theorem dX12_turnAll_149 : decode cX12_turnAll 149 = .ok (.getfield 111, 3) := by decide +kernel
theorem dX12_turnAll_152 : decode cX12_turnAll 152 = .ok (.aload_n 0, 1) := by decide +kernel
theorem dX12_turnAll_153 : decode cX12_turnAll 153 = .ok (.getfield 365, 3) := by decide +kernel
theorem dX12_turnAll_156 : decode cX12_turnAll 156 = .ok (.aload_n 0, 1) := by decide +kernel
theorem dX12_turnAll_157 : decode cX12_turnAll 157 = .ok (.getfield 359, 3) := by decide +kernel
theorem dX12_turnAll_160 : decode cX12_turnAll 160 = .ok (.iastore, 1) := by decide +kernel
theorem dX12_turnAll_161 : decode cX12_turnAll 161 = .ok (.aload_n 0, 1) := by decide +kernel
theorem dX12_turnAll_162 : decode cX12_turnAll 162 = .ok (.getfield 114, 3) := by decide +kernel
theorem dX12_turnAll_165 : decode cX12_turnAll 165 = .ok (.aload_n 0, 1) := by decide +kernel
theorem dX12_turnAll_166 : decode cX12_turnAll 166 = .ok (.getfield 365, 3) := by decide +kernel
theorem dX12_turnAll_169 : decode cX12_turnAll 169 = .ok (.aload_n 0, 1) := by decide +kernel
theorem dX12_turnAll_170 : decode cX12_turnAll 170 = .ok (.getfield 90, 3) := by decide +kernel
theorem dX12_turnAll_173 : decode cX12_turnAll 173 = .ok (.iload_n 3, 1) := by decide +kernel
theorem dX12_turnAll_174 : decode cX12_turnAll 174 = .ok (.iaload, 1) := by decide +kernel
theorem dX12_turnAll_175 : decode cX12_turnAll 175 = .ok (.iastore, 1) := by decide +kernel
theorem dX12_turnAll_176 : decode cX12_turnAll 176 = .ok (.aload_n 0, 1) := by decide +kernel
theorem dX12_turnAll_177 : decode cX12_turnAll 177 = .ok (.getfield 117, 3) := by decide +kernel
theorem dX12_turnAll_180 : decode cX12_turnAll 180 = .ok (.aload_n 0, 1) := by decide +kernel
theorem dX12_turnAll_181 : decode cX12_turnAll 181 = .ok (.getfield 365, 3) := by decide +kernel
theorem dX12_turnAll_184 : decode cX12_turnAll 184 = .ok (.iload 5, 2) := by decide +kernel
theorem dX12_turnAll_186 : decode cX12_turnAll 186 = .ok (.iastore, 1) := by decide +kernel
theorem dX12_turnAll_187 : decode cX12_turnAll 187 = .ok (.aload_n 0, 1) := by decide +kernel
theorem dX12_turnAll_188 : decode cX12_turnAll 188 = .ok (.getfield 120, 3) := by decide +kernel
theorem dX12_turnAll_191 : decode cX12_turnAll 191 = .ok (.aload_n 0, 1) := by decide +kernel
theorem dX12_turnAll_192 : decode cX12_turnAll 192 = .ok (.getfield 365, 3) := by decide +kernel
theorem dX12_turnAll_195 : decode cX12_turnAll 195 = .ok (.iload 4, 2) := by decide +kernel
theorem dX12_turnAll_197 : decode cX12_turnAll 197 = .ok (.ifCond .eq 7, 3) := by decide +kernel
theorem dX12_turnAll_200 : decode cX12_turnAll 200 = .ok (.iconst 1, 1) := by decide +kernel
theorem dX12_turnAll_201 : decode cX12_turnAll 201 = .ok (.goto 4, 3) := by decide +kernel
theorem dX12_turnAll_204 : decode cX12_turnAll 204 = .ok (.iconst 0, 1) := by decide +kernel
theorem dX12_turnAll_205 : decode cX12_turnAll 205 = .ok (.iastore, 1) := by decide +kernel
theorem dX12_turnAll_206 : decode cX12_turnAll 206 = .ok (.aload_n 0, 1) := by decide +kernel
theorem dX12_turnAll_207 : decode cX12_turnAll 207 = .ok (.getfield 108, 3) := by decide +kernel
theorem dX12_turnAll_210 : decode cX12_turnAll 210 = .ok (.aload_n 0, 1) := by decide +kernel
theorem dX12_turnAll_211 : decode cX12_turnAll 211 = .ok (.getfield 90, 3) := by decide +kernel
theorem dX12_turnAll_214 : decode cX12_turnAll 214 = .ok (.iload_n 3, 1) := by decide +kernel
theorem dX12_turnAll_215 : decode cX12_turnAll 215 = .ok (.iaload, 1) := by decide +kernel
theorem dX12_turnAll_216 : decode cX12_turnAll 216 = .ok (.dup2, 1) := by decide +kernel
theorem dX12_turnAll_217 : decode cX12_turnAll 217 = .ok (.iaload, 1) := by decide +kernel
theorem dX12_turnAll_218 : decode cX12_turnAll 218 = .ok (.iconst 1, 1) := by decide +kernel
theorem dX12_turnAll_219 : decode cX12_turnAll 219 = .ok (.iadd, 1) := by decide +kernel
theorem dX12_turnAll_220 : decode cX12_turnAll 220 = .ok (.iastore, 1) := by decide +kernel
theorem dX12_turnAll_221 : decode cX12_turnAll 221 = .ok (.aload_n 0, 1) := by decide +kernel
theorem dX12_turnAll_222 : decode cX12_turnAll 222 = .ok (.dup, 1) := by decide +kernel
theorem dX12_turnAll_223 : decode cX12_turnAll 223 = .ok (.getfield 365, 3) := by decide +kernel
theorem dX12_turnAll_226 : decode cX12_turnAll 226 = .ok (.iconst 1, 1) := by decide +kernel
theorem dX12_turnAll_227 : decode cX12_turnAll 227 = .ok (.iadd, 1) := by decide +kernel
theorem dX12_turnAll_228 : decode cX12_turnAll 228 = .ok (.putfield 365, 3) := by decide +kernel
theorem dX12_turnAll_231 : decode cX12_turnAll 231 = .ok (.aload_n 0, 1) := by decide +kernel
theorem dX12_turnAll_232 : decode cX12_turnAll 232 = .ok (.aload_n 0, 1) := by decide +kernel
theorem dX12_turnAll_233 : decode cX12_turnAll 233 = .ok (.getfield 385, 3) := by decide +kernel
theorem dX12_turnAll_236 : decode cX12_turnAll 236 = .ok (.aload_n 0, 1) := by decide +kernel
theorem dX12_turnAll_237 : decode cX12_turnAll 237 = .ok (.getfield 359, 3) := by decide +kernel
theorem dX12_turnAll_240 : decode cX12_turnAll 240 = .ok (.aload_n 0, 1) := by decide +kernel
theorem dX12_turnAll_241 : decode cX12_turnAll 241 = .ok (.getfield 388, 3) := by decide +kernel
theorem dX12_turnAll_244 : decode cX12_turnAll 244 = .ok (.isub, 1) := by decide +kernel
theorem dX12_turnAll_245 : decode cX12_turnAll 245 = .ok (.iconst 1, 1) := by decide +kernel
theorem dX12_turnAll_246 : decode cX12_turnAll 246 = .ok (.isub, 1) := by decide +kernel
theorem dX12_turnAll_247 : decode cX12_turnAll 247 = .ok (.invokestatic 391, 3) := by decide +kernel
theorem dX12_turnAll_250 : decode cX12_turnAll 250 = .ok (.putfield 385, 3) := by decide +kernel
theorem dX12_turnAll_253 : decode cX12_turnAll 253 = .ok (.aload_n 0, 1) := by decide +kernel
theorem dX12_turnAll_254 : decode cX12_turnAll 254 = .ok (.aload_n 0, 1) := by decide +kernel
theorem dX12_turnAll_255 : decode cX12_turnAll 255 = .ok (.getfield 359, 3) := by decide +kernel
theorem dX12_turnAll_258 : decode cX12_turnAll 258 = .ok (.putfield 388, 3) := by decide +kernel
theorem dX12_turnAll_261 : decode cX12_turnAll 261 = .ok (.return_, 1) := by decide +kernel
theorem dX12_placeOf_0 : decode cX12_placeOf 0 = .ok (.iconst 0, 1) := by decide +kernel
theorem dX12_placeOf_1 : decode cX12_placeOf 1 = .ok (.istore_n 2, 1) := by decide +kernel
theorem dX12_placeOf_2 : decode cX12_placeOf 2 = .ok (.iload_n 2, 1) := by decide +kernel
theorem dX12_placeOf_3 : decode cX12_placeOf 3 = .ok (.aload_n 0, 1) := by decide +kernel
theorem dX12_placeOf_4 : decode cX12_placeOf 4 = .ok (.getfield 341, 3) := by decide +kernel
theorem dX12_placeOf_7 : decode cX12_placeOf 7 = .ok (.if_icmp .ge 19, 3) := by decide +kernel
theorem dX12_placeOf_10 : decode cX12_placeOf 10 = .ok (.aload_n 0, 1) := by decide +kernel
theorem dX12_placeOf_11 : decode cX12_placeOf 11 = .ok (.getfield 90, 3) := by decide +kernel
theorem dX12_placeOf_14 : decode cX12_placeOf 14 = .ok (.iload_n 2, 1) := by decide +kernel
theorem dX12_placeOf_15 : decode cX12_placeOf 15 = .ok (.iaload, 1) := by decide +kernel
theorem dX12_placeOf_16 : decode cX12_placeOf 16 = .ok (.iload_n 1, 1) := by decide +kernel
theorem dX12_placeOf_17 : decode cX12_placeOf 17 = .ok (.if_icmp .eq 9, 3) := by decide +kernel
theorem dX12_placeOf_20 : decode cX12_placeOf 20 = .ok (.iinc 2 1, 3) := by decide +kernel
theorem dX12_placeOf_23 : decode cX12_placeOf 23 = .ok (.goto (-21), 3) := by decide +kernel
theorem dX12_placeOf_26 : decode cX12_placeOf 26 = .ok (.iload_n 2, 1) := by decide +kernel
theorem dX12_placeOf_27 : decode cX12_placeOf 27 = .ok (.ireturn, 1) := by decide +kernel
theorem dX12_hasEnough_0 : decode cX12_hasEnough 0 = .ok (.aload_n 0, 1) := by decide +kernel
theorem dX12_hasEnough_1 : decode cX12_hasEnough 1 = .ok (.getfield 42, 3) := by decide +kernel
theorem dX12_hasEnough_4 : decode cX12_hasEnough 4 = .ok (.iload_n 1, 1) := by decide +kernel
theorem dX12_hasEnough_5 : decode cX12_hasEnough 5 = .ok (.iaload, 1) := by decide +kernel
theorem dX12_hasEnough_6 : decode cX12_hasEnough 6 = .ok (.iconst 3, 1) := by decide +kernel
theorem dX12_hasEnough_7 : decode cX12_hasEnough 7 = .ok (.if_icmp .eq 36, 3) := by decide +kernel
theorem dX12_hasEnough_10 : decode cX12_hasEnough 10 = .ok (.aload_n 0, 1) := by decide +kernel
theorem dX12_hasEnough_11 : decode cX12_hasEnough 11 = .ok (.getfield 359, 3) := by decide +kernel
theorem dX12_hasEnough_14 : decode cX12_hasEnough 14 = .ok (.aload_n 0, 1) := by decide +kernel
theorem dX12_hasEnough_15 : decode cX12_hasEnough 15 = .ok (.getfield 99, 3) := by decide +kernel
theorem dX12_hasEnough_18 : decode cX12_hasEnough 18 = .ok (.iload_n 1, 1) := by decide +kernel
theorem dX12_hasEnough_19 : decode cX12_hasEnough 19 = .ok (.iaload, 1) := by decide +kernel
theorem dX12_hasEnough_20 : decode cX12_hasEnough 20 = .ok (.isub, 1) := by decide +kernel
theorem dX12_hasEnough_21 : decode cX12_hasEnough 21 = .ok (.aload_n 0, 1) := by decide +kernel
theorem dX12_hasEnough_22 : decode cX12_hasEnough 22 = .ok (.getfield 45, 3) := by decide +kernel
theorem dX12_hasEnough_25 : decode cX12_hasEnough 25 = .ok (.iconst 2, 1) := by decide +kernel
theorem dX12_hasEnough_26 : decode cX12_hasEnough 26 = .ok (.iload_n 1, 1) := by decide +kernel
theorem dX12_hasEnough_27 : decode cX12_hasEnough 27 = .ok (.imul, 1) := by decide +kernel
theorem dX12_hasEnough_28 : decode cX12_hasEnough 28 = .ok (.aload_n 0, 1) := by decide +kernel
theorem dX12_hasEnough_29 : decode cX12_hasEnough 29 = .ok (.getfield 96, 3) := by decide +kernel
theorem dX12_hasEnough_32 : decode cX12_hasEnough 32 = .ok (.iload_n 1, 1) := by decide +kernel
theorem dX12_hasEnough_33 : decode cX12_hasEnough 33 = .ok (.iaload, 1) := by decide +kernel
theorem dX12_hasEnough_34 : decode cX12_hasEnough 34 = .ok (.iadd, 1) := by decide +kernel
theorem dX12_hasEnough_35 : decode cX12_hasEnough 35 = .ok (.iaload, 1) := by decide +kernel
theorem dX12_hasEnough_36 : decode cX12_hasEnough 36 = .ok (.if_icmp .lt 7, 3) := by decide +kernel
theorem dX12_hasEnough_39 : decode cX12_hasEnough 39 = .ok (.iconst 1, 1) := by decide +kernel
theorem dX12_hasEnough_40 : decode cX12_hasEnough 40 = .ok (.goto 4, 3) := by decide +kernel
theorem dX12_hasEnough_43 : decode cX12_hasEnough 43 = .ok (.iconst 0, 1) := by decide +kernel
theorem dX12_hasEnough_44 : decode cX12_hasEnough 44 = .ok (.ireturn, 1) := by decide +kernel
theorem dX12_groupEnd_0 : decode cX12_groupEnd 0 = .ok (.iload_n 1, 1) := by decide +kernel
theorem dX12_groupEnd_1 : decode cX12_groupEnd 1 = .ok (.iconst 1, 1) := by decide +kernel
theorem dX12_groupEnd_2 : decode cX12_groupEnd 2 = .ok (.iadd, 1) := by decide +kernel
theorem dX12_groupEnd_3 : decode cX12_groupEnd 3 = .ok (.istore_n 2, 1) := by decide +kernel
theorem dX12_groupEnd_4 : decode cX12_groupEnd 4 = .ok (.iload_n 2, 1) := by decide +kernel
theorem dX12_groupEnd_5 : decode cX12_groupEnd 5 = .ok (.aload_n 0, 1) := by decide +kernel
theorem dX12_groupEnd_6 : decode cX12_groupEnd 6 = .ok (.getfield 341, 3) := by decide +kernel
theorem dX12_groupEnd_9 : decode cX12_groupEnd 9 = .ok (.if_icmp .ge 27, 3) := by decide +kernel
theorem dX12_groupEnd_12 : decode cX12_groupEnd 12 = .ok (.aload_n 0, 1) := by decide +kernel
theorem dX12_groupEnd_13 : decode cX12_groupEnd 13 = .ok (.getfield 356, 3) := by decide +kernel
theorem dX12_groupEnd_16 : decode cX12_groupEnd 16 = .ok (.ifCond .ne 20, 3) := by decide +kernel
theorem dX12_groupEnd_19 : decode cX12_groupEnd 19 = .ok (.aload_n 0, 1) := by decide +kernel
theorem dX12_groupEnd_20 : decode cX12_groupEnd 20 = .ok (.getfield 350, 3) := by decide +kernel
theorem dX12_groupEnd_23 : decode cX12_groupEnd 23 = .ok (.iload_n 2, 1) := by decide +kernel
theorem dX12_groupEnd_24 : decode cX12_groupEnd 24 = .ok (.ishr, 1) := by decide +kernel
theorem dX12_groupEnd_25 : decode cX12_groupEnd 25 = .ok (.iconst 1, 1) := by decide +kernel
theorem dX12_groupEnd_26 : decode cX12_groupEnd 26 = .ok (.iand, 1) := by decide +kernel
theorem dX12_groupEnd_27 : decode cX12_groupEnd 27 = .ok (.ifCond .ne 9, 3) := by decide +kernel
theorem dX12_groupEnd_30 : decode cX12_groupEnd 30 = .ok (.iinc 2 1, 3) := by decide +kernel
theorem dX12_groupEnd_33 : decode cX12_groupEnd 33 = .ok (.goto (-29), 3) := by decide +kernel
theorem dX12_groupEnd_36 : decode cX12_groupEnd 36 = .ok (.iload_n 2, 1) := by decide +kernel
theorem dX12_groupEnd_37 : decode cX12_groupEnd 37 = .ok (.ireturn, 1) := by decide +kernel
theorem dX12_minuteNow_0 : decode cX12_minuteNow 0 = .ok (.aload_n 0, 1) := by decide +kernel
theorem dX12_minuteNow_1 : decode cX12_minuteNow 1 = .ok (.getfield 344, 3) := by decide +kernel
theorem dX12_minuteNow_4 : decode cX12_minuteNow 4 = .ok (.iconst (-1), 1) := by decide +kernel
theorem dX12_minuteNow_5 : decode cX12_minuteNow 5 = .ok (.if_icmp .eq 40, 3) := by decide +kernel
theorem dX12_minuteNow_8 : decode cX12_minuteNow 8 = .ok (.aload_n 0, 1) := by decide +kernel
theorem dX12_minuteNow_9 : decode cX12_minuteNow 9 = .ok (.getfield 347, 3) := by decide +kernel
theorem dX12_minuteNow_12 : decode cX12_minuteNow 12 = .ok (.ifCond .le 33, 3) := by decide +kernel
theorem dX12_minuteNow_15 : decode cX12_minuteNow 15 = .ok (.aload_n 0, 1) := by decide +kernel
theorem dX12_minuteNow_16 : decode cX12_minuteNow 16 = .ok (.getfield 359, 3) := by decide +kernel
theorem dX12_minuteNow_19 : decode cX12_minuteNow 19 = .ok (.aload_n 0, 1) := by decide +kernel
theorem dX12_minuteNow_20 : decode cX12_minuteNow 20 = .ok (.getfield 347, 3) := by decide +kernel
theorem dX12_minuteNow_23 : decode cX12_minuteNow 23 = .ok (.irem, 1) := by decide +kernel
theorem dX12_minuteNow_24 : decode cX12_minuteNow 24 = .ok (.ifCond .ne 21, 3) := by decide +kernel
theorem dX12_minuteNow_27 : decode cX12_minuteNow 27 = .ok (.aload_n 0, 1) := by decide +kernel
theorem dX12_minuteNow_28 : decode cX12_minuteNow 28 = .ok (.iconst 0, 1) := by decide +kernel
theorem dX12_minuteNow_29 : decode cX12_minuteNow 29 = .ok (.aload_n 0, 1) := by decide +kernel
theorem dX12_minuteNow_30 : decode cX12_minuteNow 30 = .ok (.getfield 341, 3) := by decide +kernel
theorem dX12_minuteNow_33 : decode cX12_minuteNow 33 = .ok (.aload_n 0, 1) := by decide +kernel
theorem dX12_minuteNow_34 : decode cX12_minuteNow 34 = .ok (.aload_n 0, 1) := by decide +kernel
theorem dX12_minuteNow_35 : decode cX12_minuteNow 35 = .ok (.getfield 344, 3) := by decide +kernel
theorem dX12_minuteNow_38 : decode cX12_minuteNow 38 = .ok (.invokevirtual 394, 3) := by decide +kernel
theorem dX12_minuteNow_41 : decode cX12_minuteNow 41 = .ok (.iconst 1, 1) := by decide +kernel
theorem dX12_minuteNow_42 : decode cX12_minuteNow 42 = .ok (.invokevirtual 397, 3) := by decide +kernel
theorem dX12_minuteNow_45 : decode cX12_minuteNow 45 = .ok (.iconst 0, 1) := by decide +kernel
theorem dX12_minuteNow_46 : decode cX12_minuteNow 46 = .ok (.istore_n 1, 1) := by decide +kernel
theorem dX12_minuteNow_47 : decode cX12_minuteNow 47 = .ok (.iload_n 1, 1) := by decide +kernel
theorem dX12_minuteNow_48 : decode cX12_minuteNow 48 = .ok (.aload_n 0, 1) := by decide +kernel
theorem dX12_minuteNow_49 : decode cX12_minuteNow 49 = .ok (.getfield 341, 3) := by decide +kernel
theorem dX12_minuteNow_52 : decode cX12_minuteNow 52 = .ok (.if_icmp .ge 57, 3) := by decide +kernel
theorem dX12_minuteNow_55 : decode cX12_minuteNow 55 = .ok (.aload_n 0, 1) := by decide +kernel
theorem dX12_minuteNow_56 : decode cX12_minuteNow 56 = .ok (.iload_n 1, 1) := by decide +kernel
theorem dX12_minuteNow_57 : decode cX12_minuteNow 57 = .ok (.invokevirtual 401, 3) := by decide +kernel
theorem dX12_minuteNow_60 : decode cX12_minuteNow 60 = .ok (.istore_n 2, 1) := by decide +kernel
theorem dX12_minuteNow_61 : decode cX12_minuteNow 61 = .ok (.iload_n 1, 1) := by decide +kernel
theorem dX12_minuteNow_62 : decode cX12_minuteNow 62 = .ok (.istore_n 3, 1) := by decide +kernel
theorem dX12_minuteNow_63 : decode cX12_minuteNow 63 = .ok (.iload_n 3, 1) := by decide +kernel
theorem dX12_minuteNow_64 : decode cX12_minuteNow 64 = .ok (.iload_n 2, 1) := by decide +kernel
theorem dX12_minuteNow_65 : decode cX12_minuteNow 65 = .ok (.if_icmp .ge 22, 3) := by decide +kernel
theorem dX12_minuteNow_68 : decode cX12_minuteNow 68 = .ok (.aload_n 0, 1) := by decide +kernel
theorem dX12_minuteNow_69 : decode cX12_minuteNow 69 = .ok (.aload_n 0, 1) := by decide +kernel
theorem dX12_minuteNow_70 : decode cX12_minuteNow 70 = .ok (.getfield 90, 3) := by decide +kernel
theorem dX12_minuteNow_73 : decode cX12_minuteNow 73 = .ok (.iload_n 3, 1) := by decide +kernel
theorem dX12_minuteNow_74 : decode cX12_minuteNow 74 = .ok (.iaload, 1) := by decide +kernel
theorem dX12_minuteNow_75 : decode cX12_minuteNow 75 = .ok (.invokevirtual 404, 3) := by decide +kernel
theorem dX12_minuteNow_78 : decode cX12_minuteNow 78 = .ok (.ifCond .ne 9, 3) := by decide +kernel
theorem dX12_minuteNow_81 : decode cX12_minuteNow 81 = .ok (.iinc 3 1, 3) := by decide +kernel
theorem dX12_minuteNow_84 : decode cX12_minuteNow 84 = .ok (.goto (-21), 3) := by decide +kernel
theorem dX12_minuteNow_87 : decode cX12_minuteNow 87 = .ok (.iload_n 3, 1) := by decide +kernel
theorem dX12_minuteNow_88 : decode cX12_minuteNow 88 = .ok (.iload_n 2, 1) := by decide +kernel
theorem dX12_minuteNow_89 : decode cX12_minuteNow 89 = .ok (.if_icmp .ge 11, 3) := by decide +kernel
theorem dX12_minuteNow_92 : decode cX12_minuteNow 92 = .ok (.aload_n 0, 1) := by decide +kernel
theorem dX12_minuteNow_93 : decode cX12_minuteNow 93 = .ok (.iload_n 1, 1) := by decide +kernel
theorem dX12_minuteNow_94 : decode cX12_minuteNow 94 = .ok (.iload_n 2, 1) := by decide +kernel
theorem dX12_minuteNow_95 : decode cX12_minuteNow 95 = .ok (.iload_n 3, 1) := by decide +kernel
theorem dX12_minuteNow_96 : decode cX12_minuteNow 96 = .ok (.iconst 0, 1) := by decide +kernel
theorem dX12_minuteNow_97 : decode cX12_minuteNow 97 = .ok (.invokevirtual 397, 3) := by decide +kernel
theorem dX12_minuteNow_100 : decode cX12_minuteNow 100 = .ok (.aload_n 0, 1) := by decide +kernel
theorem dX12_minuteNow_101 : decode cX12_minuteNow 101 = .ok (.iload_n 1, 1) := by decide +kernel
theorem dX12_minuteNow_102 : decode cX12_minuteNow 102 = .ok (.invokevirtual 401, 3) := by decide +kernel
theorem dX12_minuteNow_105 : decode cX12_minuteNow 105 = .ok (.istore_n 1, 1) := by decide +kernel
theorem dX12_minuteNow_106 : decode cX12_minuteNow 106 = .ok (.goto (-59), 3) := by decide +kernel
theorem dX12_minuteNow_109 : decode cX12_minuteNow 109 = .ok (.iconst 0, 1) := by decide +kernel
theorem dX12_minuteNow_110 : decode cX12_minuteNow 110 = .ok (.istore_n 1, 1) := by decide +kernel
theorem dX12_minuteNow_111 : decode cX12_minuteNow 111 = .ok (.iload_n 1, 1) := by decide +kernel
theorem dX12_minuteNow_112 : decode cX12_minuteNow 112 = .ok (.aload_n 0, 1) := by decide +kernel
theorem dX12_minuteNow_113 : decode cX12_minuteNow 113 = .ok (.getfield 341, 3) := by decide +kernel
theorem dX12_minuteNow_116 : decode cX12_minuteNow 116 = .ok (.if_icmp .ge 84, 3) := by decide +kernel
theorem dX12_minuteNow_119 : decode cX12_minuteNow 119 = .ok (.aload_n 0, 1) := by decide +kernel
theorem dX12_minuteNow_120 : decode cX12_minuteNow 120 = .ok (.getfield 93, 3) := by decide +kernel
theorem dX12_minuteNow_123 : decode cX12_minuteNow 123 = .ok (.aload_n 0, 1) := by decide +kernel
theorem dX12_minuteNow_124 : decode cX12_minuteNow 124 = .ok (.getfield 90, 3) := by decide +kernel
theorem dX12_minuteNow_127 : decode cX12_minuteNow 127 = .ok (.iload_n 1, 1) := by decide +kernel
theorem dX12_minuteNow_128 : decode cX12_minuteNow 128 = .ok (.iaload, 1) := by decide +kernel
theorem dX12_minuteNow_129 : decode cX12_minuteNow 129 = .ok (.iaload, 1) := by decide +kernel
theorem dX12_minuteNow_130 : decode cX12_minuteNow 130 = .ok (.aload_n 0, 1) := by decide +kernel
theorem dX12_minuteNow_131 : decode cX12_minuteNow 131 = .ok (.getfield 359, 3) := by decide +kernel
theorem dX12_minuteNow_134 : decode cX12_minuteNow 134 = .ok (.if_icmp .eq 6, 3) := by decide +kernel
theorem dX12_minuteNow_137 : decode cX12_minuteNow 137 = .ok (.goto 57, 3) := by decide +kernel
theorem dX12_minuteNow_140 : decode cX12_minuteNow 140 = .ok (.iload_n 1, 1) := by decide +kernel
theorem dX12_minuteNow_141 : decode cX12_minuteNow 141 = .ok (.iconst 1, 1) := by decide +kernel
theorem dX12_minuteNow_142 : decode cX12_minuteNow 142 = .ok (.iadd, 1) := by decide +kernel
theorem dX12_minuteNow_143 : decode cX12_minuteNow 143 = .ok (.istore_n 2, 1) := by decide +kernel
theorem dX12_minuteNow_144 : decode cX12_minuteNow 144 = .ok (.iload_n 2, 1) := by decide +kernel
theorem dX12_minuteNow_145 : decode cX12_minuteNow 145 = .ok (.aload_n 0, 1) := by decide +kernel
theorem dX12_minuteNow_146 : decode cX12_minuteNow 146 = .ok (.getfield 341, 3) := by decide +kernel
theorem dX12_minuteNow_149 : decode cX12_minuteNow 149 = .ok (.if_icmp .ge 45, 3) := by decide +kernel
theorem dX12_minuteNow_152 : decode cX12_minuteNow 152 = .ok (.aload_n 0, 1) := by decide +kernel
theorem dX12_minuteNow_153 : decode cX12_minuteNow 153 = .ok (.aload_n 0, 1) := by decide +kernel
theorem dX12_minuteNow_154 : decode cX12_minuteNow 154 = .ok (.getfield 90, 3) := by decide +kernel
theorem dX12_minuteNow_157 : decode cX12_minuteNow 157 = .ok (.iload_n 2, 1) := by decide +kernel
theorem dX12_minuteNow_158 : decode cX12_minuteNow 158 = .ok (.iaload, 1) := by decide +kernel
theorem dX12_minuteNow_159 : decode cX12_minuteNow 159 = .ok (.invokevirtual 373, 3) := by decide +kernel
theorem dX12_minuteNow_162 : decode cX12_minuteNow 162 = .ok (.ifCond .ne 26, 3) := by decide +kernel
theorem dX12_minuteNow_165 : decode cX12_minuteNow 165 = .ok (.aload_n 0, 1) := by decide +kernel
theorem dX12_minuteNow_166 : decode cX12_minuteNow 166 = .ok (.aload_n 0, 1) := by decide +kernel
theorem dX12_minuteNow_167 : decode cX12_minuteNow 167 = .ok (.getfield 90, 3) := by decide +kernel
theorem dX12_minuteNow_170 : decode cX12_minuteNow 170 = .ok (.iload_n 2, 1) := by decide +kernel
theorem dX12_minuteNow_171 : decode cX12_minuteNow 171 = .ok (.iaload, 1) := by decide +kernel
theorem dX12_minuteNow_172 : decode cX12_minuteNow 172 = .ok (.invokevirtual 376, 3) := by decide +kernel
theorem dX12_minuteNow_175 : decode cX12_minuteNow 175 = .ok (.ifCond .ne 13, 3) := by decide +kernel
theorem dX12_minuteNow_178 : decode cX12_minuteNow 178 = .ok (.aload_n 0, 1) := by decide +kernel
theorem dX12_minuteNow_179 : decode cX12_minuteNow 179 = .ok (.aload_n 0, 1) := by decide +kernel
theorem dX12_minuteNow_180 : decode cX12_minuteNow 180 = .ok (.getfield 90, 3) := by decide +kernel
theorem dX12_minuteNow_183 : decode cX12_minuteNow 183 = .ok (.iload_n 2, 1) := by decide +kernel
theorem dX12_minuteNow_184 : decode cX12_minuteNow 184 = .ok (.iaload, 1) := by decide +kernel
theorem dX12_minuteNow_185 : decode cX12_minuteNow 185 = .ok (.invokevirtual 382, 3) := by decide +kernel
theorem dX12_minuteNow_188 : decode cX12_minuteNow 188 = .ok (.iinc 2 1, 3) := by decide +kernel
theorem dX12_minuteNow_191 : decode cX12_minuteNow 191 = .ok (.goto (-47), 3) := by decide +kernel
theorem dX12_minuteNow_194 : decode cX12_minuteNow 194 = .ok (.iinc 1 1, 3) := by decide +kernel
theorem dX12_minuteNow_197 : decode cX12_minuteNow 197 = .ok (.goto (-86), 3) := by decide +kernel
theorem dX12_minuteNow_200 : decode cX12_minuteNow 200 = .ok (.return_, 1) := by decide +kernel
theorem dX12_begin_0 : decode cX12_begin 0 = .ok (.iconst 0, 1) := by decide +kernel
theorem dX12_begin_1 : decode cX12_begin 1 = .ok (.istore_n 2, 1) := by decide +kernel
theorem dX12_begin_2 : decode cX12_begin 2 = .ok (.iload_n 2, 1) := by decide +kernel
theorem dX12_begin_3 : decode cX12_begin 3 = .ok (.bipush 7, 2) := by decide +kernel
theorem dX12_begin_5 : decode cX12_begin 5 = .ok (.if_icmp .ge 46, 3) := by decide +kernel
theorem dX12_begin_8 : decode cX12_begin 8 = .ok (.aload_n 0, 1) := by decide +kernel
theorem dX12_begin_9 : decode cX12_begin 9 = .ok (.getfield 96, 3) := by decide +kernel
theorem dX12_begin_12 : decode cX12_begin 12 = .ok (.iload_n 2, 1) := by decide +kernel
theorem dX12_begin_13 : decode cX12_begin 13 = .ok (.iload_n 1, 1) := by decide +kernel
theorem dX12_begin_14 : decode cX12_begin 14 = .ok (.iastore, 1) := by decide +kernel
theorem dX12_begin_15 : decode cX12_begin 15 = .ok (.aload_n 0, 1) := by decide +kernel
theorem dX12_begin_16 : decode cX12_begin 16 = .ok (.getfield 99, 3) := by decide +kernel
theorem dX12_begin_19 : decode cX12_begin 19 = .ok (.iload_n 2, 1) := by decide +kernel
theorem dX12_begin_20 : decode cX12_begin 20 = .ok (.iconst 0, 1) := by decide +kernel
theorem dX12_begin_21 : decode cX12_begin 21 = .ok (.iastore, 1) := by decide +kernel
theorem dX12_begin_22 : decode cX12_begin 22 = .ok (.aload_n 0, 1) := by decide +kernel
theorem dX12_begin_23 : decode cX12_begin 23 = .ok (.getfield 102, 3) := by decide +kernel
theorem dX12_begin_26 : decode cX12_begin 26 = .ok (.iload_n 2, 1) := by decide +kernel
theorem dX12_begin_27 : decode cX12_begin 27 = .ok (.sipush (-10000), 3) := by decide +kernel
theorem dX12_begin_30 : decode cX12_begin 30 = .ok (.iastore, 1) := by decide +kernel
theorem dX12_begin_31 : decode cX12_begin 31 = .ok (.aload_n 0, 1) := by decide +kernel
theorem dX12_begin_32 : decode cX12_begin 32 = .ok (.getfield 105, 3) := by decide +kernel
theorem dX12_begin_35 : decode cX12_begin 35 = .ok (.iload_n 2, 1) := by decide +kernel
theorem dX12_begin_36 : decode cX12_begin 36 = .ok (.iconst 0, 1) := by decide +kernel
theorem dX12_begin_37 : decode cX12_begin 37 = .ok (.iastore, 1) := by decide +kernel
theorem dX12_begin_38 : decode cX12_begin 38 = .ok (.aload_n 0, 1) := by decide +kernel
theorem dX12_begin_39 : decode cX12_begin 39 = .ok (.getfield 108, 3) := by decide +kernel
theorem dX12_begin_42 : decode cX12_begin 42 = .ok (.iload_n 2, 1) := by decide +kernel
theorem dX12_begin_43 : decode cX12_begin 43 = .ok (.iconst 0, 1) := by decide +kernel
theorem dX12_begin_44 : decode cX12_begin 44 = .ok (.iastore, 1) := by decide +kernel
theorem dX12_begin_45 : decode cX12_begin 45 = .ok (.iinc 2 1, 3) := by decide +kernel
theorem dX12_begin_48 : decode cX12_begin 48 = .ok (.goto (-46), 3) := by decide +kernel
theorem dX12_begin_51 : decode cX12_begin 51 = .ok (.aload_n 0, 1) := by decide +kernel
theorem dX12_begin_52 : decode cX12_begin 52 = .ok (.iconst 0, 1) := by decide +kernel
theorem dX12_begin_53 : decode cX12_begin 53 = .ok (.putfield 365, 3) := by decide +kernel
theorem dX12_begin_56 : decode cX12_begin 56 = .ok (.aload_n 0, 1) := by decide +kernel
theorem dX12_begin_57 : decode cX12_begin 57 = .ok (.iconst 0, 1) := by decide +kernel
theorem dX12_begin_58 : decode cX12_begin 58 = .ok (.putfield 385, 3) := by decide +kernel
theorem dX12_begin_61 : decode cX12_begin 61 = .ok (.aload_n 0, 1) := by decide +kernel
theorem dX12_begin_62 : decode cX12_begin 62 = .ok (.iconst 0, 1) := by decide +kernel
theorem dX12_begin_63 : decode cX12_begin 63 = .ok (.putfield 388, 3) := by decide +kernel
theorem dX12_begin_66 : decode cX12_begin 66 = .ok (.return_, 1) := by decide +kernel
theorem dX12_go_0 : decode cX12_go 0 = .ok (.aload_n 0, 1) := by decide +kernel
theorem dX12_go_1 : decode cX12_go 1 = .ok (.iload_n 1, 1) := by decide +kernel
theorem dX12_go_2 : decode cX12_go 2 = .ok (.invokevirtual 407, 3) := by decide +kernel
theorem dX12_go_5 : decode cX12_go 5 = .ok (.aload_n 0, 1) := by decide +kernel
theorem dX12_go_6 : decode cX12_go 6 = .ok (.iconst 1, 1) := by decide +kernel
theorem dX12_go_7 : decode cX12_go 7 = .ok (.putfield 359, 3) := by decide +kernel
theorem dX12_go_10 : decode cX12_go 10 = .ok (.aload_n 0, 1) := by decide +kernel
theorem dX12_go_11 : decode cX12_go 11 = .ok (.getfield 359, 3) := by decide +kernel
theorem dX12_go_14 : decode cX12_go 14 = .ok (.iload_n 2, 1) := by decide +kernel
theorem dX12_go_15 : decode cX12_go 15 = .ok (.if_icmp .gt 20, 3) := by decide +kernel
theorem dX12_go_18 : decode cX12_go 18 = .ok (.aload_n 0, 1) := by decide +kernel
theorem dX12_go_19 : decode cX12_go 19 = .ok (.invokevirtual 410, 3) := by decide +kernel
theorem dX12_go_22 : decode cX12_go 22 = .ok (.aload_n 0, 1) := by decide +kernel
theorem dX12_go_23 : decode cX12_go 23 = .ok (.dup, 1) := by decide +kernel
theorem dX12_go_24 : decode cX12_go 24 = .ok (.getfield 359, 3) := by decide +kernel
theorem dX12_go_27 : decode cX12_go 27 = .ok (.iconst 1, 1) := by decide +kernel
theorem dX12_go_28 : decode cX12_go 28 = .ok (.iadd, 1) := by decide +kernel
theorem dX12_go_29 : decode cX12_go 29 = .ok (.putfield 359, 3) := by decide +kernel
theorem dX12_go_32 : decode cX12_go 32 = .ok (.goto (-22), 3) := by decide +kernel
theorem dX12_go_35 : decode cX12_go 35 = .ok (.aload_n 0, 1) := by decide +kernel
theorem dX12_go_36 : decode cX12_go 36 = .ok (.iload_n 2, 1) := by decide +kernel
theorem dX12_go_37 : decode cX12_go 37 = .ok (.putfield 359, 3) := by decide +kernel
theorem dX12_go_40 : decode cX12_go 40 = .ok (.aload_n 0, 1) := by decide +kernel
theorem dX12_go_41 : decode cX12_go 41 = .ok (.aload_n 0, 1) := by decide +kernel
theorem dX12_go_42 : decode cX12_go 42 = .ok (.getfield 385, 3) := by decide +kernel
theorem dX12_go_45 : decode cX12_go 45 = .ok (.iload_n 2, 1) := by decide +kernel
theorem dX12_go_46 : decode cX12_go 46 = .ok (.aload_n 0, 1) := by decide +kernel
theorem dX12_go_47 : decode cX12_go 47 = .ok (.getfield 388, 3) := by decide +kernel
theorem dX12_go_50 : decode cX12_go 50 = .ok (.isub, 1) := by decide +kernel
theorem dX12_go_51 : decode cX12_go 51 = .ok (.invokestatic 391, 3) := by decide +kernel
theorem dX12_go_54 : decode cX12_go 54 = .ok (.putfield 385, 3) := by decide +kernel
theorem dX12_go_57 : decode cX12_go 57 = .ok (.return_, 1) := by decide +kernel
theorem dX12_allWoken_0 : decode cX12_allWoken 0 = .ok (.iconst 0, 1) := by decide +kernel
theorem dX12_allWoken_1 : decode cX12_allWoken 1 = .ok (.istore_n 1, 1) := by decide +kernel
theorem dX12_allWoken_2 : decode cX12_allWoken 2 = .ok (.iconst 0, 1) := by decide +kernel
theorem dX12_allWoken_3 : decode cX12_allWoken 3 = .ok (.istore_n 2, 1) := by decide +kernel
theorem dX12_allWoken_4 : decode cX12_allWoken 4 = .ok (.iload_n 2, 1) := by decide +kernel
theorem dX12_allWoken_5 : decode cX12_allWoken 5 = .ok (.aload_n 0, 1) := by decide +kernel
theorem dX12_allWoken_6 : decode cX12_allWoken 6 = .ok (.getfield 38, 3) := by decide +kernel
theorem dX12_allWoken_9 : decode cX12_allWoken 9 = .ok (.iconst 0, 1) := by decide +kernel
theorem dX12_allWoken_10 : decode cX12_allWoken 10 = .ok (.iaload, 1) := by decide +kernel
theorem dX12_allWoken_11 : decode cX12_allWoken 11 = .ok (.if_icmp .ge 18, 3) := by decide +kernel
theorem dX12_allWoken_14 : decode cX12_allWoken 14 = .ok (.iload_n 1, 1) := by decide +kernel
theorem dX12_allWoken_15 : decode cX12_allWoken 15 = .ok (.aload_n 0, 1) := by decide +kernel
theorem dX12_allWoken_16 : decode cX12_allWoken 16 = .ok (.getfield 105, 3) := by decide +kernel
theorem dX12_allWoken_19 : decode cX12_allWoken 19 = .ok (.iload_n 2, 1) := by decide +kernel
theorem dX12_allWoken_20 : decode cX12_allWoken 20 = .ok (.iaload, 1) := by decide +kernel
theorem dX12_allWoken_21 : decode cX12_allWoken 21 = .ok (.iadd, 1) := by decide +kernel
theorem dX12_allWoken_22 : decode cX12_allWoken 22 = .ok (.istore_n 1, 1) := by decide +kernel
theorem dX12_allWoken_23 : decode cX12_allWoken 23 = .ok (.iinc 2 1, 3) := by decide +kernel
theorem dX12_allWoken_26 : decode cX12_allWoken 26 = .ok (.goto (-22), 3) := by decide +kernel
theorem dX12_allWoken_29 : decode cX12_allWoken 29 = .ok (.iload_n 1, 1) := by decide +kernel
theorem dX12_allWoken_30 : decode cX12_allWoken 30 = .ok (.ireturn, 1) := by decide +kernel
theorem dX12_nightNow_0 : decode cX12_nightNow 0 = .ok (.aload_n 0, 1) := by decide +kernel
theorem dX12_nightNow_1 : decode cX12_nightNow 1 = .ok (.invokevirtual 413, 3) := by decide +kernel
theorem dX12_nightNow_4 : decode cX12_nightNow 4 = .ok (.aload_n 0, 1) := by decide +kernel
theorem dX12_nightNow_5 : decode cX12_nightNow 5 = .ok (.aload_n 0, 1) := by decide +kernel
theorem dX12_nightNow_6 : decode cX12_nightNow 6 = .ok (.getfield 315, 3) := by decide +kernel
theorem dX12_nightNow_9 : decode cX12_nightNow 9 = .ok (.aload_n 0, 1) := by decide +kernel
theorem dX12_nightNow_10 : decode cX12_nightNow 10 = .ok (.getfield 38, 3) := by decide +kernel
theorem dX12_nightNow_13 : decode cX12_nightNow 13 = .ok (.iconst 3, 1) := by decide +kernel
theorem dX12_nightNow_14 : decode cX12_nightNow 14 = .ok (.iaload, 1) := by decide +kernel
theorem dX12_nightNow_15 : decode cX12_nightNow 15 = .ok (.invokevirtual 416, 3) := by decide +kernel
theorem dX12_nightNow_18 : decode cX12_nightNow 18 = .ok (.return_, 1) := by decide +kernel
theorem dX12_count_0 : decode cX12_count 0 = .ok (.aload_n 0, 1) := by decide +kernel
theorem dX12_count_1 : decode cX12_count 1 = .ok (.iconst 0, 1) := by decide +kernel
theorem dX12_count_2 : decode cX12_count 2 = .ok (.putfield 159, 3) := by decide +kernel
theorem dX12_count_5 : decode cX12_count 5 = .ok (.iload_n 1, 1) := by decide +kernel
theorem dX12_count_6 : decode cX12_count 6 = .ok (.tableswitch 159 0 16 #[82, 82, 82, 82, 82, 89, 94, 102, 107, 112, 117, 134, 139, 144, 149, 149, 149], 82) := by decide +kernel
theorem dX12_count_88 : decode cX12_count 88 = .ok (.aload_n 0, 1) := by decide +kernel
theorem dX12_count_89 : decode cX12_count 89 = .ok (.getfield 38, 3) := by decide +kernel
theorem dX12_count_92 : decode cX12_count 92 = .ok (.iload_n 1, 1) := by decide +kernel
theorem dX12_count_93 : decode cX12_count 93 = .ok (.iaload, 1) := by decide +kernel
theorem dX12_count_94 : decode cX12_count 94 = .ok (.ireturn, 1) := by decide +kernel
theorem dX12_count_95 : decode cX12_count 95 = .ok (.aload_n 0, 1) := by decide +kernel
theorem dX12_count_96 : decode cX12_count 96 = .ok (.getfield 321, 3) := by decide +kernel
theorem dX12_count_99 : decode cX12_count 99 = .ok (.ireturn, 1) := by decide +kernel
theorem dX12_count_100 : decode cX12_count 100 = .ok (.aload_n 0, 1) := by decide +kernel
theorem dX12_count_101 : decode cX12_count 101 = .ok (.getfield 38, 3) := by decide +kernel
theorem dX12_count_104 : decode cX12_count 104 = .ok (.bipush 6, 2) := by decide +kernel
theorem dX12_count_106 : decode cX12_count 106 = .ok (.iaload, 1) := by decide +kernel
theorem dX12_count_107 : decode cX12_count 107 = .ok (.ireturn, 1) := by decide +kernel
theorem dX12_count_108 : decode cX12_count 108 = .ok (.aload_n 0, 1) := by decide +kernel
theorem dX12_count_109 : decode cX12_count 109 = .ok (.getfield 315, 3) := by decide +kernel
theorem dX12_count_112 : decode cX12_count 112 = .ok (.ireturn, 1) := by decide +kernel
theorem dX12_count_113 : decode cX12_count 113 = .ok (.aload_n 0, 1) := by decide +kernel
theorem dX12_count_114 : decode cX12_count 114 = .ok (.getfield 81, 3) := by decide +kernel
theorem dX12_count_117 : decode cX12_count 117 = .ok (.ireturn, 1) := by decide +kernel
theorem dX12_count_118 : decode cX12_count 118 = .ok (.aload_n 0, 1) := by decide +kernel
theorem dX12_count_119 : decode cX12_count 119 = .ok (.getfield 318, 3) := by decide +kernel
theorem dX12_count_122 : decode cX12_count 122 = .ok (.ireturn, 1) := by decide +kernel
theorem dX12_count_123 : decode cX12_count 123 = .ok (.aload_n 0, 1) := by decide +kernel
theorem dX12_count_124 : decode cX12_count 124 = .ok (.invokevirtual 413, 3) := by decide +kernel
theorem dX12_count_127 : decode cX12_count 127 = .ok (.aload_n 0, 1) := by decide +kernel
theorem dX12_count_128 : decode cX12_count 128 = .ok (.getfield 356, 3) := by decide +kernel
theorem dX12_count_131 : decode cX12_count 131 = .ok (.ifCond .eq 7, 3) := by decide +kernel
theorem dX12_count_134 : decode cX12_count 134 = .ok (.iconst 1, 1) := by decide +kernel
theorem dX12_count_135 : decode cX12_count 135 = .ok (.goto 4, 3) := by decide +kernel
theorem dX12_count_138 : decode cX12_count 138 = .ok (.iconst 0, 1) := by decide +kernel
theorem dX12_count_139 : decode cX12_count 139 = .ok (.ireturn, 1) := by decide +kernel
theorem dX12_count_140 : decode cX12_count 140 = .ok (.aload_n 0, 1) := by decide +kernel
theorem dX12_count_141 : decode cX12_count 141 = .ok (.getfield 324, 3) := by decide +kernel
theorem dX12_count_144 : decode cX12_count 144 = .ok (.ireturn, 1) := by decide +kernel
theorem dX12_count_145 : decode cX12_count 145 = .ok (.aload_n 0, 1) := by decide +kernel
theorem dX12_count_146 : decode cX12_count 146 = .ok (.getfield 327, 3) := by decide +kernel
theorem dX12_count_149 : decode cX12_count 149 = .ok (.ireturn, 1) := by decide +kernel
theorem dX12_count_150 : decode cX12_count 150 = .ok (.aload_n 0, 1) := by decide +kernel
theorem dX12_count_151 : decode cX12_count 151 = .ok (.getfield 166, 3) := by decide +kernel
theorem dX12_count_154 : decode cX12_count 154 = .ok (.ireturn, 1) := by decide +kernel
theorem dX12_count_155 : decode cX12_count 155 = .ok (.aload_n 0, 1) := by decide +kernel
theorem dX12_count_156 : decode cX12_count 156 = .ok (.getfield 65, 3) := by decide +kernel
theorem dX12_count_159 : decode cX12_count 159 = .ok (.iload_n 1, 1) := by decide +kernel
theorem dX12_count_160 : decode cX12_count 160 = .ok (.bipush 14, 2) := by decide +kernel
theorem dX12_count_162 : decode cX12_count 162 = .ok (.isub, 1) := by decide +kernel
theorem dX12_count_163 : decode cX12_count 163 = .ok (.iaload, 1) := by decide +kernel
theorem dX12_count_164 : decode cX12_count 164 = .ok (.ireturn, 1) := by decide +kernel
theorem dX12_count_165 : decode cX12_count 165 = .ok (.aload_n 0, 1) := by decide +kernel
theorem dX12_count_166 : decode cX12_count 166 = .ok (.iconst 1, 1) := by decide +kernel
theorem dX12_count_167 : decode cX12_count 167 = .ok (.invokevirtual 302, 3) := by decide +kernel
theorem dX12_count_170 : decode cX12_count 170 = .ok (.ireturn, 1) := by decide +kernel
theorem dX12_sleeper_0 : decode cX12_sleeper 0 = .ok (.aload_n 0, 1) := by decide +kernel
theorem dX12_sleeper_1 : decode cX12_sleeper 1 = .ok (.iconst 0, 1) := by decide +kernel
theorem dX12_sleeper_2 : decode cX12_sleeper 2 = .ok (.putfield 159, 3) := by decide +kernel
theorem dX12_sleeper_5 : decode cX12_sleeper 5 = .ok (.aload_n 0, 1) := by decide +kernel
theorem dX12_sleeper_6 : decode cX12_sleeper 6 = .ok (.iload_n 1, 1) := by decide +kernel
theorem dX12_sleeper_7 : decode cX12_sleeper 7 = .ok (.invokevirtual 420, 3) := by decide +kernel
theorem dX12_sleeper_10 : decode cX12_sleeper 10 = .ok (.ifCond .ne 9, 3) := by decide +kernel
theorem dX12_sleeper_13 : decode cX12_sleeper 13 = .ok (.aload_n 0, 1) := by decide +kernel
theorem dX12_sleeper_14 : decode cX12_sleeper 14 = .ok (.iconst 1, 1) := by decide +kernel
theorem dX12_sleeper_15 : decode cX12_sleeper 15 = .ok (.invokevirtual 302, 3) := by decide +kernel
theorem dX12_sleeper_18 : decode cX12_sleeper 18 = .ok (.ireturn, 1) := by decide +kernel
theorem dX12_sleeper_19 : decode cX12_sleeper 19 = .ok (.iload_n 2, 1) := by decide +kernel
theorem dX12_sleeper_20 : decode cX12_sleeper 20 = .ok (.tableswitch 117 0 8 #[52, 59, 59, 72, 79, 86, 93, 100, 110], 52) := by decide +kernel
theorem dX12_sleeper_72 : decode cX12_sleeper 72 = .ok (.aload_n 0, 1) := by decide +kernel
theorem dX12_sleeper_73 : decode cX12_sleeper 73 = .ok (.getfield 42, 3) := by decide +kernel
theorem dX12_sleeper_76 : decode cX12_sleeper 76 = .ok (.iload_n 1, 1) := by decide +kernel
theorem dX12_sleeper_77 : decode cX12_sleeper 77 = .ok (.iaload, 1) := by decide +kernel
theorem dX12_sleeper_78 : decode cX12_sleeper 78 = .ok (.ireturn, 1) := by decide +kernel
theorem dX12_sleeper_79 : decode cX12_sleeper 79 = .ok (.aload_n 0, 1) := by decide +kernel
theorem dX12_sleeper_80 : decode cX12_sleeper 80 = .ok (.getfield 45, 3) := by decide +kernel
theorem dX12_sleeper_83 : decode cX12_sleeper 83 = .ok (.iconst 2, 1) := by decide +kernel
theorem dX12_sleeper_84 : decode cX12_sleeper 84 = .ok (.iload_n 1, 1) := by decide +kernel
theorem dX12_sleeper_85 : decode cX12_sleeper 85 = .ok (.imul, 1) := by decide +kernel
theorem dX12_sleeper_86 : decode cX12_sleeper 86 = .ok (.iload_n 2, 1) := by decide +kernel
theorem dX12_sleeper_87 : decode cX12_sleeper 87 = .ok (.iadd, 1) := by decide +kernel
theorem dX12_sleeper_88 : decode cX12_sleeper 88 = .ok (.iconst 1, 1) := by decide +kernel
theorem dX12_sleeper_89 : decode cX12_sleeper 89 = .ok (.isub, 1) := by decide +kernel
theorem dX12_sleeper_90 : decode cX12_sleeper 90 = .ok (.iaload, 1) := by decide +kernel
theorem dX12_sleeper_91 : decode cX12_sleeper 91 = .ok (.ireturn, 1) := by decide +kernel
theorem dX12_sleeper_92 : decode cX12_sleeper 92 = .ok (.aload_n 0, 1) := by decide +kernel
theorem dX12_sleeper_93 : decode cX12_sleeper 93 = .ok (.getfield 48, 3) := by decide +kernel
theorem dX12_sleeper_96 : decode cX12_sleeper 96 = .ok (.iload_n 1, 1) := by decide +kernel
theorem dX12_sleeper_97 : decode cX12_sleeper 97 = .ok (.iaload, 1) := by decide +kernel
theorem dX12_sleeper_98 : decode cX12_sleeper 98 = .ok (.ireturn, 1) := by decide +kernel
theorem dX12_sleeper_99 : decode cX12_sleeper 99 = .ok (.aload_n 0, 1) := by decide +kernel
theorem dX12_sleeper_100 : decode cX12_sleeper 100 = .ok (.getfield 50, 3) := by decide +kernel
theorem dX12_sleeper_103 : decode cX12_sleeper 103 = .ok (.iload_n 1, 1) := by decide +kernel
theorem dX12_sleeper_104 : decode cX12_sleeper 104 = .ok (.iaload, 1) := by decide +kernel
theorem dX12_sleeper_105 : decode cX12_sleeper 105 = .ok (.ireturn, 1) := by decide +kernel
theorem dX12_sleeper_106 : decode cX12_sleeper 106 = .ok (.aload_n 0, 1) := by decide +kernel
theorem dX12_sleeper_107 : decode cX12_sleeper 107 = .ok (.getfield 53, 3) := by decide +kernel
theorem dX12_sleeper_110 : decode cX12_sleeper 110 = .ok (.iload_n 1, 1) := by decide +kernel
theorem dX12_sleeper_111 : decode cX12_sleeper 111 = .ok (.iaload, 1) := by decide +kernel
theorem dX12_sleeper_112 : decode cX12_sleeper 112 = .ok (.ireturn, 1) := by decide +kernel
theorem dX12_sleeper_113 : decode cX12_sleeper 113 = .ok (.aload_n 0, 1) := by decide +kernel
theorem dX12_sleeper_114 : decode cX12_sleeper 114 = .ok (.getfield 56, 3) := by decide +kernel
theorem dX12_sleeper_117 : decode cX12_sleeper 117 = .ok (.iload_n 1, 1) := by decide +kernel
theorem dX12_sleeper_118 : decode cX12_sleeper 118 = .ok (.iaload, 1) := by decide +kernel
theorem dX12_sleeper_119 : decode cX12_sleeper 119 = .ok (.ireturn, 1) := by decide +kernel
theorem dX12_sleeper_120 : decode cX12_sleeper 120 = .ok (.aload_n 0, 1) := by decide +kernel
theorem dX12_sleeper_121 : decode cX12_sleeper 121 = .ok (.invokevirtual 413, 3) := by decide +kernel
theorem dX12_sleeper_124 : decode cX12_sleeper 124 = .ok (.aload_n 0, 1) := by decide +kernel
theorem dX12_sleeper_125 : decode cX12_sleeper 125 = .ok (.iload_n 1, 1) := by decide +kernel
theorem dX12_sleeper_126 : decode cX12_sleeper 126 = .ok (.invokevirtual 394, 3) := by decide +kernel
theorem dX12_sleeper_129 : decode cX12_sleeper 129 = .ok (.ireturn, 1) := by decide +kernel
theorem dX12_sleeper_130 : decode cX12_sleeper 130 = .ok (.aload_n 0, 1) := by decide +kernel
theorem dX12_sleeper_131 : decode cX12_sleeper 131 = .ok (.getfield 59, 3) := by decide +kernel
theorem dX12_sleeper_134 : decode cX12_sleeper 134 = .ok (.iload_n 1, 1) := by decide +kernel
theorem dX12_sleeper_135 : decode cX12_sleeper 135 = .ok (.iaload, 1) := by decide +kernel
theorem dX12_sleeper_136 : decode cX12_sleeper 136 = .ok (.ireturn, 1) := by decide +kernel
theorem dX12_sleeper_137 : decode cX12_sleeper 137 = .ok (.aload_n 0, 1) := by decide +kernel
theorem dX12_sleeper_138 : decode cX12_sleeper 138 = .ok (.iconst 1, 1) := by decide +kernel
theorem dX12_sleeper_139 : decode cX12_sleeper 139 = .ok (.invokevirtual 302, 3) := by decide +kernel
theorem dX12_sleeper_142 : decode cX12_sleeper 142 = .ok (.ireturn, 1) := by decide +kernel
theorem dX12_refuse_0 : decode cX12_refuse 0 = .ok (.aload_n 0, 1) := by decide +kernel
theorem dX12_refuse_1 : decode cX12_refuse 1 = .ok (.getfield 65, 3) := by decide +kernel
theorem dX12_refuse_4 : decode cX12_refuse 4 = .ok (.iload_n 1, 1) := by decide +kernel
theorem dX12_refuse_5 : decode cX12_refuse 5 = .ok (.dup2, 1) := by decide +kernel
theorem dX12_refuse_6 : decode cX12_refuse 6 = .ok (.iaload, 1) := by decide +kernel
theorem dX12_refuse_7 : decode cX12_refuse 7 = .ok (.iconst 1, 1) := by decide +kernel
theorem dX12_refuse_8 : decode cX12_refuse 8 = .ok (.iadd, 1) := by decide +kernel
theorem dX12_refuse_9 : decode cX12_refuse 9 = .ok (.iastore, 1) := by decide +kernel
theorem dX12_refuse_10 : decode cX12_refuse 10 = .ok (.iconst (-1), 1) := by decide +kernel
theorem dX12_refuse_11 : decode cX12_refuse 11 = .ok (.ireturn, 1) := by decide +kernel
theorem dX12_keep_0 : decode cX12_keep 0 = .ok (.aload_n 0, 1) := by decide +kernel
theorem dX12_keep_1 : decode cX12_keep 1 = .ok (.getfield 324, 3) := by decide +kernel
theorem dX12_keep_4 : decode cX12_keep 4 = .ok (.bipush 40, 2) := by decide +kernel
theorem dX12_keep_6 : decode cX12_keep 6 = .ok (.if_icmp .ne 46, 3) := by decide +kernel
theorem dX12_keep_9 : decode cX12_keep 9 = .ok (.bipush 18, 2) := by decide +kernel
theorem dX12_keep_11 : decode cX12_keep 11 = .ok (.istore_n 1, 1) := by decide +kernel
theorem dX12_keep_12 : decode cX12_keep 12 = .ok (.iload_n 1, 1) := by decide +kernel
theorem dX12_keep_13 : decode cX12_keep 13 = .ok (.aload_n 0, 1) := by decide +kernel
theorem dX12_keep_14 : decode cX12_keep 14 = .ok (.getfield 78, 3) := by decide +kernel
theorem dX12_keep_17 : decode cX12_keep 17 = .ok (.arraylength, 1) := by decide +kernel
theorem dX12_keep_18 : decode cX12_keep 18 = .ok (.if_icmp .ge 24, 3) := by decide +kernel
theorem dX12_keep_21 : decode cX12_keep 21 = .ok (.aload_n 0, 1) := by decide +kernel
theorem dX12_keep_22 : decode cX12_keep 22 = .ok (.getfield 78, 3) := by decide +kernel
theorem dX12_keep_25 : decode cX12_keep 25 = .ok (.iload_n 1, 1) := by decide +kernel
theorem dX12_keep_26 : decode cX12_keep 26 = .ok (.bipush 18, 2) := by decide +kernel
theorem dX12_keep_28 : decode cX12_keep 28 = .ok (.isub, 1) := by decide +kernel
theorem dX12_keep_29 : decode cX12_keep 29 = .ok (.aload_n 0, 1) := by decide +kernel
theorem dX12_keep_30 : decode cX12_keep 30 = .ok (.getfield 78, 3) := by decide +kernel
theorem dX12_keep_33 : decode cX12_keep 33 = .ok (.iload_n 1, 1) := by decide +kernel
theorem dX12_keep_34 : decode cX12_keep 34 = .ok (.iaload, 1) := by decide +kernel
theorem dX12_keep_35 : decode cX12_keep 35 = .ok (.iastore, 1) := by decide +kernel
theorem dX12_keep_36 : decode cX12_keep 36 = .ok (.iinc 1 1, 3) := by decide +kernel
theorem dX12_keep_39 : decode cX12_keep 39 = .ok (.goto (-27), 3) := by decide +kernel
theorem dX12_keep_42 : decode cX12_keep 42 = .ok (.aload_n 0, 1) := by decide +kernel
theorem dX12_keep_43 : decode cX12_keep 43 = .ok (.dup, 1) := by decide +kernel
theorem dX12_keep_44 : decode cX12_keep 44 = .ok (.getfield 324, 3) := by decide +kernel
theorem dX12_keep_47 : decode cX12_keep 47 = .ok (.iconst 1, 1) := by decide +kernel
theorem dX12_keep_48 : decode cX12_keep 48 = .ok (.isub, 1) := by decide +kernel
theorem dX12_keep_49 : decode cX12_keep 49 = .ok (.putfield 324, 3) := by decide +kernel
theorem dX12_keep_52 : decode cX12_keep 52 = .ok (.aload_n 0, 1) := by decide +kernel
theorem dX12_keep_53 : decode cX12_keep 53 = .ok (.aload_n 0, 1) := by decide +kernel
theorem dX12_keep_54 : decode cX12_keep 54 = .ok (.getfield 78, 3) := by decide +kernel
theorem dX12_keep_57 : decode cX12_keep 57 = .ok (.bipush 18, 2) := by decide +kernel
theorem dX12_keep_59 : decode cX12_keep 59 = .ok (.aload_n 0, 1) := by decide +kernel
theorem dX12_keep_60 : decode cX12_keep 60 = .ok (.getfield 324, 3) := by decide +kernel
theorem dX12_keep_63 : decode cX12_keep 63 = .ok (.imul, 1) := by decide +kernel
theorem dX12_keep_64 : decode cX12_keep 64 = .ok (.invokevirtual 423, 3) := by decide +kernel
theorem dX12_keep_67 : decode cX12_keep 67 = .ok (.aload_n 0, 1) := by decide +kernel
theorem dX12_keep_68 : decode cX12_keep 68 = .ok (.dup, 1) := by decide +kernel
theorem dX12_keep_69 : decode cX12_keep 69 = .ok (.getfield 324, 3) := by decide +kernel
theorem dX12_keep_72 : decode cX12_keep 72 = .ok (.iconst 1, 1) := by decide +kernel
theorem dX12_keep_73 : decode cX12_keep 73 = .ok (.iadd, 1) := by decide +kernel
theorem dX12_keep_74 : decode cX12_keep 74 = .ok (.putfield 324, 3) := by decide +kernel
theorem dX12_keep_77 : decode cX12_keep 77 = .ok (.return_, 1) := by decide +kernel
theorem dX12_swap_0 : decode cX12_swap 0 = .ok (.aload_n 0, 1) := by decide +kernel
theorem dX12_swap_1 : decode cX12_swap 1 = .ok (.iconst 0, 1) := by decide +kernel
theorem dX12_swap_2 : decode cX12_swap 2 = .ok (.putfield 159, 3) := by decide +kernel
theorem dX12_swap_5 : decode cX12_swap 5 = .ok (.aload_n 0, 1) := by decide +kernel
theorem dX12_swap_6 : decode cX12_swap 6 = .ok (.iload_n 1, 1) := by decide +kernel
theorem dX12_swap_7 : decode cX12_swap 7 = .ok (.invokevirtual 420, 3) := by decide +kernel
theorem dX12_swap_10 : decode cX12_swap 10 = .ok (.ifCond .eq 16, 3) := by decide +kernel
theorem dX12_swap_13 : decode cX12_swap 13 = .ok (.aload_n 0, 1) := by decide +kernel
theorem dX12_swap_14 : decode cX12_swap 14 = .ok (.iload_n 2, 1) := by decide +kernel
theorem dX12_swap_15 : decode cX12_swap 15 = .ok (.invokevirtual 420, 3) := by decide +kernel
theorem dX12_swap_18 : decode cX12_swap 18 = .ok (.ifCond .eq 8, 3) := by decide +kernel
theorem dX12_swap_21 : decode cX12_swap 21 = .ok (.iload_n 1, 1) := by decide +kernel
theorem dX12_swap_22 : decode cX12_swap 22 = .ok (.iload_n 2, 1) := by decide +kernel
theorem dX12_swap_23 : decode cX12_swap 23 = .ok (.if_icmp .ne 15, 3) := by decide +kernel
theorem dX12_swap_26 : decode cX12_swap 26 = .ok (.aload_n 0, 1) := by decide +kernel
theorem dX12_swap_27 : decode cX12_swap 27 = .ok (.getfield 65, 3) := by decide +kernel
theorem dX12_swap_30 : decode cX12_swap 30 = .ok (.iconst 1, 1) := by decide +kernel
theorem dX12_swap_31 : decode cX12_swap 31 = .ok (.dup2, 1) := by decide +kernel
theorem dX12_swap_32 : decode cX12_swap 32 = .ok (.iaload, 1) := by decide +kernel
theorem dX12_swap_33 : decode cX12_swap 33 = .ok (.iconst 1, 1) := by decide +kernel
theorem dX12_swap_34 : decode cX12_swap 34 = .ok (.iadd, 1) := by decide +kernel
theorem dX12_swap_35 : decode cX12_swap 35 = .ok (.iastore, 1) := by decide +kernel
theorem dX12_swap_36 : decode cX12_swap 36 = .ok (.iconst 0, 1) := by decide +kernel
theorem dX12_swap_37 : decode cX12_swap 37 = .ok (.ireturn, 1) := by decide +kernel
theorem dX12_swap_38 : decode cX12_swap 38 = .ok (.aload_n 0, 1) := by decide +kernel
theorem dX12_swap_39 : decode cX12_swap 39 = .ok (.invokevirtual 427, 3) := by decide +kernel
theorem dX12_swap_42 : decode cX12_swap 42 = .ok (.aload_n 0, 1) := by decide +kernel
theorem dX12_swap_43 : decode cX12_swap 43 = .ok (.getfield 75, 3) := by decide +kernel
theorem dX12_swap_46 : decode cX12_swap 46 = .ok (.iload_n 1, 1) := by decide +kernel
theorem dX12_swap_47 : decode cX12_swap 47 = .ok (.iaload, 1) := by decide +kernel
theorem dX12_swap_48 : decode cX12_swap 48 = .ok (.istore_n 3, 1) := by decide +kernel
theorem dX12_swap_49 : decode cX12_swap 49 = .ok (.aload_n 0, 1) := by decide +kernel
theorem dX12_swap_50 : decode cX12_swap 50 = .ok (.getfield 75, 3) := by decide +kernel
theorem dX12_swap_53 : decode cX12_swap 53 = .ok (.iload_n 1, 1) := by decide +kernel
theorem dX12_swap_54 : decode cX12_swap 54 = .ok (.aload_n 0, 1) := by decide +kernel
theorem dX12_swap_55 : decode cX12_swap 55 = .ok (.getfield 75, 3) := by decide +kernel
theorem dX12_swap_58 : decode cX12_swap 58 = .ok (.iload_n 2, 1) := by decide +kernel
theorem dX12_swap_59 : decode cX12_swap 59 = .ok (.iaload, 1) := by decide +kernel
theorem dX12_swap_60 : decode cX12_swap 60 = .ok (.iastore, 1) := by decide +kernel
theorem dX12_swap_61 : decode cX12_swap 61 = .ok (.aload_n 0, 1) := by decide +kernel
theorem dX12_swap_62 : decode cX12_swap 62 = .ok (.getfield 75, 3) := by decide +kernel
theorem dX12_swap_65 : decode cX12_swap 65 = .ok (.iload_n 2, 1) := by decide +kernel
theorem dX12_swap_66 : decode cX12_swap 66 = .ok (.iload_n 3, 1) := by decide +kernel
theorem dX12_swap_67 : decode cX12_swap 67 = .ok (.iastore, 1) := by decide +kernel
theorem dX12_swap_68 : decode cX12_swap 68 = .ok (.iconst 1, 1) := by decide +kernel
theorem dX12_swap_69 : decode cX12_swap 69 = .ok (.ireturn, 1) := by decide +kernel
theorem dX12_side_0 : decode cX12_side 0 = .ok (.aload_n 0, 1) := by decide +kernel
theorem dX12_side_1 : decode cX12_side 1 = .ok (.iconst 0, 1) := by decide +kernel
theorem dX12_side_2 : decode cX12_side 2 = .ok (.putfield 159, 3) := by decide +kernel
theorem dX12_side_5 : decode cX12_side 5 = .ok (.iload_n 1, 1) := by decide +kernel
theorem dX12_side_6 : decode cX12_side 6 = .ok (.ifCond .lt 8, 3) := by decide +kernel
theorem dX12_side_9 : decode cX12_side 9 = .ok (.iload_n 1, 1) := by decide +kernel
theorem dX12_side_10 : decode cX12_side 10 = .ok (.iconst 1, 1) := by decide +kernel
theorem dX12_side_11 : decode cX12_side 11 = .ok (.if_icmp .le 9, 3) := by decide +kernel
theorem dX12_side_14 : decode cX12_side 14 = .ok (.aload_n 0, 1) := by decide +kernel
theorem dX12_side_15 : decode cX12_side 15 = .ok (.iconst 1, 1) := by decide +kernel
theorem dX12_side_16 : decode cX12_side 16 = .ok (.invokevirtual 430, 3) := by decide +kernel
theorem dX12_side_19 : decode cX12_side 19 = .ok (.ireturn, 1) := by decide +kernel
theorem dX12_side_20 : decode cX12_side 20 = .ok (.aload_n 0, 1) := by decide +kernel
theorem dX12_side_21 : decode cX12_side 21 = .ok (.invokevirtual 427, 3) := by decide +kernel
theorem dX12_side_24 : decode cX12_side 24 = .ok (.aload_n 0, 1) := by decide +kernel
theorem dX12_side_25 : decode cX12_side 25 = .ok (.getfield 315, 3) := by decide +kernel
theorem dX12_side_28 : decode cX12_side 28 = .ok (.istore_n 2, 1) := by decide +kernel
theorem dX12_side_29 : decode cX12_side 29 = .ok (.aload_n 0, 1) := by decide +kernel
theorem dX12_side_30 : decode cX12_side 30 = .ok (.iload_n 1, 1) := by decide +kernel
theorem dX12_side_31 : decode cX12_side 31 = .ok (.putfield 315, 3) := by decide +kernel
theorem dX12_side_34 : decode cX12_side 34 = .ok (.iload_n 2, 1) := by decide +kernel
theorem dX12_side_35 : decode cX12_side 35 = .ok (.ireturn, 1) := by decide +kernel
theorem dX12_word_0 : decode cX12_word 0 = .ok (.aload_n 0, 1) := by decide +kernel
theorem dX12_word_1 : decode cX12_word 1 = .ok (.iconst 0, 1) := by decide +kernel
theorem dX12_word_2 : decode cX12_word 2 = .ok (.putfield 159, 3) := by decide +kernel
theorem dX12_word_5 : decode cX12_word 5 = .ok (.aload_n 0, 1) := by decide +kernel
theorem dX12_word_6 : decode cX12_word 6 = .ok (.iload_n 1, 1) := by decide +kernel
theorem dX12_word_7 : decode cX12_word 7 = .ok (.invokevirtual 420, 3) := by decide +kernel
theorem dX12_word_10 : decode cX12_word 10 = .ok (.ifCond .ne 9, 3) := by decide +kernel
theorem dX12_word_13 : decode cX12_word 13 = .ok (.aload_n 0, 1) := by decide +kernel
theorem dX12_word_14 : decode cX12_word 14 = .ok (.iconst 1, 1) := by decide +kernel
theorem dX12_word_15 : decode cX12_word 15 = .ok (.invokevirtual 302, 3) := by decide +kernel
theorem dX12_word_18 : decode cX12_word 18 = .ok (.ireturn, 1) := by decide +kernel
theorem dX12_word_19 : decode cX12_word 19 = .ok (.aload_n 0, 1) := by decide +kernel
theorem dX12_word_20 : decode cX12_word 20 = .ok (.getfield 42, 3) := by decide +kernel
theorem dX12_word_23 : decode cX12_word 23 = .ok (.iload_n 1, 1) := by decide +kernel
theorem dX12_word_24 : decode cX12_word 24 = .ok (.iaload, 1) := by decide +kernel
theorem dX12_word_25 : decode cX12_word 25 = .ok (.iconst 3, 1) := by decide +kernel
theorem dX12_word_26 : decode cX12_word 26 = .ok (.if_icmp .eq 15, 3) := by decide +kernel
theorem dX12_word_29 : decode cX12_word 29 = .ok (.iload_n 2, 1) := by decide +kernel
theorem dX12_word_30 : decode cX12_word 30 = .ok (.i2l, 1) := by decide +kernel
theorem dX12_word_31 : decode cX12_word 31 = .ok (.lconst 0, 1) := by decide +kernel
theorem dX12_word_32 : decode cX12_word 32 = .ok (.ldc2_w 433, 3) := by decide +kernel
theorem dX12_word_35 : decode cX12_word 35 = .ok (.invokestatic 162, 3) := by decide +kernel
theorem dX12_word_38 : decode cX12_word 38 = .ok (.ifCond .ne 9, 3) := by decide +kernel
theorem dX12_word_41 : decode cX12_word 41 = .ok (.aload_n 0, 1) := by decide +kernel
theorem dX12_word_42 : decode cX12_word 42 = .ok (.iconst 1, 1) := by decide +kernel
theorem dX12_word_43 : decode cX12_word 43 = .ok (.invokevirtual 430, 3) := by decide +kernel
theorem dX12_word_46 : decode cX12_word 46 = .ok (.ireturn, 1) := by decide +kernel
theorem dX12_word_47 : decode cX12_word 47 = .ok (.aload_n 0, 1) := by decide +kernel
theorem dX12_word_48 : decode cX12_word 48 = .ok (.invokevirtual 427, 3) := by decide +kernel
theorem dX12_word_51 : decode cX12_word 51 = .ok (.aload_n 0, 1) := by decide +kernel
theorem dX12_word_52 : decode cX12_word 52 = .ok (.getfield 318, 3) := by decide +kernel
theorem dX12_word_55 : decode cX12_word 55 = .ok (.istore_n 3, 1) := by decide +kernel
theorem dX12_word_56 : decode cX12_word 56 = .ok (.aload_n 0, 1) := by decide +kernel
theorem dX12_word_57 : decode cX12_word 57 = .ok (.iload_n 2, 1) := by decide +kernel
theorem dX12_word_58 : decode cX12_word 58 = .ok (.ifCond .ne 7, 3) := by decide +kernel
theorem dX12_word_61 : decode cX12_word 61 = .ok (.iconst (-1), 1) := by decide +kernel
theorem dX12_word_62 : decode cX12_word 62 = .ok (.goto 4, 3) := by decide +kernel
theorem dX12_word_65 : decode cX12_word 65 = .ok (.iload_n 1, 1) := by decide +kernel
theorem dX12_word_66 : decode cX12_word 66 = .ok (.putfield 81, 3) := by decide +kernel
theorem dX12_word_69 : decode cX12_word 69 = .ok (.aload_n 0, 1) := by decide +kernel
theorem dX12_word_70 : decode cX12_word 70 = .ok (.iload_n 2, 1) := by decide +kernel
theorem dX12_word_71 : decode cX12_word 71 = .ok (.putfield 318, 3) := by decide +kernel
theorem dX12_word_74 : decode cX12_word 74 = .ok (.iload_n 3, 1) := by decide +kernel
theorem dX12_word_75 : decode cX12_word 75 = .ok (.ireturn, 1) := by decide +kernel
theorem dX12_bolster_0 : decode cX12_bolster 0 = .ok (.aload_n 0, 1) := by decide +kernel
theorem dX12_bolster_1 : decode cX12_bolster 1 = .ok (.iconst 0, 1) := by decide +kernel
theorem dX12_bolster_2 : decode cX12_bolster 2 = .ok (.putfield 159, 3) := by decide +kernel
theorem dX12_bolster_5 : decode cX12_bolster 5 = .ok (.iload_n 1, 1) := by decide +kernel
theorem dX12_bolster_6 : decode cX12_bolster 6 = .ok (.i2l, 1) := by decide +kernel
theorem dX12_bolster_7 : decode cX12_bolster 7 = .ok (.lconst 1, 1) := by decide +kernel
theorem dX12_bolster_8 : decode cX12_bolster 8 = .ok (.ldc2_w 435, 3) := by decide +kernel
theorem dX12_bolster_11 : decode cX12_bolster 11 = .ok (.invokestatic 162, 3) := by decide +kernel
theorem dX12_bolster_14 : decode cX12_bolster 14 = .ok (.ifCond .eq 23, 3) := by decide +kernel
theorem dX12_bolster_17 : decode cX12_bolster 17 = .ok (.aload_n 0, 1) := by decide +kernel
theorem dX12_bolster_18 : decode cX12_bolster 18 = .ok (.getfield 321, 3) := by decide +kernel
theorem dX12_bolster_21 : decode cX12_bolster 21 = .ok (.iload_n 1, 1) := by decide +kernel
theorem dX12_bolster_22 : decode cX12_bolster 22 = .ok (.ishr, 1) := by decide +kernel
theorem dX12_bolster_23 : decode cX12_bolster 23 = .ok (.iconst 1, 1) := by decide +kernel
theorem dX12_bolster_24 : decode cX12_bolster 24 = .ok (.iand, 1) := by decide +kernel
theorem dX12_bolster_25 : decode cX12_bolster 25 = .ok (.iload_n 2, 1) := by decide +kernel
theorem dX12_bolster_26 : decode cX12_bolster 26 = .ok (.ifCond .eq 7, 3) := by decide +kernel
theorem dX12_bolster_29 : decode cX12_bolster 29 = .ok (.iconst 1, 1) := by decide +kernel
theorem dX12_bolster_30 : decode cX12_bolster 30 = .ok (.goto 4, 3) := by decide +kernel
theorem dX12_bolster_33 : decode cX12_bolster 33 = .ok (.iconst 0, 1) := by decide +kernel
theorem dX12_bolster_34 : decode cX12_bolster 34 = .ok (.if_icmp .ne 15, 3) := by decide +kernel
theorem dX12_bolster_37 : decode cX12_bolster 37 = .ok (.aload_n 0, 1) := by decide +kernel
theorem dX12_bolster_38 : decode cX12_bolster 38 = .ok (.getfield 65, 3) := by decide +kernel
theorem dX12_bolster_41 : decode cX12_bolster 41 = .ok (.iconst 1, 1) := by decide +kernel
theorem dX12_bolster_42 : decode cX12_bolster 42 = .ok (.dup2, 1) := by decide +kernel
theorem dX12_bolster_43 : decode cX12_bolster 43 = .ok (.iaload, 1) := by decide +kernel
theorem dX12_bolster_44 : decode cX12_bolster 44 = .ok (.iconst 1, 1) := by decide +kernel
theorem dX12_bolster_45 : decode cX12_bolster 45 = .ok (.iadd, 1) := by decide +kernel
theorem dX12_bolster_46 : decode cX12_bolster 46 = .ok (.iastore, 1) := by decide +kernel
theorem dX12_bolster_47 : decode cX12_bolster 47 = .ok (.iconst 0, 1) := by decide +kernel
theorem dX12_bolster_48 : decode cX12_bolster 48 = .ok (.ireturn, 1) := by decide +kernel
theorem dX12_bolster_49 : decode cX12_bolster 49 = .ok (.aload_n 0, 1) := by decide +kernel
theorem dX12_bolster_50 : decode cX12_bolster 50 = .ok (.invokevirtual 427, 3) := by decide +kernel
theorem dX12_bolster_53 : decode cX12_bolster 53 = .ok (.aload_n 0, 1) := by decide +kernel
theorem dX12_bolster_54 : decode cX12_bolster 54 = .ok (.dup, 1) := by decide +kernel
theorem dX12_bolster_55 : decode cX12_bolster 55 = .ok (.getfield 321, 3) := by decide +kernel
theorem dX12_bolster_58 : decode cX12_bolster 58 = .ok (.iconst 1, 1) := by decide +kernel
theorem dX12_bolster_59 : decode cX12_bolster 59 = .ok (.iload_n 1, 1) := by decide +kernel
theorem dX12_bolster_60 : decode cX12_bolster 60 = .ok (.ishl, 1) := by decide +kernel
theorem dX12_bolster_61 : decode cX12_bolster 61 = .ok (.ixor, 1) := by decide +kernel
theorem dX12_bolster_62 : decode cX12_bolster 62 = .ok (.putfield 321, 3) := by decide +kernel
theorem dX12_bolster_65 : decode cX12_bolster 65 = .ok (.iconst 1, 1) := by decide +kernel
theorem dX12_bolster_66 : decode cX12_bolster 66 = .ok (.ireturn, 1) := by decide +kernel
theorem dX12_out_0 : decode cX12_out 0 = .ok (.aload_n 0, 1) := by decide +kernel
theorem dX12_out_1 : decode cX12_out 1 = .ok (.iconst 0, 1) := by decide +kernel
theorem dX12_out_2 : decode cX12_out 2 = .ok (.putfield 159, 3) := by decide +kernel
theorem dX12_out_5 : decode cX12_out 5 = .ok (.aload_n 0, 1) := by decide +kernel
theorem dX12_out_6 : decode cX12_out 6 = .ok (.iload_n 1, 1) := by decide +kernel
theorem dX12_out_7 : decode cX12_out 7 = .ok (.invokevirtual 420, 3) := by decide +kernel
theorem dX12_out_10 : decode cX12_out 10 = .ok (.ifCond .ne 9, 3) := by decide +kernel
theorem dX12_out_13 : decode cX12_out 13 = .ok (.aload_n 0, 1) := by decide +kernel
theorem dX12_out_14 : decode cX12_out 14 = .ok (.iconst 1, 1) := by decide +kernel
theorem dX12_out_15 : decode cX12_out 15 = .ok (.invokevirtual 302, 3) := by decide +kernel
theorem dX12_out_18 : decode cX12_out 18 = .ok (.ireturn, 1) := by decide +kernel
theorem dX12_out_19 : decode cX12_out 19 = .ok (.aload_n 0, 1) := by decide +kernel
theorem dX12_out_20 : decode cX12_out 20 = .ok (.getfield 42, 3) := by decide +kernel
theorem dX12_out_23 : decode cX12_out 23 = .ok (.iload_n 1, 1) := by decide +kernel
theorem dX12_out_24 : decode cX12_out 24 = .ok (.iaload, 1) := by decide +kernel
theorem dX12_out_25 : decode cX12_out 25 = .ok (.iconst 3, 1) := by decide +kernel
theorem dX12_out_26 : decode cX12_out 26 = .ok (.if_icmp .eq 15, 3) := by decide +kernel
theorem dX12_out_29 : decode cX12_out 29 = .ok (.iload_n 2, 1) := by decide +kernel
theorem dX12_out_30 : decode cX12_out 30 = .ok (.i2l, 1) := by decide +kernel
theorem dX12_out_31 : decode cX12_out 31 = .ok (.lconst 0, 1) := by decide +kernel
theorem dX12_out_32 : decode cX12_out 32 = .ok (.ldc2_w 437, 3) := by decide +kernel
theorem dX12_out_35 : decode cX12_out 35 = .ok (.invokestatic 162, 3) := by decide +kernel
theorem dX12_out_38 : decode cX12_out 38 = .ok (.ifCond .ne 9, 3) := by decide +kernel
theorem dX12_out_41 : decode cX12_out 41 = .ok (.aload_n 0, 1) := by decide +kernel
theorem dX12_out_42 : decode cX12_out 42 = .ok (.iconst 1, 1) := by decide +kernel
theorem dX12_out_43 : decode cX12_out 43 = .ok (.invokevirtual 430, 3) := by decide +kernel
theorem dX12_out_46 : decode cX12_out 46 = .ok (.ireturn, 1) := by decide +kernel
theorem dX12_out_47 : decode cX12_out 47 = .ok (.aload_n 0, 1) := by decide +kernel
theorem dX12_out_48 : decode cX12_out 48 = .ok (.invokevirtual 427, 3) := by decide +kernel
theorem dX12_out_51 : decode cX12_out 51 = .ok (.aload_n 0, 1) := by decide +kernel
theorem dX12_out_52 : decode cX12_out 52 = .ok (.getfield 53, 3) := by decide +kernel
theorem dX12_out_55 : decode cX12_out 55 = .ok (.iload_n 1, 1) := by decide +kernel
theorem dX12_out_56 : decode cX12_out 56 = .ok (.iaload, 1) := by decide +kernel
theorem dX12_out_57 : decode cX12_out 57 = .ok (.istore_n 3, 1) := by decide +kernel
theorem dX12_out_58 : decode cX12_out 58 = .ok (.aload_n 0, 1) := by decide +kernel
theorem dX12_out_59 : decode cX12_out 59 = .ok (.getfield 53, 3) := by decide +kernel
theorem dX12_out_62 : decode cX12_out 62 = .ok (.iload_n 1, 1) := by decide +kernel
theorem dX12_out_63 : decode cX12_out 63 = .ok (.iload_n 2, 1) := by decide +kernel
theorem dX12_out_64 : decode cX12_out 64 = .ok (.iastore, 1) := by decide +kernel
theorem dX12_out_65 : decode cX12_out 65 = .ok (.iload_n 3, 1) := by decide +kernel
theorem dX12_out_66 : decode cX12_out 66 = .ok (.ireturn, 1) := by decide +kernel
theorem dX12_undo_0 : decode cX12_undo 0 = .ok (.aload_n 0, 1) := by decide +kernel
theorem dX12_undo_1 : decode cX12_undo 1 = .ok (.iconst 0, 1) := by decide +kernel
theorem dX12_undo_2 : decode cX12_undo 2 = .ok (.putfield 159, 3) := by decide +kernel
theorem dX12_undo_5 : decode cX12_undo 5 = .ok (.aload_n 0, 1) := by decide +kernel
theorem dX12_undo_6 : decode cX12_undo 6 = .ok (.getfield 324, 3) := by decide +kernel
theorem dX12_undo_9 : decode cX12_undo 9 = .ok (.ifCond .ne 5, 3) := by decide +kernel
theorem dX12_undo_12 : decode cX12_undo 12 = .ok (.iconst (-1), 1) := by decide +kernel
theorem dX12_undo_13 : decode cX12_undo 13 = .ok (.ireturn, 1) := by decide +kernel
theorem dX12_undo_14 : decode cX12_undo 14 = .ok (.aload_n 0, 1) := by decide +kernel
theorem dX12_undo_15 : decode cX12_undo 15 = .ok (.dup, 1) := by decide +kernel
theorem dX12_undo_16 : decode cX12_undo 16 = .ok (.getfield 324, 3) := by decide +kernel
theorem dX12_undo_19 : decode cX12_undo 19 = .ok (.iconst 1, 1) := by decide +kernel
theorem dX12_undo_20 : decode cX12_undo 20 = .ok (.isub, 1) := by decide +kernel
theorem dX12_undo_21 : decode cX12_undo 21 = .ok (.putfield 324, 3) := by decide +kernel
theorem dX12_undo_24 : decode cX12_undo 24 = .ok (.aload_n 0, 1) := by decide +kernel
theorem dX12_undo_25 : decode cX12_undo 25 = .ok (.aload_n 0, 1) := by decide +kernel
theorem dX12_undo_26 : decode cX12_undo 26 = .ok (.getfield 78, 3) := by decide +kernel
theorem dX12_undo_29 : decode cX12_undo 29 = .ok (.bipush 18, 2) := by decide +kernel
theorem dX12_undo_31 : decode cX12_undo 31 = .ok (.aload_n 0, 1) := by decide +kernel
theorem dX12_undo_32 : decode cX12_undo 32 = .ok (.getfield 324, 3) := by decide +kernel
theorem dX12_undo_35 : decode cX12_undo 35 = .ok (.imul, 1) := by decide +kernel
theorem dX12_undo_36 : decode cX12_undo 36 = .ok (.invokevirtual 439, 3) := by decide +kernel
theorem dX12_undo_39 : decode cX12_undo 39 = .ok (.aload_n 0, 1) := by decide +kernel
theorem dX12_undo_40 : decode cX12_undo 40 = .ok (.getfield 324, 3) := by decide +kernel
theorem dX12_undo_43 : decode cX12_undo 43 = .ok (.ireturn, 1) := by decide +kernel
theorem dX12_worst_0 : decode cX12_worst 0 = .ok (.iconst (-1), 1) := by decide +kernel
theorem dX12_worst_1 : decode cX12_worst 1 = .ok (.istore_n 1, 1) := by decide +kernel
theorem dX12_worst_2 : decode cX12_worst 2 = .ok (.iconst 0, 1) := by decide +kernel
theorem dX12_worst_3 : decode cX12_worst 3 = .ok (.istore_n 2, 1) := by decide +kernel
theorem dX12_worst_4 : decode cX12_worst 4 = .ok (.iload_n 2, 1) := by decide +kernel
theorem dX12_worst_5 : decode cX12_worst 5 = .ok (.aload_n 0, 1) := by decide +kernel
theorem dX12_worst_6 : decode cX12_worst 6 = .ok (.getfield 38, 3) := by decide +kernel
theorem dX12_worst_9 : decode cX12_worst 9 = .ok (.iconst 0, 1) := by decide +kernel
theorem dX12_worst_10 : decode cX12_worst 10 = .ok (.iaload, 1) := by decide +kernel
theorem dX12_worst_11 : decode cX12_worst 11 = .ok (.if_icmp .ge 31, 3) := by decide +kernel
theorem dX12_worst_14 : decode cX12_worst 14 = .ok (.iload_n 1, 1) := by decide +kernel
theorem dX12_worst_15 : decode cX12_worst 15 = .ok (.iconst (-1), 1) := by decide +kernel
theorem dX12_worst_16 : decode cX12_worst 16 = .ok (.if_icmp .eq 18, 3) := by decide +kernel
theorem dX12_worst_19 : decode cX12_worst 19 = .ok (.aload_n 0, 1) := by decide +kernel
theorem dX12_worst_20 : decode cX12_worst 20 = .ok (.getfield 105, 3) := by decide +kernel
theorem dX12_worst_23 : decode cX12_worst 23 = .ok (.iload_n 2, 1) := by decide +kernel
theorem dX12_worst_24 : decode cX12_worst 24 = .ok (.iaload, 1) := by decide +kernel
theorem dX12_worst_25 : decode cX12_worst 25 = .ok (.aload_n 0, 1) := by decide +kernel
theorem dX12_worst_26 : decode cX12_worst 26 = .ok (.getfield 105, 3) := by decide +kernel
theorem dX12_worst_29 : decode cX12_worst 29 = .ok (.iload_n 1, 1) := by decide +kernel
theorem dX12_worst_30 : decode cX12_worst 30 = .ok (.iaload, 1) := by decide +kernel
theorem dX12_worst_31 : decode cX12_worst 31 = .ok (.if_icmp .le 5, 3) := by decide +kernel
theorem dX12_worst_34 : decode cX12_worst 34 = .ok (.iload_n 2, 1) := by decide +kernel
theorem dX12_worst_35 : decode cX12_worst 35 = .ok (.istore_n 1, 1) := by decide +kernel
theorem dX12_worst_36 : decode cX12_worst 36 = .ok (.iinc 2 1, 3) := by decide +kernel
theorem dX12_worst_39 : decode cX12_worst 39 = .ok (.goto (-35), 3) := by decide +kernel
theorem dX12_worst_42 : decode cX12_worst 42 = .ok (.iload_n 1, 1) := by decide +kernel
theorem dX12_worst_43 : decode cX12_worst 43 = .ok (.ireturn, 1) := by decide +kernel
theorem dX12_night_0 : decode cX12_night 0 = .ok (.aload_n 0, 1) := by decide +kernel
theorem dX12_night_1 : decode cX12_night 1 = .ok (.iconst 0, 1) := by decide +kernel
theorem dX12_night_2 : decode cX12_night 2 = .ok (.putfield 159, 3) := by decide +kernel
theorem dX12_night_5 : decode cX12_night 5 = .ok (.iload_n 1, 1) := by decide +kernel
theorem dX12_night_6 : decode cX12_night 6 = .ok (.i2l, 1) := by decide +kernel
theorem dX12_night_7 : decode cX12_night 7 = .ok (.lconst 0, 1) := by decide +kernel
theorem dX12_night_8 : decode cX12_night 8 = .ok (.ldc2_w 442, 3) := by decide +kernel
theorem dX12_night_11 : decode cX12_night 11 = .ok (.invokestatic 162, 3) := by decide +kernel
theorem dX12_night_14 : decode cX12_night 14 = .ok (.ifCond .ne 9, 3) := by decide +kernel
theorem dX12_night_17 : decode cX12_night 17 = .ok (.aload_n 0, 1) := by decide +kernel
theorem dX12_night_18 : decode cX12_night 18 = .ok (.iconst 1, 1) := by decide +kernel
theorem dX12_night_19 : decode cX12_night 19 = .ok (.invokevirtual 302, 3) := by decide +kernel
theorem dX12_night_22 : decode cX12_night 22 = .ok (.ireturn, 1) := by decide +kernel
theorem dX12_night_23 : decode cX12_night 23 = .ok (.aload_n 0, 1) := by decide +kernel
theorem dX12_night_24 : decode cX12_night 24 = .ok (.invokevirtual 444, 3) := by decide +kernel
theorem dX12_night_27 : decode cX12_night 27 = .ok (.iload_n 1, 1) := by decide +kernel
theorem dX12_night_28 : decode cX12_night 28 = .ok (.ifCond .ne 10, 3) := by decide +kernel
theorem dX12_night_31 : decode cX12_night 31 = .ok (.aload_n 0, 1) := by decide +kernel
theorem dX12_night_32 : decode cX12_night 32 = .ok (.getfield 365, 3) := by decide +kernel
theorem dX12_night_35 : decode cX12_night 35 = .ok (.goto 31, 3) := by decide +kernel
theorem dX12_night_38 : decode cX12_night 38 = .ok (.iload_n 1, 1) := by decide +kernel
theorem dX12_night_39 : decode cX12_night 39 = .ok (.iconst 1, 1) := by decide +kernel
theorem dX12_night_40 : decode cX12_night 40 = .ok (.if_icmp .ne 10, 3) := by decide +kernel
theorem dX12_night_43 : decode cX12_night 43 = .ok (.aload_n 0, 1) := by decide +kernel
theorem dX12_night_44 : decode cX12_night 44 = .ok (.invokevirtual 447, 3) := by decide +kernel
theorem dX12_night_47 : decode cX12_night 47 = .ok (.goto 19, 3) := by decide +kernel
theorem dX12_night_50 : decode cX12_night 50 = .ok (.iload_n 1, 1) := by decide +kernel
theorem dX12_night_51 : decode cX12_night 51 = .ok (.iconst 2, 1) := by decide +kernel
theorem dX12_night_52 : decode cX12_night 52 = .ok (.if_icmp .ne 10, 3) := by decide +kernel
theorem dX12_night_55 : decode cX12_night 55 = .ok (.aload_n 0, 1) := by decide +kernel
theorem dX12_night_56 : decode cX12_night 56 = .ok (.getfield 385, 3) := by decide +kernel
theorem dX12_night_59 : decode cX12_night 59 = .ok (.goto 7, 3) := by decide +kernel
theorem dX12_night_62 : decode cX12_night 62 = .ok (.aload_n 0, 1) := by decide +kernel
theorem dX12_night_63 : decode cX12_night 63 = .ok (.invokevirtual 450, 3) := by decide +kernel
theorem dX12_night_66 : decode cX12_night 66 = .ok (.ireturn, 1) := by decide +kernel
theorem dX12_woken_0 : decode cX12_woken 0 = .ok (.aload_n 0, 1) := by decide +kernel
theorem dX12_woken_1 : decode cX12_woken 1 = .ok (.iconst 0, 1) := by decide +kernel
theorem dX12_woken_2 : decode cX12_woken 2 = .ok (.putfield 159, 3) := by decide +kernel
theorem dX12_woken_5 : decode cX12_woken 5 = .ok (.aload_n 0, 1) := by decide +kernel
theorem dX12_woken_6 : decode cX12_woken 6 = .ok (.iload_n 1, 1) := by decide +kernel
theorem dX12_woken_7 : decode cX12_woken 7 = .ok (.invokevirtual 420, 3) := by decide +kernel
theorem dX12_woken_10 : decode cX12_woken 10 = .ok (.ifCond .eq 12, 3) := by decide +kernel
theorem dX12_woken_13 : decode cX12_woken 13 = .ok (.iload_n 2, 1) := by decide +kernel
theorem dX12_woken_14 : decode cX12_woken 14 = .ok (.ifCond .lt 8, 3) := by decide +kernel
theorem dX12_woken_17 : decode cX12_woken 17 = .ok (.iload_n 2, 1) := by decide +kernel
theorem dX12_woken_18 : decode cX12_woken 18 = .ok (.iconst 1, 1) := by decide +kernel
theorem dX12_woken_19 : decode cX12_woken 19 = .ok (.if_icmp .le 9, 3) := by decide +kernel
theorem dX12_woken_22 : decode cX12_woken 22 = .ok (.aload_n 0, 1) := by decide +kernel
theorem dX12_woken_23 : decode cX12_woken 23 = .ok (.iconst 1, 1) := by decide +kernel
theorem dX12_woken_24 : decode cX12_woken 24 = .ok (.invokevirtual 302, 3) := by decide +kernel
theorem dX12_woken_27 : decode cX12_woken 27 = .ok (.ireturn, 1) := by decide +kernel
theorem dX12_woken_28 : decode cX12_woken 28 = .ok (.aload_n 0, 1) := by decide +kernel
theorem dX12_woken_29 : decode cX12_woken 29 = .ok (.invokevirtual 444, 3) := by decide +kernel
theorem dX12_woken_32 : decode cX12_woken 32 = .ok (.iload_n 2, 1) := by decide +kernel
theorem dX12_woken_33 : decode cX12_woken 33 = .ok (.ifCond .ne 12, 3) := by decide +kernel
theorem dX12_woken_36 : decode cX12_woken 36 = .ok (.aload_n 0, 1) := by decide +kernel
theorem dX12_woken_37 : decode cX12_woken 37 = .ok (.getfield 105, 3) := by decide +kernel
theorem dX12_woken_40 : decode cX12_woken 40 = .ok (.iload_n 1, 1) := by decide +kernel
theorem dX12_woken_41 : decode cX12_woken 41 = .ok (.iaload, 1) := by decide +kernel
theorem dX12_woken_42 : decode cX12_woken 42 = .ok (.goto 9, 3) := by decide +kernel
theorem dX12_woken_45 : decode cX12_woken 45 = .ok (.aload_n 0, 1) := by decide +kernel
theorem dX12_woken_46 : decode cX12_woken 46 = .ok (.getfield 108, 3) := by decide +kernel
theorem dX12_woken_49 : decode cX12_woken 49 = .ok (.iload_n 1, 1) := by decide +kernel
theorem dX12_woken_50 : decode cX12_woken 50 = .ok (.iaload, 1) := by decide +kernel
theorem dX12_woken_51 : decode cX12_woken 51 = .ok (.ireturn, 1) := by decide +kernel
theorem dX12_lies_0 : decode cX12_lies 0 = .ok (.aload_n 0, 1) := by decide +kernel
theorem dX12_lies_1 : decode cX12_lies 1 = .ok (.iconst 0, 1) := by decide +kernel
theorem dX12_lies_2 : decode cX12_lies 2 = .ok (.putfield 159, 3) := by decide +kernel
theorem dX12_lies_5 : decode cX12_lies 5 = .ok (.aload_n 0, 1) := by decide +kernel
theorem dX12_lies_6 : decode cX12_lies 6 = .ok (.iload_n 1, 1) := by decide +kernel
theorem dX12_lies_7 : decode cX12_lies 7 = .ok (.invokevirtual 420, 3) := by decide +kernel
theorem dX12_lies_10 : decode cX12_lies 10 = .ok (.ifCond .eq 12, 3) := by decide +kernel
theorem dX12_lies_13 : decode cX12_lies 13 = .ok (.iload_n 3, 1) := by decide +kernel
theorem dX12_lies_14 : decode cX12_lies 14 = .ok (.ifCond .lt 8, 3) := by decide +kernel
theorem dX12_lies_17 : decode cX12_lies 17 = .ok (.iload_n 3, 1) := by decide +kernel
theorem dX12_lies_18 : decode cX12_lies 18 = .ok (.iconst 1, 1) := by decide +kernel
theorem dX12_lies_19 : decode cX12_lies 19 = .ok (.if_icmp .le 9, 3) := by decide +kernel
theorem dX12_lies_22 : decode cX12_lies 22 = .ok (.aload_n 0, 1) := by decide +kernel
theorem dX12_lies_23 : decode cX12_lies 23 = .ok (.iconst 1, 1) := by decide +kernel
theorem dX12_lies_24 : decode cX12_lies 24 = .ok (.invokevirtual 302, 3) := by decide +kernel
theorem dX12_lies_27 : decode cX12_lies 27 = .ok (.ireturn, 1) := by decide +kernel
theorem dX12_lies_28 : decode cX12_lies 28 = .ok (.iload_n 2, 1) := by decide +kernel
theorem dX12_lies_29 : decode cX12_lies 29 = .ok (.i2l, 1) := by decide +kernel
theorem dX12_lies_30 : decode cX12_lies 30 = .ok (.lconst 0, 1) := by decide +kernel
theorem dX12_lies_31 : decode cX12_lies 31 = .ok (.aload_n 0, 1) := by decide +kernel
theorem dX12_lies_32 : decode cX12_lies 32 = .ok (.getfield 38, 3) := by decide +kernel
theorem dX12_lies_35 : decode cX12_lies 35 = .ok (.iconst 3, 1) := by decide +kernel
theorem dX12_lies_36 : decode cX12_lies 36 = .ok (.iaload, 1) := by decide +kernel
theorem dX12_lies_37 : decode cX12_lies 37 = .ok (.i2l, 1) := by decide +kernel
theorem dX12_lies_38 : decode cX12_lies 38 = .ok (.invokestatic 162, 3) := by decide +kernel
