theorem dX6_init_0 : decode cX6_init 0 = .ok (.aload_n 0, 1) := by decide +kernel
theorem dX6_init_1 : decode cX6_init 1 = .ok (.invokespecial 3, 3) := by decide +kernel
theorem dX6_init_4 : decode cX6_init 4 = .ok (.aload_n 0, 1) := by decide +kernel
theorem dX6_init_5 : decode cX6_init 5 = .ok (.bipush 60, 2) := by decide +kernel
theorem dX6_init_7 : decode cX6_init 7 = .ok (.newarray .byte, 2) := by decide +kernel
theorem dX6_init_9 : decode cX6_init 9 = .ok (.putfield 9, 3) := by decide +kernel
theorem dX6_init_12 : decode cX6_init 12 = .ok (.return_, 1) := by decide +kernel
theorem dX9_init_0 : decode cX9_init 0 = .ok (.aload_n 0, 1) := by decide +kernel
theorem dX9_init_1 : decode cX9_init 1 = .ok (.invokespecial 3, 3) := by decide +kernel
theorem dX9_init_4 : decode cX9_init 4 = .ok (.aload_n 0, 1) := by decide +kernel
theorem dX9_init_5 : decode cX9_init 5 = .ok (.bipush 61, 2) := by decide +kernel
theorem dX9_init_7 : decode cX9_init 7 = .ok (.newarray .long, 2) := by decide +kernel
theorem dX9_init_9 : decode cX9_init 9 = .ok (.putfield 11, 3) := by decide +kernel
theorem dX9_init_12 : decode cX9_init 12 = .ok (.aload_n 0, 1) := by decide +kernel
theorem dX9_init_13 : decode cX9_init 13 = .ok (.sipush 3721, 3) := by decide +kernel
theorem dX9_init_16 : decode cX9_init 16 = .ok (.newarray .int, 2) := by decide +kernel
theorem dX9_init_18 : decode cX9_init 18 = .ok (.putfield 15, 3) := by decide +kernel
theorem dX9_init_21 : decode cX9_init 21 = .ok (.aload_n 0, 1) := by decide +kernel
theorem dX9_init_22 : decode cX9_init 22 = .ok (.sipush 1200, 3) := by decide +kernel
theorem dX9_init_25 : decode cX9_init 25 = .ok (.newarray .long, 2) := by decide +kernel
theorem dX9_init_27 : decode cX9_init 27 = .ok (.putfield 19, 3) := by decide +kernel
theorem dX9_init_30 : decode cX9_init 30 = .ok (.return_, 1) := by decide +kernel
theorem dX3_init_0 : decode cX3_init 0 = .ok (.aload_n 0, 1) := by decide +kernel
theorem dX3_init_1 : decode cX3_init 1 = .ok (.invokespecial 3, 3) := by decide +kernel
theorem dX3_init_4 : decode cX3_init 4 = .ok (.aload_n 0, 1) := by decide +kernel
theorem dX3_init_5 : decode cX3_init 5 = .ok (.bipush 60, 2) := by decide +kernel
theorem dX3_init_7 : decode cX3_init 7 = .ok (.newarray .int, 2) := by decide +kernel
theorem dX3_init_9 : decode cX3_init 9 = .ok (.putfield 9, 3) := by decide +kernel
theorem dX3_init_12 : decode cX3_init 12 = .ok (.aload_n 0, 1) := by decide +kernel
theorem dX3_init_13 : decode cX3_init 13 = .ok (.bipush 60, 2) := by decide +kernel
theorem dX3_init_15 : decode cX3_init 15 = .ok (.newarray .int, 2) := by decide +kernel
theorem dX3_init_17 : decode cX3_init 17 = .ok (.putfield 15, 3) := by decide +kernel
theorem dX3_init_20 : decode cX3_init 20 = .ok (.aload_n 0, 1) := by decide +kernel
theorem dX3_init_21 : decode cX3_init 21 = .ok (.bipush 60, 2) := by decide +kernel
theorem dX3_init_23 : decode cX3_init 23 = .ok (.newarray .int, 2) := by decide +kernel
theorem dX3_init_25 : decode cX3_init 25 = .ok (.putfield 18, 3) := by decide +kernel
theorem dX3_init_28 : decode cX3_init 28 = .ok (.aload_n 0, 1) := by decide +kernel
theorem dX3_init_29 : decode cX3_init 29 = .ok (.bipush 60, 2) := by decide +kernel
theorem dX3_init_31 : decode cX3_init 31 = .ok (.newarray .int, 2) := by decide +kernel
theorem dX3_init_33 : decode cX3_init 33 = .ok (.putfield 21, 3) := by decide +kernel
theorem dX3_init_36 : decode cX3_init 36 = .ok (.aload_n 0, 1) := by decide +kernel
theorem dX3_init_37 : decode cX3_init 37 = .ok (.bipush 60, 2) := by decide +kernel
theorem dX3_init_39 : decode cX3_init 39 = .ok (.newarray .int, 2) := by decide +kernel
theorem dX3_init_41 : decode cX3_init 41 = .ok (.putfield 24, 3) := by decide +kernel
theorem dX3_init_44 : decode cX3_init 44 = .ok (.return_, 1) := by decide +kernel
theorem dX10_init_0 : decode cX10_init 0 = .ok (.aload_n 0, 1) := by decide +kernel
theorem dX10_init_1 : decode cX10_init 1 = .ok (.invokespecial 3, 3) := by decide +kernel
theorem dX10_init_4 : decode cX10_init 4 = .ok (.aload_n 0, 1) := by decide +kernel
theorem dX10_init_5 : decode cX10_init 5 = .ok (.bipush 60, 2) := by decide +kernel
theorem dX10_init_7 : decode cX10_init 7 = .ok (.newarray .byte, 2) := by decide +kernel
theorem dX10_init_9 : decode cX10_init 9 = .ok (.putfield 9, 3) := by decide +kernel
theorem dX10_init_12 : decode cX10_init 12 = .ok (.aload_n 0, 1) := by decide +kernel
theorem dX10_init_13 : decode cX10_init 13 = .ok (.iconst 0, 1) := by decide +kernel
theorem dX10_init_14 : decode cX10_init 14 = .ok (.anewarray 15, 3) := by decide +kernel
theorem dX10_init_17 : decode cX10_init 17 = .ok (.putfield 17, 3) := by decide +kernel
theorem dX10_init_20 : decode cX10_init 20 = .ok (.aload_n 0, 1) := by decide +kernel
theorem dX10_init_21 : decode cX10_init 21 = .ok (.iconst 0, 1) := by decide +kernel
theorem dX10_init_22 : decode cX10_init 22 = .ok (.newarray .int, 2) := by decide +kernel
theorem dX10_init_24 : decode cX10_init 24 = .ok (.putfield 21, 3) := by decide +kernel
theorem dX10_init_27 : decode cX10_init 27 = .ok (.aload_n 0, 1) := by decide +kernel
theorem dX10_init_28 : decode cX10_init 28 = .ok (.iconst 0, 1) := by decide +kernel
theorem dX10_init_29 : decode cX10_init 29 = .ok (.newarray .int, 2) := by decide +kernel
theorem dX10_init_31 : decode cX10_init 31 = .ok (.putfield 25, 3) := by decide +kernel
theorem dX10_init_34 : decode cX10_init 34 = .ok (.aload_n 0, 1) := by decide +kernel
theorem dX10_init_35 : decode cX10_init 35 = .ok (.iconst 0, 1) := by decide +kernel
theorem dX10_init_36 : decode cX10_init 36 = .ok (.newarray .long, 2) := by decide +kernel
theorem dX10_init_38 : decode cX10_init 38 = .ok (.putfield 28, 3) := by decide +kernel
theorem dX10_init_41 : decode cX10_init 41 = .ok (.aload_n 0, 1) := by decide +kernel
theorem dX10_init_42 : decode cX10_init 42 = .ok (.iconst 0, 1) := by decide +kernel
theorem dX10_init_43 : decode cX10_init 43 = .ok (.newarray .int, 2) := by decide +kernel
theorem dX10_init_45 : decode cX10_init 45 = .ok (.putfield 32, 3) := by decide +kernel
theorem dX10_init_48 : decode cX10_init 48 = .ok (.aload_n 0, 1) := by decide +kernel
theorem dX10_init_49 : decode cX10_init 49 = .ok (.iconst 0, 1) := by decide +kernel
theorem dX10_init_50 : decode cX10_init 50 = .ok (.newarray .int, 2) := by decide +kernel
theorem dX10_init_52 : decode cX10_init 52 = .ok (.putfield 35, 3) := by decide +kernel
theorem dX10_init_55 : decode cX10_init 55 = .ok (.aload_n 0, 1) := by decide +kernel
theorem dX10_init_56 : decode cX10_init 56 = .ok (.iconst 0, 1) := by decide +kernel
theorem dX10_init_57 : decode cX10_init 57 = .ok (.newarray .int, 2) := by decide +kernel
theorem dX10_init_59 : decode cX10_init 59 = .ok (.putfield 38, 3) := by decide +kernel
theorem dX10_init_62 : decode cX10_init 62 = .ok (.aload_n 0, 1) := by decide +kernel
theorem dX10_init_63 : decode cX10_init 63 = .ok (.iconst 0, 1) := by decide +kernel
theorem dX10_init_64 : decode cX10_init 64 = .ok (.newarray .int, 2) := by decide +kernel
theorem dX10_init_66 : decode cX10_init 66 = .ok (.putfield 41, 3) := by decide +kernel
theorem dX10_init_69 : decode cX10_init 69 = .ok (.aload_n 0, 1) := by decide +kernel
theorem dX10_init_70 : decode cX10_init 70 = .ok (.iconst 0, 1) := by decide +kernel
theorem dX10_init_71 : decode cX10_init 71 = .ok (.newarray .int, 2) := by decide +kernel
theorem dX10_init_73 : decode cX10_init 73 = .ok (.putfield 44, 3) := by decide +kernel
theorem dX10_init_76 : decode cX10_init 76 = .ok (.aload_n 0, 1) := by decide +kernel
theorem dX10_init_77 : decode cX10_init 77 = .ok (.iconst 0, 1) := by decide +kernel
theorem dX10_init_78 : decode cX10_init 78 = .ok (.newarray .long, 2) := by decide +kernel
theorem dX10_init_80 : decode cX10_init 80 = .ok (.putfield 47, 3) := by decide +kernel
theorem dX10_init_83 : decode cX10_init 83 = .ok (.return_, 1) := by decide +kernel
theorem dX5_init_0 : decode cX5_init 0 = .ok (.aload_n 0, 1) := by decide +kernel
theorem dX5_init_1 : decode cX5_init 1 = .ok (.invokespecial 5, 3) := by decide +kernel
theorem dX5_init_4 : decode cX5_init 4 = .ok (.aload_n 0, 1) := by decide +kernel
theorem dX5_init_5 : decode cX5_init 5 = .ok (.bipush 60, 2) := by decide +kernel
theorem dX5_init_7 : decode cX5_init 7 = .ok (.newarray .byte, 2) := by decide +kernel
theorem dX5_init_9 : decode cX5_init 9 = .ok (.putfield 11, 3) := by decide +kernel
theorem dX5_init_12 : decode cX5_init 12 = .ok (.aload_n 0, 1) := by decide +kernel
theorem dX5_init_13 : decode cX5_init 13 = .ok (.bipush 14, 2) := by decide +kernel
theorem dX5_init_15 : decode cX5_init 15 = .ok (.newarray .long, 2) := by decide +kernel
theorem dX5_init_17 : decode cX5_init 17 = .ok (.putfield 15, 3) := by decide +kernel
theorem dX5_init_20 : decode cX5_init 20 = .ok (.aload_n 0, 1) := by decide +kernel
theorem dX5_init_21 : decode cX5_init 21 = .ok (.iconst 0, 1) := by decide +kernel
theorem dX5_init_22 : decode cX5_init 22 = .ok (.newarray .long, 2) := by decide +kernel
theorem dX5_init_24 : decode cX5_init 24 = .ok (.putfield 19, 3) := by decide +kernel
theorem dX5_init_27 : decode cX5_init 27 = .ok (.return_, 1) := by decide +kernel
theorem dX2_init_0 : decode cX2_init 0 = .ok (.aload_n 0, 1) := by decide +kernel
theorem dX2_init_1 : decode cX2_init 1 = .ok (.invokespecial 3, 3) := by decide +kernel
theorem dX2_init_4 : decode cX2_init 4 = .ok (.aload_n 0, 1) := by decide +kernel
theorem dX2_init_5 : decode cX2_init 5 = .ok (.sipush 960, 3) := by decide +kernel
theorem dX2_init_8 : decode cX2_init 8 = .ok (.newarray .byte, 2) := by decide +kernel
theorem dX2_init_10 : decode cX2_init 10 = .ok (.putfield 9, 3) := by decide +kernel
theorem dX2_init_13 : decode cX2_init 13 = .ok (.aload_n 0, 1) := by decide +kernel
theorem dX2_init_14 : decode cX2_init 14 = .ok (.sipush 256, 3) := by decide +kernel
theorem dX2_init_17 : decode cX2_init 17 = .ok (.anewarray 15, 3) := by decide +kernel
theorem dX2_init_20 : decode cX2_init 20 = .ok (.putfield 17, 3) := by decide +kernel
theorem dX2_init_23 : decode cX2_init 23 = .ok (.aload_n 0, 1) := by decide +kernel
theorem dX2_init_24 : decode cX2_init 24 = .ok (.sipush 1024, 3) := by decide +kernel
theorem dX2_init_27 : decode cX2_init 27 = .ok (.newarray .int, 2) := by decide +kernel
theorem dX2_init_29 : decode cX2_init 29 = .ok (.putfield 21, 3) := by decide +kernel
theorem dX2_init_32 : decode cX2_init 32 = .ok (.aload_n 0, 1) := by decide +kernel
theorem dX2_init_33 : decode cX2_init 33 = .ok (.bipush 64, 2) := by decide +kernel
theorem dX2_init_35 : decode cX2_init 35 = .ok (.newarray .int, 2) := by decide +kernel
theorem dX2_init_37 : decode cX2_init 37 = .ok (.putfield 25, 3) := by decide +kernel
theorem dX2_init_40 : decode cX2_init 40 = .ok (.aload_n 0, 1) := by decide +kernel
theorem dX2_init_41 : decode cX2_init 41 = .ok (.new 28, 3) := by decide +kernel
theorem dX2_init_44 : decode cX2_init 44 = .ok (.dup, 1) := by decide +kernel
theorem dX2_init_45 : decode cX2_init 45 = .ok (.invokespecial 30, 3) := by decide +kernel
theorem dX2_init_48 : decode cX2_init 48 = .ok (.putfield 31, 3) := by decide +kernel
theorem dX2_init_51 : decode cX2_init 51 = .ok (.aload_n 0, 1) := by decide +kernel
theorem dX2_init_52 : decode cX2_init 52 = .ok (.new 35, 3) := by decide +kernel
theorem dX2_init_55 : decode cX2_init 55 = .ok (.dup, 1) := by decide +kernel
theorem dX2_init_56 : decode cX2_init 56 = .ok (.invokespecial 37, 3) := by decide +kernel
theorem dX2_init_59 : decode cX2_init 59 = .ok (.putfield 38, 3) := by decide +kernel
theorem dX2_init_62 : decode cX2_init 62 = .ok (.aload_n 0, 1) := by decide +kernel
theorem dX2_init_63 : decode cX2_init 63 = .ok (.bipush 120, 2) := by decide +kernel
theorem dX2_init_65 : decode cX2_init 65 = .ok (.newarray .int, 2) := by decide +kernel
theorem dX2_init_67 : decode cX2_init 67 = .ok (.putfield 42, 3) := by decide +kernel
theorem dX2_init_70 : decode cX2_init 70 = .ok (.aload_n 0, 1) := by decide +kernel
theorem dX2_init_71 : decode cX2_init 71 = .ok (.bipush 120, 2) := by decide +kernel
theorem dX2_init_73 : decode cX2_init 73 = .ok (.newarray .int, 2) := by decide +kernel
theorem dX2_init_75 : decode cX2_init 75 = .ok (.putfield 45, 3) := by decide +kernel
theorem dX2_init_78 : decode cX2_init 78 = .ok (.aload_n 0, 1) := by decide +kernel
theorem dX2_init_79 : decode cX2_init 79 = .ok (.bipush 120, 2) := by decide +kernel
theorem dX2_init_81 : decode cX2_init 81 = .ok (.newarray .int, 2) := by decide +kernel
theorem dX2_init_83 : decode cX2_init 83 = .ok (.putfield 48, 3) := by decide +kernel
theorem dX2_init_86 : decode cX2_init 86 = .ok (.aload_n 0, 1) := by decide +kernel
theorem dX2_init_87 : decode cX2_init 87 = .ok (.bipush 120, 2) := by decide +kernel
theorem dX2_init_89 : decode cX2_init 89 = .ok (.newarray .int, 2) := by decide +kernel
theorem dX2_init_91 : decode cX2_init 91 = .ok (.putfield 51, 3) := by decide +kernel
theorem dX2_init_94 : decode cX2_init 94 = .ok (.aload_n 0, 1) := by decide +kernel
theorem dX2_init_95 : decode cX2_init 95 = .ok (.new 54, 3) := by decide +kernel
theorem dX2_init_98 : decode cX2_init 98 = .ok (.dup, 1) := by decide +kernel
theorem dX2_init_99 : decode cX2_init 99 = .ok (.invokespecial 56, 3) := by decide +kernel
theorem dX2_init_102 : decode cX2_init 102 = .ok (.putfield 57, 3) := by decide +kernel
theorem dX2_init_105 : decode cX2_init 105 = .ok (.aload_n 0, 1) := by decide +kernel
theorem dX2_init_106 : decode cX2_init 106 = .ok (.new 54, 3) := by decide +kernel
theorem dX2_init_109 : decode cX2_init 109 = .ok (.dup, 1) := by decide +kernel
theorem dX2_init_110 : decode cX2_init 110 = .ok (.invokespecial 56, 3) := by decide +kernel
theorem dX2_init_113 : decode cX2_init 113 = .ok (.putfield 61, 3) := by decide +kernel
theorem dX2_init_116 : decode cX2_init 116 = .ok (.return_, 1) := by decide +kernel
theorem dX8_init_0 : decode cX8_init 0 = .ok (.aload_n 0, 1) := by decide +kernel
theorem dX8_init_1 : decode cX8_init 1 = .ok (.invokespecial 3, 3) := by decide +kernel
theorem dX8_init_4 : decode cX8_init 4 = .ok (.aload_n 0, 1) := by decide +kernel
theorem dX8_init_5 : decode cX8_init 5 = .ok (.iconst 5, 1) := by decide +kernel
theorem dX8_init_6 : decode cX8_init 6 = .ok (.anewarray 9, 3) := by decide +kernel
theorem dX8_init_9 : decode cX8_init 9 = .ok (.putfield 11, 3) := by decide +kernel
theorem dX8_init_12 : decode cX8_init 12 = .ok (.aload_n 0, 1) := by decide +kernel
theorem dX8_init_13 : decode cX8_init 13 = .ok (.iconst 5, 1) := by decide +kernel
theorem dX8_init_14 : decode cX8_init 14 = .ok (.anewarray 9, 3) := by decide +kernel
theorem dX8_init_17 : decode cX8_init 17 = .ok (.putfield 17, 3) := by decide +kernel
theorem dX8_init_20 : decode cX8_init 20 = .ok (.aload_n 0, 1) := by decide +kernel
theorem dX8_init_21 : decode cX8_init 21 = .ok (.iconst 5, 1) := by decide +kernel
theorem dX8_init_22 : decode cX8_init 22 = .ok (.anewarray 9, 3) := by decide +kernel
theorem dX8_init_25 : decode cX8_init 25 = .ok (.putfield 20, 3) := by decide +kernel
theorem dX8_init_28 : decode cX8_init 28 = .ok (.aload_n 0, 1) := by decide +kernel
theorem dX8_init_29 : decode cX8_init 29 = .ok (.iconst 5, 1) := by decide +kernel
theorem dX8_init_30 : decode cX8_init 30 = .ok (.newarray .boolean, 2) := by decide +kernel
theorem dX8_init_32 : decode cX8_init 32 = .ok (.putfield 23, 3) := by decide +kernel
theorem dX8_init_35 : decode cX8_init 35 = .ok (.aload_n 0, 1) := by decide +kernel
theorem dX8_init_36 : decode cX8_init 36 = .ok (.new 9, 3) := by decide +kernel
theorem dX8_init_39 : decode cX8_init 39 = .ok (.dup, 1) := by decide +kernel
theorem dX8_init_40 : decode cX8_init 40 = .ok (.invokespecial 27, 3) := by decide +kernel
theorem dX8_init_43 : decode cX8_init 43 = .ok (.putfield 28, 3) := by decide +kernel
theorem dX8_init_46 : decode cX8_init 46 = .ok (.iconst 0, 1) := by decide +kernel
theorem dX8_init_47 : decode cX8_init 47 = .ok (.istore_n 1, 1) := by decide +kernel
theorem dX8_init_48 : decode cX8_init 48 = .ok (.iload_n 1, 1) := by decide +kernel
theorem dX8_init_49 : decode cX8_init 49 = .ok (.iconst 5, 1) := by decide +kernel
theorem dX8_init_50 : decode cX8_init 50 = .ok (.if_icmp .ge 48, 3) := by decide +kernel
theorem dX8_init_53 : decode cX8_init 53 = .ok (.aload_n 0, 1) := by decide +kernel
theorem dX8_init_54 : decode cX8_init 54 = .ok (.getfield 11, 3) := by decide +kernel
theorem dX8_init_57 : decode cX8_init 57 = .ok (.iload_n 1, 1) := by decide +kernel
theorem dX8_init_58 : decode cX8_init 58 = .ok (.new 9, 3) := by decide +kernel
theorem dX8_init_61 : decode cX8_init 61 = .ok (.dup, 1) := by decide +kernel
theorem dX8_init_62 : decode cX8_init 62 = .ok (.invokespecial 27, 3) := by decide +kernel
theorem dX8_init_65 : decode cX8_init 65 = .ok (.aastore, 1) := by decide +kernel
theorem dX8_init_66 : decode cX8_init 66 = .ok (.aload_n 0, 1) := by decide +kernel
theorem dX8_init_67 : decode cX8_init 67 = .ok (.getfield 17, 3) := by decide +kernel
theorem dX8_init_70 : decode cX8_init 70 = .ok (.iload_n 1, 1) := by decide +kernel
theorem dX8_init_71 : decode cX8_init 71 = .ok (.new 9, 3) := by decide +kernel
theorem dX8_init_74 : decode cX8_init 74 = .ok (.dup, 1) := by decide +kernel
theorem dX8_init_75 : decode cX8_init 75 = .ok (.invokespecial 27, 3) := by decide +kernel
theorem dX8_init_78 : decode cX8_init 78 = .ok (.aastore, 1) := by decide +kernel
theorem dX8_init_79 : decode cX8_init 79 = .ok (.aload_n 0, 1) := by decide +kernel
theorem dX8_init_80 : decode cX8_init 80 = .ok (.getfield 20, 3) := by decide +kernel
theorem dX8_init_83 : decode cX8_init 83 = .ok (.iload_n 1, 1) := by decide +kernel
theorem dX8_init_84 : decode cX8_init 84 = .ok (.new 9, 3) := by decide +kernel
theorem dX8_init_87 : decode cX8_init 87 = .ok (.dup, 1) := by decide +kernel
theorem dX8_init_88 : decode cX8_init 88 = .ok (.invokespecial 27, 3) := by decide +kernel
theorem dX8_init_91 : decode cX8_init 91 = .ok (.aastore, 1) := by decide +kernel
theorem dX8_init_92 : decode cX8_init 92 = .ok (.iinc 1 1, 3) := by decide +kernel
theorem dX8_init_95 : decode cX8_init 95 = .ok (.goto (-47), 3) := by decide +kernel
theorem dX8_init_98 : decode cX8_init 98 = .ok (.return_, 1) := by decide +kernel
theorem dX4_init_0 : decode cX4_init 0 = .ok (.aload_n 0, 1) := by decide +kernel
theorem dX4_init_1 : decode cX4_init 1 = .ok (.invokespecial 3, 3) := by decide +kernel
theorem dX4_init_4 : decode cX4_init 4 = .ok (.aload_n 0, 1) := by decide +kernel
theorem dX4_init_5 : decode cX4_init 5 = .ok (.bipush 8, 2) := by decide +kernel
theorem dX4_init_7 : decode cX4_init 7 = .ok (.anewarray 9, 3) := by decide +kernel
theorem dX4_init_10 : decode cX4_init 10 = .ok (.putfield 11, 3) := by decide +kernel
theorem dX4_init_13 : decode cX4_init 13 = .ok (.aload_n 0, 1) := by decide +kernel
theorem dX4_init_14 : decode cX4_init 14 = .ok (.iconst (-1), 1) := by decide +kernel
theorem dX4_init_15 : decode cX4_init 15 = .ok (.putfield 17, 3) := by decide +kernel
theorem dX4_init_18 : decode cX4_init 18 = .ok (.aload_n 0, 1) := by decide +kernel
theorem dX4_init_19 : decode cX4_init 19 = .ok (.iconst (-1), 1) := by decide +kernel
theorem dX4_init_20 : decode cX4_init 20 = .ok (.putfield 21, 3) := by decide +kernel
theorem dX4_init_23 : decode cX4_init 23 = .ok (.aload_n 0, 1) := by decide +kernel
theorem dX4_init_24 : decode cX4_init 24 = .ok (.sipush 600, 3) := by decide +kernel
theorem dX4_init_27 : decode cX4_init 27 = .ok (.newarray .int, 2) := by decide +kernel
theorem dX4_init_29 : decode cX4_init 29 = .ok (.putfield 24, 3) := by decide +kernel
theorem dX4_init_32 : decode cX4_init 32 = .ok (.aload_n 0, 1) := by decide +kernel
theorem dX4_init_33 : decode cX4_init 33 = .ok (.bipush 8, 2) := by decide +kernel
theorem dX4_init_35 : decode cX4_init 35 = .ok (.newarray .long, 2) := by decide +kernel
theorem dX4_init_37 : decode cX4_init 37 = .ok (.putfield 28, 3) := by decide +kernel
theorem dX4_init_40 : decode cX4_init 40 = .ok (.aload_n 0, 1) := by decide +kernel
theorem dX4_init_41 : decode cX4_init 41 = .ok (.bipush 20, 2) := by decide +kernel
theorem dX4_init_43 : decode cX4_init 43 = .ok (.newarray .byte, 2) := by decide +kernel
theorem dX4_init_45 : decode cX4_init 45 = .ok (.putfield 32, 3) := by decide +kernel
theorem dX4_init_48 : decode cX4_init 48 = .ok (.aload_n 0, 1) := by decide +kernel
theorem dX4_init_49 : decode cX4_init 49 = .ok (.sipush 150, 3) := by decide +kernel
theorem dX4_init_52 : decode cX4_init 52 = .ok (.anewarray 9, 3) := by decide +kernel
theorem dX4_init_55 : decode cX4_init 55 = .ok (.putfield 36, 3) := by decide +kernel
theorem dX4_init_58 : decode cX4_init 58 = .ok (.aload_n 0, 1) := by decide +kernel
theorem dX4_init_59 : decode cX4_init 59 = .ok (.aload_n 1, 1) := by decide +kernel
theorem dX4_init_60 : decode cX4_init 60 = .ok (.putfield 39, 3) := by decide +kernel
theorem dX4_init_63 : decode cX4_init 63 = .ok (.return_, 1) := by decide +kernel
theorem dX0_init_0 : decode cX0_init 0 = .ok (.aload_n 0, 1) := by decide +kernel
theorem dX0_init_1 : decode cX0_init 1 = .ok (.invokespecial 3, 3) := by decide +kernel
theorem dX0_init_4 : decode cX0_init 4 = .ok (.aload_n 0, 1) := by decide +kernel
theorem dX0_init_5 : decode cX0_init 5 = .ok (.iconst (-1), 1) := by decide +kernel
theorem dX0_init_6 : decode cX0_init 6 = .ok (.putfield 9, 3) := by decide +kernel
theorem dX0_init_9 : decode cX0_init 9 = .ok (.aload_n 0, 1) := by decide +kernel
theorem dX0_init_10 : decode cX0_init 10 = .ok (.new 15, 3) := by decide +kernel
theorem dX0_init_13 : decode cX0_init 13 = .ok (.dup, 1) := by decide +kernel
theorem dX0_init_14 : decode cX0_init 14 = .ok (.invokespecial 17, 3) := by decide +kernel
theorem dX0_init_17 : decode cX0_init 17 = .ok (.putfield 18, 3) := by decide +kernel
theorem dX0_init_20 : decode cX0_init 20 = .ok (.aload_n 0, 1) := by decide +kernel
theorem dX0_init_21 : decode cX0_init 21 = .ok (.new 15, 3) := by decide +kernel
theorem dX0_init_24 : decode cX0_init 24 = .ok (.dup, 1) := by decide +kernel
theorem dX0_init_25 : decode cX0_init 25 = .ok (.invokespecial 17, 3) := by decide +kernel
theorem dX0_init_28 : decode cX0_init 28 = .ok (.putfield 22, 3) := by decide +kernel
theorem dX0_init_31 : decode cX0_init 31 = .ok (.aload_n 0, 1) := by decide +kernel
theorem dX0_init_32 : decode cX0_init 32 = .ok (.new 15, 3) := by decide +kernel
theorem dX0_init_35 : decode cX0_init 35 = .ok (.dup, 1) := by decide +kernel
theorem dX0_init_36 : decode cX0_init 36 = .ok (.invokespecial 17, 3) := by decide +kernel
theorem dX0_init_39 : decode cX0_init 39 = .ok (.putfield 25, 3) := by decide +kernel
theorem dX0_init_42 : decode cX0_init 42 = .ok (.aload_n 0, 1) := by decide +kernel
theorem dX0_init_43 : decode cX0_init 43 = .ok (.new 15, 3) := by decide +kernel
theorem dX0_init_46 : decode cX0_init 46 = .ok (.dup, 1) := by decide +kernel
theorem dX0_init_47 : decode cX0_init 47 = .ok (.invokespecial 17, 3) := by decide +kernel
theorem dX0_init_50 : decode cX0_init 50 = .ok (.putfield 28, 3) := by decide +kernel
theorem dX0_init_53 : decode cX0_init 53 = .ok (.aload_n 0, 1) := by decide +kernel
theorem dX0_init_54 : decode cX0_init 54 = .ok (.bipush 8, 2) := by decide +kernel
theorem dX0_init_56 : decode cX0_init 56 = .ok (.anewarray 15, 3) := by decide +kernel
theorem dX0_init_59 : decode cX0_init 59 = .ok (.putfield 31, 3) := by decide +kernel
theorem dX0_init_62 : decode cX0_init 62 = .ok (.aload_n 0, 1) := by decide +kernel
theorem dX0_init_63 : decode cX0_init 63 = .ok (.bipush 8, 2) := by decide +kernel
theorem dX0_init_65 : decode cX0_init 65 = .ok (.anewarray 15, 3) := by decide +kernel
theorem dX0_init_68 : decode cX0_init 68 = .ok (.putfield 35, 3) := by decide +kernel
theorem dX0_init_71 : decode cX0_init 71 = .ok (.iconst 0, 1) := by decide +kernel
theorem dX0_init_72 : decode cX0_init 72 = .ok (.istore_n 1, 1) := by decide +kernel
theorem dX0_init_73 : decode cX0_init 73 = .ok (.iload_n 1, 1) := by decide +kernel
theorem dX0_init_74 : decode cX0_init 74 = .ok (.bipush 8, 2) := by decide +kernel
theorem dX0_init_76 : decode cX0_init 76 = .ok (.if_icmp .ge 35, 3) := by decide +kernel
theorem dX0_init_79 : decode cX0_init 79 = .ok (.aload_n 0, 1) := by decide +kernel
theorem dX0_init_80 : decode cX0_init 80 = .ok (.getfield 31, 3) := by decide +kernel
theorem dX0_init_83 : decode cX0_init 83 = .ok (.iload_n 1, 1) := by decide +kernel
theorem dX0_init_84 : decode cX0_init 84 = .ok (.new 15, 3) := by decide +kernel
theorem dX0_init_87 : decode cX0_init 87 = .ok (.dup, 1) := by decide +kernel
theorem dX0_init_88 : decode cX0_init 88 = .ok (.invokespecial 17, 3) := by decide +kernel
theorem dX0_init_91 : decode cX0_init 91 = .ok (.aastore, 1) := by decide +kernel
theorem dX0_init_92 : decode cX0_init 92 = .ok (.aload_n 0, 1) := by decide +kernel
theorem dX0_init_93 : decode cX0_init 93 = .ok (.getfield 35, 3) := by decide +kernel
theorem dX0_init_96 : decode cX0_init 96 = .ok (.iload_n 1, 1) := by decide +kernel
theorem dX0_init_97 : decode cX0_init 97 = .ok (.new 15, 3) := by decide +kernel
theorem dX0_init_100 : decode cX0_init 100 = .ok (.dup, 1) := by decide +kernel
theorem dX0_init_101 : decode cX0_init 101 = .ok (.invokespecial 17, 3) := by decide +kernel
theorem dX0_init_104 : decode cX0_init 104 = .ok (.aastore, 1) := by decide +kernel
theorem dX0_init_105 : decode cX0_init 105 = .ok (.iinc 1 1, 3) := by decide +kernel
theorem dX0_init_108 : decode cX0_init 108 = .ok (.goto (-35), 3) := by decide +kernel
theorem dX0_init_111 : decode cX0_init 111 = .ok (.return_, 1) := by decide +kernel
theorem dX11_init_0 : decode cX11_init 0 = .ok (.aload_n 0, 1) := by decide +kernel
theorem dX11_init_1 : decode cX11_init 1 = .ok (.invokespecial 3, 3) := by decide +kernel
theorem dX11_init_4 : decode cX11_init 4 = .ok (.aload_n 0, 1) := by decide +kernel
theorem dX11_init_5 : decode cX11_init 5 = .ok (.bipush 8, 2) := by decide +kernel
theorem dX11_init_7 : decode cX11_init 7 = .ok (.anewarray 9, 3) := by decide +kernel
theorem dX11_init_10 : decode cX11_init 10 = .ok (.putfield 11, 3) := by decide +kernel
theorem dX11_init_13 : decode cX11_init 13 = .ok (.aload_n 0, 1) := by decide +kernel
theorem dX11_init_14 : decode cX11_init 14 = .ok (.new 15, 3) := by decide +kernel
theorem dX11_init_17 : decode cX11_init 17 = .ok (.dup, 1) := by decide +kernel
theorem dX11_init_18 : decode cX11_init 18 = .ok (.invokespecial 17, 3) := by decide +kernel
theorem dX11_init_21 : decode cX11_init 21 = .ok (.putfield 18, 3) := by decide +kernel
theorem dX11_init_24 : decode cX11_init 24 = .ok (.aload_n 0, 1) := by decide +kernel
theorem dX11_init_25 : decode cX11_init 25 = .ok (.new 22, 3) := by decide +kernel
theorem dX11_init_28 : decode cX11_init 28 = .ok (.dup, 1) := by decide +kernel
theorem dX11_init_29 : decode cX11_init 29 = .ok (.aload_n 0, 1) := by decide +kernel
theorem dX11_init_30 : decode cX11_init 30 = .ok (.getfield 18, 3) := by decide +kernel
theorem dX11_init_33 : decode cX11_init 33 = .ok (.invokespecial 24, 3) := by decide +kernel
theorem dX11_init_36 : decode cX11_init 36 = .ok (.putfield 27, 3) := by decide +kernel
theorem dX11_init_39 : decode cX11_init 39 = .ok (.aload_n 0, 1) := by decide +kernel
theorem dX11_init_40 : decode cX11_init 40 = .ok (.new 31, 3) := by decide +kernel
theorem dX11_init_43 : decode cX11_init 43 = .ok (.dup, 1) := by decide +kernel
theorem dX11_init_44 : decode cX11_init 44 = .ok (.invokespecial 33, 3) := by decide +kernel
theorem dX11_init_47 : decode cX11_init 47 = .ok (.putfield 34, 3) := by decide +kernel
theorem dX11_init_50 : decode cX11_init 50 = .ok (.aload_n 0, 1) := by decide +kernel
theorem dX11_init_51 : decode cX11_init 51 = .ok (.new 38, 3) := by decide +kernel
theorem dX11_init_54 : decode cX11_init 54 = .ok (.dup, 1) := by decide +kernel
theorem dX11_init_55 : decode cX11_init 55 = .ok (.invokespecial 40, 3) := by decide +kernel
theorem dX11_init_58 : decode cX11_init 58 = .ok (.putfield 41, 3) := by decide +kernel
theorem dX11_init_61 : decode cX11_init 61 = .ok (.aload_n 0, 1) := by decide +kernel
theorem dX11_init_62 : decode cX11_init 62 = .ok (.new 45, 3) := by decide +kernel
theorem dX11_init_65 : decode cX11_init 65 = .ok (.dup, 1) := by decide +kernel
theorem dX11_init_66 : decode cX11_init 66 = .ok (.invokespecial 47, 3) := by decide +kernel
theorem dX11_init_69 : decode cX11_init 69 = .ok (.putfield 48, 3) := by decide +kernel
theorem dX11_init_72 : decode cX11_init 72 = .ok (.iconst 0, 1) := by decide +kernel
theorem dX11_init_73 : decode cX11_init 73 = .ok (.istore_n 1, 1) := by decide +kernel
theorem dX11_init_74 : decode cX11_init 74 = .ok (.iload_n 1, 1) := by decide +kernel
theorem dX11_init_75 : decode cX11_init 75 = .ok (.bipush 8, 2) := by decide +kernel
theorem dX11_init_77 : decode cX11_init 77 = .ok (.if_icmp .ge 22, 3) := by decide +kernel
theorem dX11_init_80 : decode cX11_init 80 = .ok (.aload_n 0, 1) := by decide +kernel
theorem dX11_init_81 : decode cX11_init 81 = .ok (.getfield 11, 3) := by decide +kernel
theorem dX11_init_84 : decode cX11_init 84 = .ok (.iload_n 1, 1) := by decide +kernel
theorem dX11_init_85 : decode cX11_init 85 = .ok (.new 9, 3) := by decide +kernel
theorem dX11_init_88 : decode cX11_init 88 = .ok (.dup, 1) := by decide +kernel
theorem dX11_init_89 : decode cX11_init 89 = .ok (.invokespecial 52, 3) := by decide +kernel
theorem dX11_init_92 : decode cX11_init 92 = .ok (.aastore, 1) := by decide +kernel
theorem dX11_init_93 : decode cX11_init 93 = .ok (.iinc 1 1, 3) := by decide +kernel
theorem dX11_init_96 : decode cX11_init 96 = .ok (.goto (-22), 3) := by decide +kernel
theorem dX11_init_99 : decode cX11_init 99 = .ok (.return_, 1) := by decide +kernel
theorem dX11_slotAt_0 : decode cX11_slotAt 0 = .ok (.iload_n 1, 1) := by decide +kernel
theorem dX11_slotAt_1 : decode cX11_slotAt 1 = .ok (.ifCond .lt 18, 3) := by decide +kernel
theorem dX11_slotAt_4 : decode cX11_slotAt 4 = .ok (.iload_n 1, 1) := by decide +kernel
theorem dX11_slotAt_5 : decode cX11_slotAt 5 = .ok (.bipush 8, 2) := by decide +kernel
theorem dX11_slotAt_7 : decode cX11_slotAt 7 = .ok (.if_icmp .ge 12, 3) := by decide +kernel
theorem dX11_slotAt_10 : decode cX11_slotAt 10 = .ok (.aload_n 0, 1) := by decide +kernel
theorem dX11_slotAt_11 : decode cX11_slotAt 11 = .ok (.getfield 11, 3) := by decide +kernel
theorem dX11_slotAt_14 : decode cX11_slotAt 14 = .ok (.iload_n 1, 1) := by decide +kernel
theorem dX11_slotAt_15 : decode cX11_slotAt 15 = .ok (.aaload, 1) := by decide +kernel
theorem dX11_slotAt_16 : decode cX11_slotAt 16 = .ok (.goto 4, 3) := by decide +kernel
theorem dX11_slotAt_19 : decode cX11_slotAt 19 = .ok (.aconst_null, 1) := by decide +kernel
theorem dX11_slotAt_20 : decode cX11_slotAt 20 = .ok (.areturn, 1) := by decide +kernel
theorem dX11_lensAt_0 : decode cX11_lensAt 0 = .ok (.iload_n 1, 1) := by decide +kernel
theorem dX11_lensAt_1 : decode cX11_lensAt 1 = .ok (.ifCond .lt 26, 3) := by decide +kernel
theorem dX11_lensAt_4 : decode cX11_lensAt 4 = .ok (.iload_n 1, 1) := by decide +kernel
theorem dX11_lensAt_5 : decode cX11_lensAt 5 = .ok (.aload_n 0, 1) := by decide +kernel
theorem dX11_lensAt_6 : decode cX11_lensAt 6 = .ok (.getfield 27, 3) := by decide +kernel
theorem dX11_lensAt_9 : decode cX11_lensAt 9 = .ok (.getfield 259, 3) := by decide +kernel
theorem dX11_lensAt_12 : decode cX11_lensAt 12 = .ok (.if_icmp .ge 15, 3) := by decide +kernel
theorem dX11_lensAt_27 : decode cX11_lensAt 27 = .ok (.aconst_null, 1) := by decide +kernel
theorem dX11_lensAt_28 : decode cX11_lensAt 28 = .ok (.areturn, 1) := by decide +kernel
theorem dX11_setAt_0 : decode cX11_setAt 0 = .ok (.aload_n 0, 1) := by decide +kernel
theorem dX11_setAt_1 : decode cX11_setAt 1 = .ok (.iload_n 1, 1) := by decide +kernel
theorem dX11_setAt_2 : decode cX11_setAt 2 = .ok (.invokevirtual 105, 3) := by decide +kernel
theorem dX11_setAt_5 : decode cX11_setAt 5 = .ok (.astore_n 3, 1) := by decide +kernel
theorem dX11_setAt_6 : decode cX11_setAt 6 = .ok (.aload_n 3, 1) := by decide +kernel
theorem dX11_setAt_7 : decode cX11_setAt 7 = .ok (.ifnull 12, 3) := by decide +kernel
theorem dX11_setAt_19 : decode cX11_setAt 19 = .ok (.aconst_null, 1) := by decide +kernel
theorem dX11_setAt_20 : decode cX11_setAt 20 = .ok (.areturn, 1) := by decide +kernel
theorem dX11_repeatedOf_0 : decode cX11_repeatedOf 0 = .ok (.aload_n 0, 1) := by decide +kernel
theorem dX11_repeatedOf_1 : decode cX11_repeatedOf 1 = .ok (.astore_n 1, 1) := by decide +kernel
theorem dX11_repeatedOf_2 : decode cX11_repeatedOf 2 = .ok (.iconst 0, 1) := by decide +kernel
theorem dX11_repeatedOf_3 : decode cX11_repeatedOf 3 = .ok (.istore_n 2, 1) := by decide +kernel
theorem dX11_repeatedOf_4 : decode cX11_repeatedOf 4 = .ok (.iload_n 2, 1) := by decide +kernel
theorem dX11_repeatedOf_5 : decode cX11_repeatedOf 5 = .ok (.bipush 8, 2) := by decide +kernel
theorem dX11_repeatedOf_7 : decode cX11_repeatedOf 7 = .ok (.if_icmp .gt 27, 3) := by decide +kernel
theorem dX11_repeatedOf_10 : decode cX11_repeatedOf 10 = .ok (.aload_n 1, 1) := by decide +kernel
theorem dX11_repeatedOf_11 : decode cX11_repeatedOf 11 = .ok (.ifnull 23, 3) := by decide +kernel
theorem dX11_repeatedOf_34 : decode cX11_repeatedOf 34 = .ok (.aload_n 1, 1) := by decide +kernel
theorem dX11_repeatedOf_35 : decode cX11_repeatedOf 35 = .ok (.ifnull 25, 3) := by decide +kernel
theorem dX11_repeatedOf_60 : decode cX11_repeatedOf 60 = .ok (.aconst_null, 1) := by decide +kernel
theorem dX11_repeatedOf_61 : decode cX11_repeatedOf 61 = .ok (.areturn, 1) := by decide +kernel
theorem dX11_fits_0 : decode cX11_fits 0 = .ok (.aload_n 0, 1) := by decide +kernel
theorem dX11_fits_1 : decode cX11_fits 1 = .ok (.iload_n 1, 1) := by decide +kernel
theorem dX11_fits_2 : decode cX11_fits 2 = .ok (.iload_n 2, 1) := by decide +kernel
theorem dX11_fits_3 : decode cX11_fits 3 = .ok (.invokevirtual 95, 3) := by decide +kernel
theorem dX11_fits_6 : decode cX11_fits 6 = .ok (.astore 4, 2) := by decide +kernel
theorem dX11_fits_8 : decode cX11_fits 8 = .ok (.aload_n 0, 1) := by decide +kernel
theorem dX11_fits_9 : decode cX11_fits 9 = .ok (.iload_n 3, 1) := by decide +kernel
theorem dX11_fits_10 : decode cX11_fits 10 = .ok (.invokevirtual 74, 3) := by decide +kernel
theorem dX11_fits_13 : decode cX11_fits 13 = .ok (.astore 5, 2) := by decide +kernel
theorem dX11_fits_15 : decode cX11_fits 15 = .ok (.aload 4, 2) := by decide +kernel
theorem dX11_fits_17 : decode cX11_fits 17 = .ok (.ifnull 8, 3) := by decide +kernel
theorem dX11_fits_25 : decode cX11_fits 25 = .ok (.iconst (-1), 1) := by decide +kernel
theorem dX11_fits_26 : decode cX11_fits 26 = .ok (.ireturn, 1) := by decide +kernel
theorem dX11_get_0 : decode cX11_get 0 = .ok (.aload_n 0, 1) := by decide +kernel
theorem dX11_get_1 : decode cX11_get 1 = .ok (.iload_n 1, 1) := by decide +kernel
theorem dX11_get_2 : decode cX11_get 2 = .ok (.invokevirtual 105, 3) := by decide +kernel
theorem dX11_get_5 : decode cX11_get 5 = .ok (.astore 4, 2) := by decide +kernel
theorem dX11_get_7 : decode cX11_get 7 = .ok (.aload_n 0, 1) := by decide +kernel
theorem dX11_get_8 : decode cX11_get 8 = .ok (.iload_n 2, 1) := by decide +kernel
theorem dX11_get_9 : decode cX11_get 9 = .ok (.invokevirtual 74, 3) := by decide +kernel
theorem dX11_get_12 : decode cX11_get 12 = .ok (.astore 5, 2) := by decide +kernel
theorem dX11_get_14 : decode cX11_get 14 = .ok (.aload_n 0, 1) := by decide +kernel
theorem dX11_get_15 : decode cX11_get 15 = .ok (.iload_n 3, 1) := by decide +kernel
theorem dX11_get_16 : decode cX11_get 16 = .ok (.invokevirtual 74, 3) := by decide +kernel
theorem dX11_get_19 : decode cX11_get 19 = .ok (.astore 6, 2) := by decide +kernel
theorem dX11_get_21 : decode cX11_get 21 = .ok (.aload 4, 2) := by decide +kernel
theorem dX11_get_23 : decode cX11_get 23 = .ok (.ifnull 29, 3) := by decide +kernel
theorem dX11_get_52 : decode cX11_get 52 = .ok (.iconst (-1), 1) := by decide +kernel
theorem dX11_get_53 : decode cX11_get 53 = .ok (.ireturn, 1) := by decide +kernel
theorem dX11_put_0 : decode cX11_put 0 = .ok (.aload_n 0, 1) := by decide +kernel
theorem dX11_put_1 : decode cX11_put 1 = .ok (.iload_n 1, 1) := by decide +kernel
theorem dX11_put_2 : decode cX11_put 2 = .ok (.invokevirtual 105, 3) := by decide +kernel
theorem dX11_put_5 : decode cX11_put 5 = .ok (.astore 5, 2) := by decide +kernel
theorem dX11_put_7 : decode cX11_put 7 = .ok (.aload_n 0, 1) := by decide +kernel
theorem dX11_put_8 : decode cX11_put 8 = .ok (.iload_n 2, 1) := by decide +kernel
theorem dX11_put_9 : decode cX11_put 9 = .ok (.invokevirtual 74, 3) := by decide +kernel
theorem dX11_put_12 : decode cX11_put 12 = .ok (.astore 6, 2) := by decide +kernel
theorem dX11_put_14 : decode cX11_put 14 = .ok (.aload_n 0, 1) := by decide +kernel
theorem dX11_put_15 : decode cX11_put 15 = .ok (.iload_n 3, 1) := by decide +kernel
theorem dX11_put_16 : decode cX11_put 16 = .ok (.invokevirtual 74, 3) := by decide +kernel
theorem dX11_put_19 : decode cX11_put 19 = .ok (.astore 7, 2) := by decide +kernel
theorem dX11_put_21 : decode cX11_put 21 = .ok (.aload_n 0, 1) := by decide +kernel
theorem dX11_put_22 : decode cX11_put 22 = .ok (.iload 4, 2) := by decide +kernel
theorem dX11_put_24 : decode cX11_put 24 = .ok (.invokevirtual 74, 3) := by decide +kernel
theorem dX11_put_27 : decode cX11_put 27 = .ok (.astore 8, 2) := by decide +kernel
theorem dX11_put_29 : decode cX11_put 29 = .ok (.aload 5, 2) := by decide +kernel
theorem dX11_put_31 : decode cX11_put 31 = .ok (.ifnull 18, 3) := by decide +kernel
theorem dX11_put_49 : decode cX11_put 49 = .ok (.iconst (-1), 1) := by decide +kernel
theorem dX11_put_50 : decode cX11_put 50 = .ok (.ireturn, 1) := by decide +kernel
theorem dX11_create_0 : decode cX11_create 0 = .ok (.aload_n 0, 1) := by decide +kernel
theorem dX11_create_1 : decode cX11_create 1 = .ok (.iload_n 1, 1) := by decide +kernel
theorem dX11_create_2 : decode cX11_create 2 = .ok (.invokevirtual 105, 3) := by decide +kernel
theorem dX11_create_5 : decode cX11_create 5 = .ok (.astore 4, 2) := by decide +kernel
theorem dX11_create_7 : decode cX11_create 7 = .ok (.aload_n 0, 1) := by decide +kernel
theorem dX11_create_8 : decode cX11_create 8 = .ok (.iload_n 2, 1) := by decide +kernel
theorem dX11_create_9 : decode cX11_create 9 = .ok (.invokevirtual 74, 3) := by decide +kernel
theorem dX11_create_12 : decode cX11_create 12 = .ok (.astore 5, 2) := by decide +kernel
theorem dX11_create_14 : decode cX11_create 14 = .ok (.aload_n 0, 1) := by decide +kernel
theorem dX11_create_15 : decode cX11_create 15 = .ok (.iload_n 3, 1) := by decide +kernel
theorem dX11_create_16 : decode cX11_create 16 = .ok (.invokevirtual 74, 3) := by decide +kernel
theorem dX11_create_19 : decode cX11_create 19 = .ok (.astore 6, 2) := by decide +kernel
theorem dX11_create_21 : decode cX11_create 21 = .ok (.aload 4, 2) := by decide +kernel
theorem dX11_create_23 : decode cX11_create 23 = .ok (.ifnull 13, 3) := by decide +kernel
theorem dX11_create_36 : decode cX11_create 36 = .ok (.iconst (-1), 1) := by decide +kernel
theorem dX11_create_37 : decode cX11_create 37 = .ok (.ireturn, 1) := by decide +kernel
theorem dX11_nth_0 : decode cX11_nth 0 = .ok (.aload_n 0, 1) := by decide +kernel
theorem dX11_nth_1 : decode cX11_nth 1 = .ok (.iload_n 1, 1) := by decide +kernel
theorem dX11_nth_2 : decode cX11_nth 2 = .ok (.iload_n 2, 1) := by decide +kernel
theorem dX11_nth_3 : decode cX11_nth 3 = .ok (.invokevirtual 95, 3) := by decide +kernel
theorem dX11_nth_6 : decode cX11_nth 6 = .ok (.astore 5, 2) := by decide +kernel
theorem dX11_nth_8 : decode cX11_nth 8 = .ok (.aload_n 0, 1) := by decide +kernel
theorem dX11_nth_9 : decode cX11_nth 9 = .ok (.iload 4, 2) := by decide +kernel
theorem dX11_nth_11 : decode cX11_nth 11 = .ok (.invokevirtual 74, 3) := by decide +kernel
theorem dX11_nth_14 : decode cX11_nth 14 = .ok (.astore 6, 2) := by decide +kernel
theorem dX11_nth_16 : decode cX11_nth 16 = .ok (.aload 5, 2) := by decide +kernel
theorem dX11_nth_18 : decode cX11_nth 18 = .ok (.ifnull 19, 3) := by decide +kernel
theorem dX11_nth_37 : decode cX11_nth 37 = .ok (.iconst (-1), 1) := by decide +kernel
theorem dX11_nth_38 : decode cX11_nth 38 = .ok (.ireturn, 1) := by decide +kernel
theorem dX11_compare_0 : decode cX11_compare 0 = .ok (.aload_n 0, 1) := by decide +kernel
theorem dX11_compare_1 : decode cX11_compare 1 = .ok (.iload_n 1, 1) := by decide +kernel
theorem dX11_compare_2 : decode cX11_compare 2 = .ok (.iload_n 2, 1) := by decide +kernel
theorem dX11_compare_3 : decode cX11_compare 3 = .ok (.invokevirtual 95, 3) := by decide +kernel
theorem dX11_compare_6 : decode cX11_compare 6 = .ok (.astore 5, 2) := by decide +kernel
theorem dX11_compare_8 : decode cX11_compare 8 = .ok (.aload_n 0, 1) := by decide +kernel
theorem dX11_compare_9 : decode cX11_compare 9 = .ok (.iload_n 3, 1) := by decide +kernel
theorem dX11_compare_10 : decode cX11_compare 10 = .ok (.iload 4, 2) := by decide +kernel
theorem dX11_compare_12 : decode cX11_compare 12 = .ok (.invokevirtual 95, 3) := by decide +kernel
theorem dX11_compare_15 : decode cX11_compare 15 = .ok (.astore 6, 2) := by decide +kernel
theorem dX11_compare_17 : decode cX11_compare 17 = .ok (.aload 5, 2) := by decide +kernel
theorem dX11_compare_19 : decode cX11_compare 19 = .ok (.ifnull 8, 3) := by decide +kernel
theorem dX11_compare_27 : decode cX11_compare 27 = .ok (.iconst (-1), 1) := by decide +kernel
theorem dX11_compare_28 : decode cX11_compare 28 = .ok (.goto 14, 3) := by decide +kernel
theorem dX11_compare_42 : decode cX11_compare 42 = .ok (.ireturn, 1) := by decide +kernel
theorem dX11_set_0 : decode cX11_set 0 = .ok (.aload_n 0, 1) := by decide +kernel
theorem dX11_set_1 : decode cX11_set 1 = .ok (.iload_n 1, 1) := by decide +kernel
theorem dX11_set_2 : decode cX11_set 2 = .ok (.iload_n 2, 1) := by decide +kernel
theorem dX11_set_3 : decode cX11_set 3 = .ok (.invokevirtual 95, 3) := by decide +kernel
theorem dX11_set_6 : decode cX11_set 6 = .ok (.astore 4, 2) := by decide +kernel
theorem dX11_set_8 : decode cX11_set 8 = .ok (.aload 4, 2) := by decide +kernel
theorem dX11_set_10 : decode cX11_set 10 = .ok (.ifnonnull 5, 3) := by decide +kernel
theorem dX11_set_13 : decode cX11_set 13 = .ok (.iconst (-1), 1) := by decide +kernel
theorem dX11_set_14 : decode cX11_set 14 = .ok (.ireturn, 1) := by decide +kernel
theorem dX11_goesOn_0 : decode cX11_goesOn 0 = .ok (.aload_n 0, 1) := by decide +kernel
theorem dX11_goesOn_1 : decode cX11_goesOn 1 = .ok (.iload_n 1, 1) := by decide +kernel
theorem dX11_goesOn_2 : decode cX11_goesOn 2 = .ok (.iload_n 2, 1) := by decide +kernel
theorem dX11_goesOn_3 : decode cX11_goesOn 3 = .ok (.invokevirtual 95, 3) := by decide +kernel
theorem dX11_goesOn_6 : decode cX11_goesOn 6 = .ok (.astore 5, 2) := by decide +kernel
theorem dX11_goesOn_8 : decode cX11_goesOn 8 = .ok (.aload_n 0, 1) := by decide +kernel
theorem dX11_goesOn_9 : decode cX11_goesOn 9 = .ok (.iload_n 3, 1) := by decide +kernel
theorem dX11_goesOn_10 : decode cX11_goesOn 10 = .ok (.invokevirtual 74, 3) := by decide +kernel
theorem dX11_goesOn_13 : decode cX11_goesOn 13 = .ok (.astore 6, 2) := by decide +kernel
theorem dX11_goesOn_15 : decode cX11_goesOn 15 = .ok (.aload 5, 2) := by decide +kernel
theorem dX11_goesOn_17 : decode cX11_goesOn 17 = .ok (.ifnull 8, 3) := by decide +kernel
theorem dX11_goesOn_25 : decode cX11_goesOn 25 = .ok (.iconst (-1), 1) := by decide +kernel
theorem dX11_goesOn_26 : decode cX11_goesOn 26 = .ok (.goto 10, 3) := by decide +kernel
theorem dX11_goesOn_36 : decode cX11_goesOn 36 = .ok (.istore 7, 2) := by decide +kernel
theorem dX11_goesOn_38 : decode cX11_goesOn 38 = .ok (.iload 7, 2) := by decide +kernel
theorem dX11_goesOn_40 : decode cX11_goesOn 40 = .ok (.iconst (-1), 1) := by decide +kernel
theorem dX11_goesOn_41 : decode cX11_goesOn 41 = .ok (.if_icmp .ne 5, 3) := by decide +kernel
theorem dX11_goesOn_44 : decode cX11_goesOn 44 = .ok (.iconst (-1), 1) := by decide +kernel
theorem dX11_goesOn_45 : decode cX11_goesOn 45 = .ok (.ireturn, 1) := by decide +kernel
theorem dX11_parts_0 : decode cX11_parts 0 = .ok (.aload_n 0, 1) := by decide +kernel
theorem dX11_parts_1 : decode cX11_parts 1 = .ok (.iload_n 1, 1) := by decide +kernel
theorem dX11_parts_2 : decode cX11_parts 2 = .ok (.invokevirtual 105, 3) := by decide +kernel
theorem dX11_parts_5 : decode cX11_parts 5 = .ok (.invokestatic 166, 3) := by decide +kernel
theorem dX11_parts_8 : decode cX11_parts 8 = .ok (.astore_n 3, 1) := by decide +kernel
theorem dX11_parts_9 : decode cX11_parts 9 = .ok (.aload_n 0, 1) := by decide +kernel
theorem dX11_parts_10 : decode cX11_parts 10 = .ok (.iload_n 2, 1) := by decide +kernel
theorem dX11_parts_11 : decode cX11_parts 11 = .ok (.invokevirtual 74, 3) := by decide +kernel
theorem dX11_parts_14 : decode cX11_parts 14 = .ok (.astore 4, 2) := by decide +kernel
theorem dX11_parts_16 : decode cX11_parts 16 = .ok (.aload_n 3, 1) := by decide +kernel
theorem dX11_parts_17 : decode cX11_parts 17 = .ok (.ifnull 8, 3) := by decide +kernel
theorem dX11_parts_25 : decode cX11_parts 25 = .ok (.iconst (-1), 1) := by decide +kernel
theorem dX11_parts_26 : decode cX11_parts 26 = .ok (.ireturn, 1) := by decide +kernel
theorem dX11_aligned_0 : decode cX11_aligned 0 = .ok (.aload_n 0, 1) := by decide +kernel
theorem dX11_aligned_1 : decode cX11_aligned 1 = .ok (.iload_n 1, 1) := by decide +kernel
theorem dX11_aligned_2 : decode cX11_aligned 2 = .ok (.invokevirtual 105, 3) := by decide +kernel
theorem dX11_aligned_5 : decode cX11_aligned 5 = .ok (.astore 5, 2) := by decide +kernel
theorem dX11_aligned_7 : decode cX11_aligned 7 = .ok (.aload_n 0, 1) := by decide +kernel
theorem dX11_aligned_8 : decode cX11_aligned 8 = .ok (.iload_n 2, 1) := by decide +kernel
theorem dX11_aligned_9 : decode cX11_aligned 9 = .ok (.invokevirtual 74, 3) := by decide +kernel
theorem dX11_aligned_12 : decode cX11_aligned 12 = .ok (.astore 6, 2) := by decide +kernel
theorem dX11_aligned_14 : decode cX11_aligned 14 = .ok (.aload_n 0, 1) := by decide +kernel
theorem dX11_aligned_15 : decode cX11_aligned 15 = .ok (.iload_n 3, 1) := by decide +kernel
theorem dX11_aligned_16 : decode cX11_aligned 16 = .ok (.invokevirtual 74, 3) := by decide +kernel
theorem dX11_aligned_19 : decode cX11_aligned 19 = .ok (.astore 7, 2) := by decide +kernel
theorem dX11_aligned_21 : decode cX11_aligned 21 = .ok (.aload 5, 2) := by decide +kernel
theorem dX11_aligned_23 : decode cX11_aligned 23 = .ok (.ifnull 31, 3) := by decide +kernel
theorem dX11_aligned_54 : decode cX11_aligned 54 = .ok (.iconst (-1), 1) := by decide +kernel
theorem dX11_aligned_55 : decode cX11_aligned 55 = .ok (.ireturn, 1) := by decide +kernel
theorem dX11_key_0 : decode cX11_key 0 = .ok (.aload_n 0, 1) := by decide +kernel
theorem dX11_key_1 : decode cX11_key 1 = .ok (.iload_n 1, 1) := by decide +kernel
theorem dX11_key_2 : decode cX11_key 2 = .ok (.invokevirtual 105, 3) := by decide +kernel
theorem dX11_key_5 : decode cX11_key 5 = .ok (.invokestatic 166, 3) := by decide +kernel
theorem dX11_key_8 : decode cX11_key 8 = .ok (.astore 5, 2) := by decide +kernel
theorem dX11_key_10 : decode cX11_key 10 = .ok (.aload_n 0, 1) := by decide +kernel
theorem dX11_key_11 : decode cX11_key 11 = .ok (.iload_n 2, 1) := by decide +kernel
theorem dX11_key_12 : decode cX11_key 12 = .ok (.invokevirtual 74, 3) := by decide +kernel
theorem dX11_key_15 : decode cX11_key 15 = .ok (.astore 6, 2) := by decide +kernel
theorem dX11_key_17 : decode cX11_key 17 = .ok (.aload_n 0, 1) := by decide +kernel
theorem dX11_key_18 : decode cX11_key 18 = .ok (.iload 4, 2) := by decide +kernel
theorem dX11_key_20 : decode cX11_key 20 = .ok (.invokevirtual 74, 3) := by decide +kernel
theorem dX11_key_23 : decode cX11_key 23 = .ok (.astore 7, 2) := by decide +kernel
theorem dX11_key_25 : decode cX11_key 25 = .ok (.aload 5, 2) := by decide +kernel
theorem dX11_key_27 : decode cX11_key 27 = .ok (.ifnull 13, 3) := by decide +kernel
theorem dX11_key_40 : decode cX11_key 40 = .ok (.iconst (-1), 1) := by decide +kernel
theorem dX11_key_41 : decode cX11_key 41 = .ok (.ireturn, 1) := by decide +kernel
theorem dX11_laws_0 : decode cX11_laws 0 = .ok (.aload_n 0, 1) := by decide +kernel
theorem dX11_laws_1 : decode cX11_laws 1 = .ok (.iload_n 1, 1) := by decide +kernel
theorem dX11_laws_2 : decode cX11_laws 2 = .ok (.invokevirtual 105, 3) := by decide +kernel
theorem dX11_laws_5 : decode cX11_laws 5 = .ok (.astore 4, 2) := by decide +kernel
theorem dX11_laws_7 : decode cX11_laws 7 = .ok (.aload 4, 2) := by decide +kernel
theorem dX11_laws_9 : decode cX11_laws 9 = .ok (.ifnull 22, 3) := by decide +kernel
theorem dX11_laws_31 : decode cX11_laws 31 = .ok (.iconst (-1), 1) := by decide +kernel
theorem dX11_laws_32 : decode cX11_laws 32 = .ok (.ireturn, 1) := by decide +kernel
theorem dX11_open_0 : decode cX11_open 0 = .ok (.aload_n 0, 1) := by decide +kernel
theorem dX11_open_1 : decode cX11_open 1 = .ok (.iload_n 1, 1) := by decide +kernel
theorem dX11_open_2 : decode cX11_open 2 = .ok (.invokevirtual 105, 3) := by decide +kernel
theorem dX11_open_5 : decode cX11_open 5 = .ok (.astore_n 3, 1) := by decide +kernel
theorem dX11_open_6 : decode cX11_open 6 = .ok (.aload_n 0, 1) := by decide +kernel
theorem dX11_open_7 : decode cX11_open 7 = .ok (.iload_n 2, 1) := by decide +kernel
theorem dX11_open_8 : decode cX11_open 8 = .ok (.invokevirtual 74, 3) := by decide +kernel
theorem dX11_open_11 : decode cX11_open 11 = .ok (.astore 4, 2) := by decide +kernel
theorem dX11_open_13 : decode cX11_open 13 = .ok (.aload_n 3, 1) := by decide +kernel
theorem dX11_open_14 : decode cX11_open 14 = .ok (.ifnull 26, 3) := by decide +kernel
theorem dX11_open_40 : decode cX11_open 40 = .ok (.iconst (-1), 1) := by decide +kernel
theorem dX11_open_41 : decode cX11_open 41 = .ok (.ireturn, 1) := by decide +kernel
theorem dX11_many_0 : decode cX11_many 0 = .ok (.aload_n 0, 1) := by decide +kernel
theorem dX11_many_1 : decode cX11_many 1 = .ok (.iload_n 1, 1) := by decide +kernel
theorem dX11_many_2 : decode cX11_many 2 = .ok (.iload_n 2, 1) := by decide +kernel
theorem dX11_many_3 : decode cX11_many 3 = .ok (.invokevirtual 95, 3) := by decide +kernel
theorem dX11_many_6 : decode cX11_many 6 = .ok (.astore 4, 2) := by decide +kernel
theorem dX11_many_8 : decode cX11_many 8 = .ok (.aload 4, 2) := by decide +kernel
theorem dX11_many_10 : decode cX11_many 10 = .ok (.ifnull 13, 3) := by decide +kernel
theorem dX11_many_23 : decode cX11_many 23 = .ok (.ldc2_w 117, 3) := by decide +kernel
theorem dX11_many_26 : decode cX11_many 26 = .ok (.lreturn, 1) := by decide +kernel
theorem dX11_edit_0 : decode cX11_edit 0 = .ok (.aload_n 0, 1) := by decide +kernel
theorem dX11_edit_1 : decode cX11_edit 1 = .ok (.getfield 48, 3) := by decide +kernel
theorem dX11_edit_4 : decode cX11_edit 4 = .ok (.getfield 212, 3) := by decide +kernel
theorem dX11_edit_7 : decode cX11_edit 7 = .ok (.ifnonnull 5, 3) := by decide +kernel
theorem dX11_edit_10 : decode cX11_edit 10 = .ok (.iconst (-1), 1) := by decide +kernel
theorem dX11_edit_11 : decode cX11_edit 11 = .ok (.ireturn, 1) := by decide +kernel
theorem dX0_takeBack_0 : decode cX0_takeBack 0 = .ok (.aload_n 0, 1) := by decide +kernel
theorem dX0_takeBack_1 : decode cX0_takeBack 1 = .ok (.getfield 48, 3) := by decide +kernel
theorem dX0_takeBack_4 : decode cX0_takeBack 4 = .ok (.ifCond .gt 5, 3) := by decide +kernel
theorem dX0_takeBack_7 : decode cX0_takeBack 7 = .ok (.iconst 0, 1) := by decide +kernel
theorem dX0_takeBack_8 : decode cX0_takeBack 8 = .ok (.ireturn, 1) := by decide +kernel
theorem dX11_undo_0 : decode cX11_undo 0 = .ok (.aload_n 0, 1) := by decide +kernel
theorem dX11_undo_1 : decode cX11_undo 1 = .ok (.getfield 48, 3) := by decide +kernel
theorem dX11_undo_4 : decode cX11_undo 4 = .ok (.invokevirtual 226, 3) := by decide +kernel
theorem dX11_undo_7 : decode cX11_undo 7 = .ok (.ireturn, 1) := by decide +kernel
theorem dX11_copy_0 : decode cX11_copy 0 = .ok (.aload_n 0, 1) := by decide +kernel
theorem dX11_copy_1 : decode cX11_copy 1 = .ok (.iload_n 2, 1) := by decide +kernel
theorem dX11_copy_2 : decode cX11_copy 2 = .ok (.invokevirtual 74, 3) := by decide +kernel
theorem dX11_copy_5 : decode cX11_copy 5 = .ok (.astore_n 3, 1) := by decide +kernel
theorem dX11_copy_6 : decode cX11_copy 6 = .ok (.aload_n 0, 1) := by decide +kernel
theorem dX11_copy_7 : decode cX11_copy 7 = .ok (.getfield 48, 3) := by decide +kernel
theorem dX11_copy_10 : decode cX11_copy 10 = .ok (.getfield 212, 3) := by decide +kernel
theorem dX11_copy_13 : decode cX11_copy 13 = .ok (.ifnull 16, 3) := by decide +kernel
theorem dX11_copy_29 : decode cX11_copy 29 = .ok (.iconst (-1), 1) := by decide +kernel
theorem dX11_copy_30 : decode cX11_copy 30 = .ok (.ireturn, 1) := by decide +kernel
theorem dX11_moved_0 : decode cX11_moved 0 = .ok (.aload_n 0, 1) := by decide +kernel
theorem dX11_moved_1 : decode cX11_moved 1 = .ok (.getfield 48, 3) := by decide +kernel
theorem dX11_moved_4 : decode cX11_moved 4 = .ok (.getfield 232, 3) := by decide +kernel
theorem dX11_moved_7 : decode cX11_moved 7 = .ok (.ifCond .ne 5, 3) := by decide +kernel
theorem dX11_moved_10 : decode cX11_moved 10 = .ok (.iconst (-1), 1) := by decide +kernel
theorem dX11_moved_11 : decode cX11_moved 11 = .ok (.ireturn, 1) := by decide +kernel
theorem dX11_fault_0 : decode cX11_fault 0 = .ok (.iload_n 1, 1) := by decide +kernel
theorem dX11_fault_1 : decode cX11_fault 1 = .ok (.tableswitch 51 0 2 #[27, 35, 43], 27) := by decide +kernel
theorem dX11_fault_28 : decode cX11_fault 28 = .ok (.aload_n 0, 1) := by decide +kernel
theorem dX11_fault_29 : decode cX11_fault 29 = .ok (.getfield 27, 3) := by decide +kernel
theorem dX11_fault_32 : decode cX11_fault 32 = .ok (.getfield 65, 3) := by decide +kernel
theorem dX11_fault_35 : decode cX11_fault 35 = .ok (.ireturn, 1) := by decide +kernel
theorem dX11_fault_36 : decode cX11_fault 36 = .ok (.aload_n 0, 1) := by decide +kernel
theorem dX11_fault_37 : decode cX11_fault 37 = .ok (.getfield 27, 3) := by decide +kernel
theorem dX11_fault_40 : decode cX11_fault 40 = .ok (.getfield 68, 3) := by decide +kernel
theorem dX11_fault_43 : decode cX11_fault 43 = .ok (.ireturn, 1) := by decide +kernel
theorem dX11_fault_44 : decode cX11_fault 44 = .ok (.aload_n 0, 1) := by decide +kernel
theorem dX11_fault_45 : decode cX11_fault 45 = .ok (.getfield 27, 3) := by decide +kernel
theorem dX11_fault_48 : decode cX11_fault 48 = .ok (.getfield 71, 3) := by decide +kernel
theorem dX11_fault_51 : decode cX11_fault 51 = .ok (.ireturn, 1) := by decide +kernel
theorem dX11_fault_52 : decode cX11_fault 52 = .ok (.iconst (-1), 1) := by decide +kernel
theorem dX11_fault_53 : decode cX11_fault 53 = .ok (.ireturn, 1) := by decide +kernel
theorem dX11_look_0 : decode cX11_look 0 = .ok (.iload_n 1, 1) := by decide +kernel
theorem dX11_look_1 : decode cX11_look 1 = .ok (.tableswitch 75 0 4 #[35, 43, 51, 59, 67], 35) := by decide +kernel
theorem dX11_look_36 : decode cX11_look 36 = .ok (.aload_n 0, 1) := by decide +kernel
theorem dX11_look_37 : decode cX11_look 37 = .ok (.getfield 27, 3) := by decide +kernel
theorem dX11_look_40 : decode cX11_look 40 = .ok (.getfield 259, 3) := by decide +kernel
theorem dX11_look_43 : decode cX11_look 43 = .ok (.ireturn, 1) := by decide +kernel
theorem dX11_look_44 : decode cX11_look 44 = .ok (.aload_n 0, 1) := by decide +kernel
theorem dX11_look_45 : decode cX11_look 45 = .ok (.getfield 27, 3) := by decide +kernel
theorem dX11_look_48 : decode cX11_look 48 = .ok (.getfield 53, 3) := by decide +kernel
theorem dX11_look_51 : decode cX11_look 51 = .ok (.ireturn, 1) := by decide +kernel
theorem dX11_look_52 : decode cX11_look 52 = .ok (.aload_n 0, 1) := by decide +kernel
theorem dX11_look_53 : decode cX11_look 53 = .ok (.getfield 48, 3) := by decide +kernel
theorem dX11_look_56 : decode cX11_look 56 = .ok (.getfield 262, 3) := by decide +kernel
theorem dX11_look_59 : decode cX11_look 59 = .ok (.ireturn, 1) := by decide +kernel
theorem dX11_look_60 : decode cX11_look 60 = .ok (.aload_n 0, 1) := by decide +kernel
theorem dX11_look_61 : decode cX11_look 61 = .ok (.getfield 48, 3) := by decide +kernel
theorem dX11_look_64 : decode cX11_look 64 = .ok (.getfield 265, 3) := by decide +kernel
theorem dX11_look_67 : decode cX11_look 67 = .ok (.ireturn, 1) := by decide +kernel
theorem dX11_look_68 : decode cX11_look 68 = .ok (.aload_n 0, 1) := by decide +kernel
theorem dX11_look_69 : decode cX11_look 69 = .ok (.getfield 48, 3) := by decide +kernel
theorem dX11_look_72 : decode cX11_look 72 = .ok (.getfield 220, 3) := by decide +kernel
theorem dX11_look_75 : decode cX11_look 75 = .ok (.ireturn, 1) := by decide +kernel
theorem dX11_look_76 : decode cX11_look 76 = .ok (.iconst (-1), 1) := by decide +kernel
theorem dX11_look_77 : decode cX11_look 77 = .ok (.ireturn, 1) := by decide +kernel
theorem dX11_end_0 : decode cX11_end 0 = .ok (.iload_n 1, 1) := by decide +kernel
theorem dX11_end_1 : decode cX11_end 1 = .ok (.ifCond .lt 14, 3) := by decide +kernel
theorem dX11_end_4 : decode cX11_end 4 = .ok (.iload_n 1, 1) := by decide +kernel
theorem dX11_end_5 : decode cX11_end 5 = .ok (.aload_n 0, 1) := by decide +kernel
theorem dX11_end_6 : decode cX11_end 6 = .ok (.getfield 27, 3) := by decide +kernel
theorem dX11_end_9 : decode cX11_end 9 = .ok (.getfield 53, 3) := by decide +kernel
theorem dX11_end_12 : decode cX11_end 12 = .ok (.if_icmp .le 5, 3) := by decide +kernel
theorem dX11_end_15 : decode cX11_end 15 = .ok (.iconst 0, 1) := by decide +kernel
theorem dX11_end_16 : decode cX11_end 16 = .ok (.ireturn, 1) := by decide +kernel
theorem dX11_end_17 : decode cX11_end 17 = .ok (.aload_n 0, 1) := by decide +kernel
theorem dX11_end_18 : decode cX11_end 18 = .ok (.getfield 27, 3) := by decide +kernel
theorem dX11_end_21 : decode cX11_end 21 = .ok (.iload_n 1, 1) := by decide +kernel
theorem dX11_end_22 : decode cX11_end 22 = .ok (.putfield 53, 3) := by decide +kernel
theorem dX11_end_25 : decode cX11_end 25 = .ok (.iconst 1, 1) := by decide +kernel
theorem dX11_end_26 : decode cX11_end 26 = .ok (.ireturn, 1) := by decide +kernel
theorem dX4_sign_0 : decode cX4_sign 0 = .ok (.aload_n 0, 1) := by decide +kernel
theorem dX4_sign_1 : decode cX4_sign 1 = .ok (.getfield 62, 3) := by decide +kernel
theorem dX4_sign_4 : decode cX4_sign 4 = .ok (.aload_n 0, 1) := by decide +kernel
theorem dX4_sign_5 : decode cX4_sign 5 = .ok (.getfield 43, 3) := by decide +kernel
theorem dX4_sign_8 : decode cX4_sign 8 = .ok (.if_icmp .ge 44, 3) := by decide +kernel
theorem dX4_sign_52 : decode cX4_sign 52 = .ok (.aload_n 0, 1) := by decide +kernel
theorem dX4_sign_53 : decode cX4_sign 53 = .ok (.getfield 62, 3) := by decide +kernel
theorem dX4_sign_56 : decode cX4_sign 56 = .ok (.aload_n 0, 1) := by decide +kernel
theorem dX4_sign_57 : decode cX4_sign 57 = .ok (.getfield 43, 3) := by decide +kernel
theorem dX4_sign_60 : decode cX4_sign 60 = .ok (.if_icmp .ge 15, 3) := by decide +kernel
theorem dX4_sign_75 : decode cX4_sign 75 = .ok (.iconst (-1), 1) := by decide +kernel
theorem dX4_sign_76 : decode cX4_sign 76 = .ok (.ireturn, 1) := by decide +kernel
theorem dX4_letters_0 : decode cX4_letters 0 = .ok (.aload_n 0, 1) := by decide +kernel
theorem dX4_letters_1 : decode cX4_letters 1 = .ok (.invokevirtual 93, 3) := by decide +kernel
theorem dX4_letters_4 : decode cX4_letters 4 = .ok (.pop, 1) := by decide +kernel
theorem dX4_letters_5 : decode cX4_letters 5 = .ok (.iconst 0, 1) := by decide +kernel
theorem dX4_letters_6 : decode cX4_letters 6 = .ok (.istore_n 1, 1) := by decide +kernel
theorem dX4_letters_7 : decode cX4_letters 7 = .ok (.aload_n 0, 1) := by decide +kernel
theorem dX4_letters_8 : decode cX4_letters 8 = .ok (.getfield 62, 3) := by decide +kernel
theorem dX4_letters_11 : decode cX4_letters 11 = .ok (.iload_n 1, 1) := by decide +kernel
theorem dX4_letters_12 : decode cX4_letters 12 = .ok (.iadd, 1) := by decide +kernel
theorem dX4_letters_13 : decode cX4_letters 13 = .ok (.aload_n 0, 1) := by decide +kernel
theorem dX4_letters_14 : decode cX4_letters 14 = .ok (.getfield 43, 3) := by decide +kernel
theorem dX4_letters_17 : decode cX4_letters 17 = .ok (.if_icmp .ge 41, 3) := by decide +kernel
theorem dX4_letters_58 : decode cX4_letters 58 = .ok (.iload_n 1, 1) := by decide +kernel
theorem dX4_letters_59 : decode cX4_letters 59 = .ok (.ireturn, 1) := by decide +kernel
theorem dX4_refuse_0 : decode cX4_refuse 0 = .ok (.aload_n 0, 1) := by decide +kernel
theorem dX4_refuse_1 : decode cX4_refuse 1 = .ok (.getfield 68, 3) := by decide +kernel
theorem dX4_refuse_4 : decode cX4_refuse 4 = .ok (.ifCond .ne 13, 3) := by decide +kernel
theorem dX4_refuse_7 : decode cX4_refuse 7 = .ok (.aload_n 0, 1) := by decide +kernel
theorem dX4_refuse_8 : decode cX4_refuse 8 = .ok (.iload_n 1, 1) := by decide +kernel
theorem dX4_refuse_9 : decode cX4_refuse 9 = .ok (.putfield 68, 3) := by decide +kernel
theorem dX4_refuse_12 : decode cX4_refuse 12 = .ok (.aload_n 0, 1) := by decide +kernel
theorem dX4_refuse_13 : decode cX4_refuse 13 = .ok (.iload_n 2, 1) := by decide +kernel
theorem dX4_refuse_14 : decode cX4_refuse 14 = .ok (.putfield 17, 3) := by decide +kernel
theorem dX4_refuse_17 : decode cX4_refuse 17 = .ok (.return_, 1) := by decide +kernel
theorem dX4_takeName_0 : decode cX4_takeName 0 = .ok (.aload_n 0, 1) := by decide +kernel
theorem dX4_takeName_1 : decode cX4_takeName 1 = .ok (.invokevirtual 125, 3) := by decide +kernel
theorem dX4_takeName_4 : decode cX4_takeName 4 = .ok (.istore_n 1, 1) := by decide +kernel
theorem dX4_takeName_5 : decode cX4_takeName 5 = .ok (.iload_n 1, 1) := by decide +kernel
theorem dX4_takeName_6 : decode cX4_takeName 6 = .ok (.ifCond .eq 16, 3) := by decide +kernel
theorem dX4_takeName_22 : decode cX4_takeName 22 = .ok (.aload_n 0, 1) := by decide +kernel
theorem dX4_takeName_23 : decode cX4_takeName 23 = .ok (.iconst 1, 1) := by decide +kernel
theorem dX4_takeName_24 : decode cX4_takeName 24 = .ok (.aload_n 0, 1) := by decide +kernel
theorem dX4_takeName_25 : decode cX4_takeName 25 = .ok (.getfield 62, 3) := by decide +kernel
theorem dX4_takeName_28 : decode cX4_takeName 28 = .ok (.invokevirtual 97, 3) := by decide +kernel
theorem dX4_takeName_31 : decode cX4_takeName 31 = .ok (.lconst 0, 1) := by decide +kernel
theorem dX4_takeName_32 : decode cX4_takeName 32 = .ok (.lreturn, 1) := by decide +kernel
theorem dX4_ownName_0 : decode cX4_ownName 0 = .ok (.aload_n 0, 1) := by decide +kernel
theorem dX4_ownName_1 : decode cX4_ownName 1 = .ok (.invokevirtual 93, 3) := by decide +kernel
theorem dX4_ownName_4 : decode cX4_ownName 4 = .ok (.pop, 1) := by decide +kernel
theorem dX4_ownName_5 : decode cX4_ownName 5 = .ok (.aload_n 0, 1) := by decide +kernel
theorem dX4_ownName_6 : decode cX4_ownName 6 = .ok (.getfield 62, 3) := by decide +kernel
theorem dX4_ownName_9 : decode cX4_ownName 9 = .ok (.istore_n 1, 1) := by decide +kernel
theorem dX4_ownName_10 : decode cX4_ownName 10 = .ok (.aload_n 0, 1) := by decide +kernel
theorem dX4_ownName_11 : decode cX4_ownName 11 = .ok (.invokevirtual 156, 3) := by decide +kernel
theorem dX4_ownName_14 : decode cX4_ownName 14 = .ok (.lstore_n 2, 1) := by decide +kernel
theorem dX4_ownName_15 : decode cX4_ownName 15 = .ok (.lload_n 2, 1) := by decide +kernel
theorem dX4_ownName_16 : decode cX4_ownName 16 = .ok (.lconst 0, 1) := by decide +kernel
theorem dX4_ownName_17 : decode cX4_ownName 17 = .ok (.lcmp, 1) := by decide +kernel
theorem dX4_ownName_18 : decode cX4_ownName 18 = .ok (.ifCond .ne 5, 3) := by decide +kernel
theorem dX4_ownName_21 : decode cX4_ownName 21 = .ok (.lconst 0, 1) := by decide +kernel
theorem dX4_ownName_22 : decode cX4_ownName 22 = .ok (.lreturn, 1) := by decide +kernel
theorem dX4_readDefinition_0 : decode cX4_readDefinition 0 = .ok (.aload_n 0, 1) := by decide +kernel
theorem dX4_readDefinition_1 : decode cX4_readDefinition 1 = .ok (.iconst 0, 1) := by decide +kernel
theorem dX4_readDefinition_2 : decode cX4_readDefinition 2 = .ok (.putfield 62, 3) := by decide +kernel
theorem dX4_readDefinition_5 : decode cX4_readDefinition 5 = .ok (.aload_n 0, 1) := by decide +kernel
theorem dX4_readDefinition_6 : decode cX4_readDefinition 6 = .ok (.iconst 0, 1) := by decide +kernel
theorem dX4_readDefinition_7 : decode cX4_readDefinition 7 = .ok (.putfield 65, 3) := by decide +kernel
theorem dX4_readDefinition_10 : decode cX4_readDefinition 10 = .ok (.aload_n 0, 1) := by decide +kernel
theorem dX4_readDefinition_11 : decode cX4_readDefinition 11 = .ok (.iconst 0, 1) := by decide +kernel
theorem dX4_readDefinition_12 : decode cX4_readDefinition 12 = .ok (.putfield 68, 3) := by decide +kernel
theorem dX4_readDefinition_15 : decode cX4_readDefinition 15 = .ok (.aload_n 0, 1) := by decide +kernel
theorem dX4_readDefinition_16 : decode cX4_readDefinition 16 = .ok (.iconst (-1), 1) := by decide +kernel
theorem dX4_readDefinition_17 : decode cX4_readDefinition 17 = .ok (.putfield 17, 3) := by decide +kernel
theorem dX4_readDefinition_20 : decode cX4_readDefinition 20 = .ok (.aload_n 0, 1) := by decide +kernel
theorem dX4_readDefinition_21 : decode cX4_readDefinition 21 = .ok (.iconst (-1), 1) := by decide +kernel
theorem dX4_readDefinition_22 : decode cX4_readDefinition 22 = .ok (.putfield 21, 3) := by decide +kernel
theorem dX4_readDefinition_25 : decode cX4_readDefinition 25 = .ok (.aload_n 0, 1) := by decide +kernel
theorem dX4_readDefinition_26 : decode cX4_readDefinition 26 = .ok (.invokevirtual 71, 3) := by decide +kernel
theorem dX4_readDefinition_29 : decode cX4_readDefinition 29 = .ok (.lstore_n 1, 1) := by decide +kernel
theorem dX4_readDefinition_30 : decode cX4_readDefinition 30 = .ok (.lload_n 1, 1) := by decide +kernel
theorem dX4_readDefinition_31 : decode cX4_readDefinition 31 = .ok (.lconst 0, 1) := by decide +kernel
theorem dX4_readDefinition_32 : decode cX4_readDefinition 32 = .ok (.lcmp, 1) := by decide +kernel
theorem dX4_readDefinition_33 : decode cX4_readDefinition 33 = .ok (.ifCond .eq 12, 3) := by decide +kernel
theorem dX4_readDefinition_45 : decode cX4_readDefinition 45 = .ok (.iconst (-1), 1) := by decide +kernel
theorem dX4_readDefinition_46 : decode cX4_readDefinition 46 = .ok (.ireturn, 1) := by decide +kernel
theorem dX11_lens_0 : decode cX11_lens 0 = .ok (.aload_n 0, 1) := by decide +kernel
theorem dX11_lens_1 : decode cX11_lens 1 = .ok (.getfield 27, 3) := by decide +kernel
theorem dX11_lens_4 : decode cX11_lens 4 = .ok (.invokevirtual 61, 3) := by decide +kernel
theorem dX11_lens_7 : decode cX11_lens 7 = .ok (.istore_n 1, 1) := by decide +kernel
theorem dX11_lens_8 : decode cX11_lens 8 = .ok (.aload_n 0, 1) := by decide +kernel
theorem dX11_lens_9 : decode cX11_lens 9 = .ok (.getfield 27, 3) := by decide +kernel
theorem dX11_lens_12 : decode cX11_lens 12 = .ok (.iconst 0, 1) := by decide +kernel
theorem dX11_lens_13 : decode cX11_lens 13 = .ok (.putfield 53, 3) := by decide +kernel
theorem dX11_lens_16 : decode cX11_lens 16 = .ok (.iload_n 1, 1) := by decide +kernel
theorem dX11_lens_17 : decode cX11_lens 17 = .ok (.ireturn, 1) := by decide +kernel
theorem dX4_take_0 : decode cX4_take 0 = .ok (.bipush 24, 2) := by decide +kernel
theorem dX4_take_2 : decode cX4_take 2 = .ok (.istore_n 2, 1) := by decide +kernel
theorem dX4_take_3 : decode cX4_take 3 = .ok (.iload_n 2, 1) := by decide +kernel
theorem dX4_take_4 : decode cX4_take 4 = .ok (.ifCond .lt 45, 3) := by decide +kernel
theorem dX4_take_7 : decode cX4_take 7 = .ok (.aload_n 0, 1) := by decide +kernel
theorem dX4_take_8 : decode cX4_take 8 = .ok (.getfield 43, 3) := by decide +kernel
theorem dX4_take_11 : decode cX4_take 11 = .ok (.sipush 600, 3) := by decide +kernel
theorem dX4_take_14 : decode cX4_take 14 = .ok (.if_icmp .ge 35, 3) := by decide +kernel
theorem dX4_take_17 : decode cX4_take 17 = .ok (.aload_n 0, 1) := by decide +kernel
theorem dX4_take_18 : decode cX4_take 18 = .ok (.getfield 24, 3) := by decide +kernel
theorem dX4_take_21 : decode cX4_take 21 = .ok (.aload_n 0, 1) := by decide +kernel
theorem dX4_take_22 : decode cX4_take 22 = .ok (.getfield 43, 3) := by decide +kernel
theorem dX4_take_25 : decode cX4_take 25 = .ok (.iload_n 1, 1) := by decide +kernel
theorem dX4_take_26 : decode cX4_take 26 = .ok (.iload_n 2, 1) := by decide +kernel
theorem dX4_take_27 : decode cX4_take 27 = .ok (.iushr, 1) := by decide +kernel
theorem dX4_take_28 : decode cX4_take 28 = .ok (.sipush 255, 3) := by decide +kernel
theorem dX4_take_31 : decode cX4_take 31 = .ok (.iand, 1) := by decide +kernel
theorem dX4_take_32 : decode cX4_take 32 = .ok (.iastore, 1) := by decide +kernel
theorem dX4_take_33 : decode cX4_take 33 = .ok (.aload_n 0, 1) := by decide +kernel
theorem dX4_take_34 : decode cX4_take 34 = .ok (.dup, 1) := by decide +kernel
theorem dX4_take_35 : decode cX4_take 35 = .ok (.getfield 43, 3) := by decide +kernel
theorem dX4_take_38 : decode cX4_take 38 = .ok (.iconst 1, 1) := by decide +kernel
theorem dX4_take_39 : decode cX4_take 39 = .ok (.iadd, 1) := by decide +kernel
theorem dX4_take_40 : decode cX4_take 40 = .ok (.putfield 43, 3) := by decide +kernel
theorem dX4_take_43 : decode cX4_take 43 = .ok (.iinc 2 (-8), 3) := by decide +kernel
theorem dX4_take_46 : decode cX4_take 46 = .ok (.goto (-43), 3) := by decide +kernel
theorem dX4_take_49 : decode cX4_take 49 = .ok (.return_, 1) := by decide +kernel
theorem dX11_feed_0 : decode cX11_feed 0 = .ok (.aload_n 0, 1) := by decide +kernel
theorem dX11_feed_1 : decode cX11_feed 1 = .ok (.getfield 27, 3) := by decide +kernel
theorem dX11_feed_4 : decode cX11_feed 4 = .ok (.getfield 53, 3) := by decide +kernel
theorem dX11_feed_7 : decode cX11_feed 7 = .ok (.bipush 20, 2) := by decide +kernel
theorem dX11_feed_9 : decode cX11_feed 9 = .ok (.iadd, 1) := by decide +kernel
theorem dX11_feed_10 : decode cX11_feed 10 = .ok (.sipush 600, 3) := by decide +kernel
theorem dX11_feed_13 : decode cX11_feed 13 = .ok (.if_icmp .le 5, 3) := by decide +kernel
theorem dX11_feed_18 : decode cX11_feed 18 = .ok (.aload_n 0, 1) := by decide +kernel
theorem dX11_feed_19 : decode cX11_feed 19 = .ok (.getfield 27, 3) := by decide +kernel
theorem dX11_feed_22 : decode cX11_feed 22 = .ok (.iload_n 1, 1) := by decide +kernel
theorem dX11_feed_23 : decode cX11_feed 23 = .ok (.invokevirtual 57, 3) := by decide +kernel
theorem dX11_feed_26 : decode cX11_feed 26 = .ok (.aload_n 0, 1) := by decide +kernel
theorem dX11_feed_27 : decode cX11_feed 27 = .ok (.getfield 27, 3) := by decide +kernel
theorem dX11_feed_30 : decode cX11_feed 30 = .ok (.iload_n 2, 1) := by decide +kernel
theorem dX11_feed_31 : decode cX11_feed 31 = .ok (.invokevirtual 57, 3) := by decide +kernel
theorem dX11_feed_34 : decode cX11_feed 34 = .ok (.aload_n 0, 1) := by decide +kernel
theorem dX11_feed_35 : decode cX11_feed 35 = .ok (.getfield 27, 3) := by decide +kernel
theorem dX11_feed_38 : decode cX11_feed 38 = .ok (.iload_n 3, 1) := by decide +kernel
theorem dX11_feed_39 : decode cX11_feed 39 = .ok (.invokevirtual 57, 3) := by decide +kernel
theorem dX11_feed_42 : decode cX11_feed 42 = .ok (.aload_n 0, 1) := by decide +kernel
theorem dX11_feed_43 : decode cX11_feed 43 = .ok (.getfield 27, 3) := by decide +kernel
theorem dX11_feed_46 : decode cX11_feed 46 = .ok (.iload 4, 2) := by decide +kernel
theorem dX11_feed_48 : decode cX11_feed 48 = .ok (.invokevirtual 57, 3) := by decide +kernel
theorem dX11_feed_51 : decode cX11_feed 51 = .ok (.aload_n 0, 1) := by decide +kernel
theorem dX11_feed_52 : decode cX11_feed 52 = .ok (.getfield 27, 3) := by decide +kernel
theorem dX11_feed_55 : decode cX11_feed 55 = .ok (.iload 5, 2) := by decide +kernel
theorem dX11_feed_57 : decode cX11_feed 57 = .ok (.invokevirtual 57, 3) := by decide +kernel
theorem dX11_feed_60 : decode cX11_feed 60 = .ok (.aload_n 0, 1) := by decide +kernel
theorem dX11_feed_61 : decode cX11_feed 61 = .ok (.getfield 27, 3) := by decide +kernel
theorem dX11_feed_64 : decode cX11_feed 64 = .ok (.getfield 53, 3) := by decide +kernel
theorem dX11_feed_67 : decode cX11_feed 67 = .ok (.ireturn, 1) := by decide +kernel
theorem dX4_isText_0 : decode cX4_isText 0 = .ok (.aload_n 0, 1) := by decide +kernel
theorem dX4_isText_1 : decode cX4_isText 1 = .ok (.getfield 43, 3) := by decide +kernel
theorem dX4_isText_4 : decode cX4_isText 4 = .ok (.bipush 60, 2) := by decide +kernel
theorem dX4_isText_6 : decode cX4_isText 6 = .ok (.if_icmp .gt 7, 3) := by decide +kernel
theorem dX4_isText_9 : decode cX4_isText 9 = .ok (.iconst 1, 1) := by decide +kernel
theorem dX4_isText_10 : decode cX4_isText 10 = .ok (.goto 4, 3) := by decide +kernel
theorem dX4_isText_14 : decode cX4_isText 14 = .ok (.istore_n 1, 1) := by decide +kernel
theorem dX4_isText_15 : decode cX4_isText 15 = .ok (.iconst 0, 1) := by decide +kernel
theorem dX4_isText_16 : decode cX4_isText 16 = .ok (.istore_n 2, 1) := by decide +kernel
theorem dX4_isText_17 : decode cX4_isText 17 = .ok (.iload_n 2, 1) := by decide +kernel
theorem dX4_isText_18 : decode cX4_isText 18 = .ok (.aload_n 0, 1) := by decide +kernel
theorem dX4_isText_19 : decode cX4_isText 19 = .ok (.getfield 43, 3) := by decide +kernel
theorem dX4_isText_22 : decode cX4_isText 22 = .ok (.if_icmp .ge 32, 3) := by decide +kernel
theorem dX4_isText_54 : decode cX4_isText 54 = .ok (.iload_n 1, 1) := by decide +kernel
theorem dX4_isText_55 : decode cX4_isText 55 = .ok (.ireturn, 1) := by decide +kernel
theorem dX4_spellInto_0 : decode cX4_spellInto 0 = .ok (.aload_n 1, 1) := by decide +kernel
theorem dX4_spellInto_1 : decode cX4_spellInto 1 = .ok (.aload_n 0, 1) := by decide +kernel
theorem dX4_spellInto_2 : decode cX4_spellInto 2 = .ok (.getfield 43, 3) := by decide +kernel
theorem dX4_spellInto_5 : decode cX4_spellInto 5 = .ok (.bipush 60, 2) := by decide +kernel
theorem dX4_spellInto_7 : decode cX4_spellInto 7 = .ok (.invokestatic 50, 3) := by decide +kernel
theorem dX4_spellInto_10 : decode cX4_spellInto 10 = .ok (.putfield 56, 3) := by decide +kernel
theorem dX4_spellInto_13 : decode cX4_spellInto 13 = .ok (.iconst 0, 1) := by decide +kernel
theorem dX4_spellInto_14 : decode cX4_spellInto 14 = .ok (.istore_n 2, 1) := by decide +kernel
theorem dX4_spellInto_15 : decode cX4_spellInto 15 = .ok (.iload_n 2, 1) := by decide +kernel
theorem dX4_spellInto_16 : decode cX4_spellInto 16 = .ok (.aload_n 1, 1) := by decide +kernel
theorem dX4_spellInto_17 : decode cX4_spellInto 17 = .ok (.getfield 56, 3) := by decide +kernel
theorem dX4_spellInto_20 : decode cX4_spellInto 20 = .ok (.if_icmp .ge 25, 3) := by decide +kernel
theorem dX4_spellInto_45 : decode cX4_spellInto 45 = .ok (.return_, 1) := by decide +kernel
theorem dX6_reaches_0 : decode cX6_reaches 0 = .ok (.iload_n 1, 1) := by decide +kernel
theorem dX6_reaches_1 : decode cX6_reaches 1 = .ok (.ifCond .lt 29, 3) := by decide +kernel
theorem dX6_reaches_4 : decode cX6_reaches 4 = .ok (.iload_n 2, 1) := by decide +kernel
theorem dX6_reaches_5 : decode cX6_reaches 5 = .ok (.ifCond .lt 25, 3) := by decide +kernel
theorem dX6_reaches_8 : decode cX6_reaches 8 = .ok (.iload_n 1, 1) := by decide +kernel
theorem dX6_reaches_9 : decode cX6_reaches 9 = .ok (.aload_n 0, 1) := by decide +kernel
theorem dX6_reaches_10 : decode cX6_reaches 10 = .ok (.getfield 21, 3) := by decide +kernel
theorem dX6_reaches_13 : decode cX6_reaches 13 = .ok (.if_icmp .gt 17, 3) := by decide +kernel
theorem dX6_reaches_16 : decode cX6_reaches 16 = .ok (.iload_n 2, 1) := by decide +kernel
theorem dX6_reaches_17 : decode cX6_reaches 17 = .ok (.aload_n 0, 1) := by decide +kernel
theorem dX6_reaches_18 : decode cX6_reaches 18 = .ok (.getfield 21, 3) := by decide +kernel
theorem dX6_reaches_21 : decode cX6_reaches 21 = .ok (.iload_n 1, 1) := by decide +kernel
theorem dX6_reaches_22 : decode cX6_reaches 22 = .ok (.isub, 1) := by decide +kernel
theorem dX6_reaches_23 : decode cX6_reaches 23 = .ok (.if_icmp .gt 7, 3) := by decide +kernel
theorem dX6_reaches_26 : decode cX6_reaches 26 = .ok (.iconst 1, 1) := by decide +kernel
theorem dX6_reaches_27 : decode cX6_reaches 27 = .ok (.goto 4, 3) := by decide +kernel
theorem dX6_reaches_30 : decode cX6_reaches 30 = .ok (.iconst 0, 1) := by decide +kernel
theorem dX6_reaches_31 : decode cX6_reaches 31 = .ok (.ireturn, 1) := by decide +kernel
theorem dX6_fill_0 : decode cX6_fill 0 = .ok (.iload_n 2, 1) := by decide +kernel
theorem dX6_fill_1 : decode cX6_fill 1 = .ok (.ifCond .lt 37, 3) := by decide +kernel
theorem dX6_fill_4 : decode cX6_fill 4 = .ok (.iload_n 3, 1) := by decide +kernel
theorem dX6_fill_5 : decode cX6_fill 5 = .ok (.ifCond .lt 33, 3) := by decide +kernel
theorem dX6_fill_8 : decode cX6_fill 8 = .ok (.iload_n 3, 1) := by decide +kernel
theorem dX6_fill_9 : decode cX6_fill 9 = .ok (.bipush 60, 2) := by decide +kernel
theorem dX6_fill_11 : decode cX6_fill 11 = .ok (.if_icmp .gt 27, 3) := by decide +kernel
theorem dX6_fill_14 : decode cX6_fill 14 = .ok (.iload_n 2, 1) := by decide +kernel
theorem dX6_fill_15 : decode cX6_fill 15 = .ok (.aload_n 1, 1) := by decide +kernel
theorem dX6_fill_16 : decode cX6_fill 16 = .ok (.arraylength, 1) := by decide +kernel
theorem dX6_fill_17 : decode cX6_fill 17 = .ok (.iload_n 3, 1) := by decide +kernel
theorem dX6_fill_18 : decode cX6_fill 18 = .ok (.isub, 1) := by decide +kernel
theorem dX6_fill_19 : decode cX6_fill 19 = .ok (.if_icmp .gt 19, 3) := by decide +kernel
theorem dX6_fill_22 : decode cX6_fill 22 = .ok (.aload_n 1, 1) := by decide +kernel
theorem dX6_fill_23 : decode cX6_fill 23 = .ok (.iload_n 2, 1) := by decide +kernel
theorem dX6_fill_24 : decode cX6_fill 24 = .ok (.aload_n 0, 1) := by decide +kernel
theorem dX6_fill_25 : decode cX6_fill 25 = .ok (.getfield 9, 3) := by decide +kernel
theorem dX6_fill_28 : decode cX6_fill 28 = .ok (.iconst 0, 1) := by decide +kernel
theorem dX6_fill_29 : decode cX6_fill 29 = .ok (.iload_n 3, 1) := by decide +kernel
theorem dX6_fill_30 : decode cX6_fill 30 = .ok (.invokestatic 15, 3) := by decide +kernel
theorem dX6_fill_33 : decode cX6_fill 33 = .ok (.aload_n 0, 1) := by decide +kernel
theorem dX6_fill_34 : decode cX6_fill 34 = .ok (.iload_n 3, 1) := by decide +kernel
theorem dX6_fill_35 : decode cX6_fill 35 = .ok (.putfield 21, 3) := by decide +kernel
theorem dX6_fill_38 : decode cX6_fill 38 = .ok (.return_, 1) := by decide +kernel
theorem dX6_become_0 : decode cX6_become 0 = .ok (.aload_n 0, 1) := by decide +kernel
theorem dX6_become_1 : decode cX6_become 1 = .ok (.aload_n 1, 1) := by decide +kernel
theorem dX6_become_2 : decode cX6_become 2 = .ok (.getfield 9, 3) := by decide +kernel
theorem dX6_become_5 : decode cX6_become 5 = .ok (.iconst 0, 1) := by decide +kernel
theorem dX6_become_6 : decode cX6_become 6 = .ok (.aload_n 1, 1) := by decide +kernel
theorem dX6_become_7 : decode cX6_become 7 = .ok (.getfield 21, 3) := by decide +kernel
theorem dX6_become_10 : decode cX6_become 10 = .ok (.invokevirtual 25, 3) := by decide +kernel
theorem dX6_become_13 : decode cX6_become 13 = .ok (.return_, 1) := by decide +kernel
theorem dX6_splice_0 : decode cX6_splice 0 = .ok (.aload_n 1, 1) := by decide +kernel
theorem dX6_splice_1 : decode cX6_splice 1 = .ok (.iload_n 2, 1) := by decide +kernel
theorem dX6_splice_2 : decode cX6_splice 2 = .ok (.iload_n 3, 1) := by decide +kernel
theorem dX6_splice_3 : decode cX6_splice 3 = .ok (.invokevirtual 29, 3) := by decide +kernel
theorem dX6_splice_6 : decode cX6_splice 6 = .ok (.ifCond .eq 20, 3) := by decide +kernel
theorem dX6_splice_9 : decode cX6_splice 9 = .ok (.aload_n 1, 1) := by decide +kernel
theorem dX6_splice_10 : decode cX6_splice 10 = .ok (.getfield 21, 3) := by decide +kernel
theorem dX6_splice_13 : decode cX6_splice 13 = .ok (.iload_n 3, 1) := by decide +kernel
theorem dX6_splice_14 : decode cX6_splice 14 = .ok (.isub, 1) := by decide +kernel
theorem dX6_splice_15 : decode cX6_splice 15 = .ok (.aload 4, 2) := by decide +kernel
theorem dX6_splice_17 : decode cX6_splice 17 = .ok (.getfield 21, 3) := by decide +kernel
theorem dX6_splice_20 : decode cX6_splice 20 = .ok (.iadd, 1) := by decide +kernel
theorem dX6_splice_21 : decode cX6_splice 21 = .ok (.bipush 60, 2) := by decide +kernel
theorem dX6_splice_23 : decode cX6_splice 23 = .ok (.if_icmp .le 5, 3) := by decide +kernel
theorem dX6_splice_28 : decode cX6_splice 28 = .ok (.iload_n 2, 1) := by decide +kernel
theorem dX6_splice_29 : decode cX6_splice 29 = .ok (.iload_n 3, 1) := by decide +kernel
theorem dX6_splice_30 : decode cX6_splice 30 = .ok (.iadd, 1) := by decide +kernel
theorem dX6_splice_31 : decode cX6_splice 31 = .ok (.istore 5, 2) := by decide +kernel
theorem dX6_splice_33 : decode cX6_splice 33 = .ok (.aload_n 1, 1) := by decide +kernel
theorem dX6_splice_34 : decode cX6_splice 34 = .ok (.getfield 9, 3) := by decide +kernel
theorem dX6_splice_37 : decode cX6_splice 37 = .ok (.iconst 0, 1) := by decide +kernel
theorem dX6_splice_38 : decode cX6_splice 38 = .ok (.aload_n 0, 1) := by decide +kernel
theorem dX6_splice_39 : decode cX6_splice 39 = .ok (.getfield 9, 3) := by decide +kernel
theorem dX6_splice_42 : decode cX6_splice 42 = .ok (.iconst 0, 1) := by decide +kernel
theorem dX6_splice_43 : decode cX6_splice 43 = .ok (.iload_n 2, 1) := by decide +kernel
theorem dX6_splice_44 : decode cX6_splice 44 = .ok (.invokestatic 15, 3) := by decide +kernel
theorem dX6_splice_47 : decode cX6_splice 47 = .ok (.aload 4, 2) := by decide +kernel
theorem dX6_splice_49 : decode cX6_splice 49 = .ok (.getfield 9, 3) := by decide +kernel
theorem dX6_splice_52 : decode cX6_splice 52 = .ok (.iconst 0, 1) := by decide +kernel
theorem dX6_splice_53 : decode cX6_splice 53 = .ok (.aload_n 0, 1) := by decide +kernel
theorem dX6_splice_54 : decode cX6_splice 54 = .ok (.getfield 9, 3) := by decide +kernel
theorem dX6_splice_57 : decode cX6_splice 57 = .ok (.iload_n 2, 1) := by decide +kernel
theorem dX6_splice_58 : decode cX6_splice 58 = .ok (.aload 4, 2) := by decide +kernel
theorem dX6_splice_60 : decode cX6_splice 60 = .ok (.getfield 21, 3) := by decide +kernel
theorem dX6_splice_63 : decode cX6_splice 63 = .ok (.invokestatic 15, 3) := by decide +kernel
theorem dX6_splice_66 : decode cX6_splice 66 = .ok (.aload_n 1, 1) := by decide +kernel
theorem dX6_splice_67 : decode cX6_splice 67 = .ok (.getfield 9, 3) := by decide +kernel
theorem dX6_splice_70 : decode cX6_splice 70 = .ok (.iload 5, 2) := by decide +kernel
theorem dX6_splice_72 : decode cX6_splice 72 = .ok (.aload_n 0, 1) := by decide +kernel
theorem dX6_splice_73 : decode cX6_splice 73 = .ok (.getfield 9, 3) := by decide +kernel
theorem dX6_splice_76 : decode cX6_splice 76 = .ok (.iload_n 2, 1) := by decide +kernel
theorem dX6_splice_77 : decode cX6_splice 77 = .ok (.aload 4, 2) := by decide +kernel
theorem dX6_splice_79 : decode cX6_splice 79 = .ok (.getfield 21, 3) := by decide +kernel
theorem dX6_splice_82 : decode cX6_splice 82 = .ok (.iadd, 1) := by decide +kernel
theorem dX6_splice_83 : decode cX6_splice 83 = .ok (.aload_n 1, 1) := by decide +kernel
theorem dX6_splice_84 : decode cX6_splice 84 = .ok (.getfield 21, 3) := by decide +kernel
theorem dX6_splice_87 : decode cX6_splice 87 = .ok (.iload 5, 2) := by decide +kernel
theorem dX6_splice_89 : decode cX6_splice 89 = .ok (.isub, 1) := by decide +kernel
theorem dX6_splice_90 : decode cX6_splice 90 = .ok (.invokestatic 15, 3) := by decide +kernel
theorem dX6_splice_93 : decode cX6_splice 93 = .ok (.aload_n 0, 1) := by decide +kernel
theorem dX6_splice_94 : decode cX6_splice 94 = .ok (.aload_n 1, 1) := by decide +kernel
theorem dX6_splice_95 : decode cX6_splice 95 = .ok (.getfield 21, 3) := by decide +kernel
theorem dX6_splice_98 : decode cX6_splice 98 = .ok (.iload_n 3, 1) := by decide +kernel
theorem dX6_splice_99 : decode cX6_splice 99 = .ok (.isub, 1) := by decide +kernel
theorem dX6_splice_100 : decode cX6_splice 100 = .ok (.aload 4, 2) := by decide +kernel
theorem dX6_splice_102 : decode cX6_splice 102 = .ok (.getfield 21, 3) := by decide +kernel
theorem dX6_splice_105 : decode cX6_splice 105 = .ok (.iadd, 1) := by decide +kernel
theorem dX6_splice_106 : decode cX6_splice 106 = .ok (.putfield 21, 3) := by decide +kernel
theorem dX6_splice_109 : decode cX6_splice 109 = .ok (.iconst 1, 1) := by decide +kernel
theorem dX6_splice_110 : decode cX6_splice 110 = .ok (.ireturn, 1) := by decide +kernel
theorem dX11_text_0 : decode cX11_text 0 = .ok (.aload_n 0, 1) := by decide +kernel
theorem dX11_text_1 : decode cX11_text 1 = .ok (.iload_n 1, 1) := by decide +kernel
theorem dX11_text_2 : decode cX11_text 2 = .ok (.invokevirtual 74, 3) := by decide +kernel
theorem dX11_text_5 : decode cX11_text 5 = .ok (.astore_n 2, 1) := by decide +kernel
theorem dX11_text_6 : decode cX11_text 6 = .ok (.aload_n 2, 1) := by decide +kernel
theorem dX11_text_7 : decode cX11_text 7 = .ok (.ifnull 17, 3) := by decide +kernel
theorem dX11_text_10 : decode cX11_text 10 = .ok (.aload_n 0, 1) := by decide +kernel
theorem dX11_text_11 : decode cX11_text 11 = .ok (.getfield 27, 3) := by decide +kernel
theorem dX11_text_14 : decode cX11_text 14 = .ok (.invokevirtual 78, 3) := by decide +kernel
theorem dX11_text_17 : decode cX11_text 17 = .ok (.ifCond .eq 7, 3) := by decide +kernel
theorem dX11_text_20 : decode cX11_text 20 = .ok (.iconst 1, 1) := by decide +kernel
theorem dX11_text_21 : decode cX11_text 21 = .ok (.goto 4, 3) := by decide +kernel
theorem dX11_text_24 : decode cX11_text 24 = .ok (.iconst 0, 1) := by decide +kernel
theorem dX11_text_25 : decode cX11_text 25 = .ok (.istore_n 3, 1) := by decide +kernel
theorem dX11_text_26 : decode cX11_text 26 = .ok (.iload_n 3, 1) := by decide +kernel
theorem dX11_text_27 : decode cX11_text 27 = .ok (.ifCond .eq 11, 3) := by decide +kernel
theorem dX11_text_30 : decode cX11_text 30 = .ok (.aload_n 0, 1) := by decide +kernel
theorem dX11_text_31 : decode cX11_text 31 = .ok (.getfield 27, 3) := by decide +kernel
theorem dX11_text_34 : decode cX11_text 34 = .ok (.aload_n 2, 1) := by decide +kernel
theorem dX11_text_35 : decode cX11_text 35 = .ok (.invokevirtual 82, 3) := by decide +kernel
theorem dX11_text_38 : decode cX11_text 38 = .ok (.aload_n 0, 1) := by decide +kernel
theorem dX11_text_39 : decode cX11_text 39 = .ok (.getfield 27, 3) := by decide +kernel
theorem dX11_text_42 : decode cX11_text 42 = .ok (.iconst 0, 1) := by decide +kernel
theorem dX11_text_43 : decode cX11_text 43 = .ok (.putfield 53, 3) := by decide +kernel
theorem dX11_text_46 : decode cX11_text 46 = .ok (.iload_n 3, 1) := by decide +kernel
theorem dX11_text_47 : decode cX11_text 47 = .ok (.ifCond .eq 10, 3) := by decide +kernel
theorem dX11_text_50 : decode cX11_text 50 = .ok (.aload_n 2, 1) := by decide +kernel
theorem dX11_text_51 : decode cX11_text 51 = .ok (.getfield 86, 3) := by decide +kernel
theorem dX11_text_54 : decode cX11_text 54 = .ok (.goto 4, 3) := by decide +kernel
theorem dX11_text_57 : decode cX11_text 57 = .ok (.iconst (-1), 1) := by decide +kernel
theorem dX11_text_58 : decode cX11_text 58 = .ok (.ireturn, 1) := by decide +kernel
theorem dX11_symbol_0 : decode cX11_symbol 0 = .ok (.aload_n 0, 1) := by decide +kernel
theorem dX11_symbol_1 : decode cX11_symbol 1 = .ok (.iload_n 1, 1) := by decide +kernel
theorem dX11_symbol_2 : decode cX11_symbol 2 = .ok (.invokevirtual 74, 3) := by decide +kernel
theorem dX11_symbol_5 : decode cX11_symbol 5 = .ok (.astore_n 3, 1) := by decide +kernel
theorem dX11_symbol_6 : decode cX11_symbol 6 = .ok (.aload_n 3, 1) := by decide +kernel
theorem dX11_symbol_7 : decode cX11_symbol 7 = .ok (.ifnonnull 5, 3) := by decide +kernel
theorem dX11_symbol_10 : decode cX11_symbol 10 = .ok (.iconst (-1), 1) := by decide +kernel
theorem dX11_symbol_11 : decode cX11_symbol 11 = .ok (.ireturn, 1) := by decide +kernel
theorem dX11_symbol_12 : decode cX11_symbol 12 = .ok (.iload_n 2, 1) := by decide +kernel
theorem dX11_symbol_13 : decode cX11_symbol 13 = .ok (.iconst (-1), 1) := by decide +kernel
theorem dX11_symbol_14 : decode cX11_symbol 14 = .ok (.if_icmp .ne 8, 3) := by decide +kernel
theorem dX11_symbol_17 : decode cX11_symbol 17 = .ok (.aload_n 3, 1) := by decide +kernel
theorem dX11_symbol_18 : decode cX11_symbol 18 = .ok (.getfield 86, 3) := by decide +kernel
theorem dX11_symbol_21 : decode cX11_symbol 21 = .ok (.ireturn, 1) := by decide +kernel
theorem dX11_symbol_22 : decode cX11_symbol 22 = .ok (.iload_n 2, 1) := by decide +kernel
theorem dX11_symbol_23 : decode cX11_symbol 23 = .ok (.ifCond .lt 23, 3) := by decide +kernel
theorem dX11_symbol_26 : decode cX11_symbol 26 = .ok (.iload_n 2, 1) := by decide +kernel
theorem dX11_symbol_27 : decode cX11_symbol 27 = .ok (.aload_n 3, 1) := by decide +kernel
theorem dX11_symbol_28 : decode cX11_symbol 28 = .ok (.getfield 86, 3) := by decide +kernel
theorem dX11_symbol_31 : decode cX11_symbol 31 = .ok (.if_icmp .ge 15, 3) := by decide +kernel
theorem dX11_symbol_46 : decode cX11_symbol 46 = .ok (.iconst (-1), 1) := by decide +kernel
theorem dX11_symbol_47 : decode cX11_symbol 47 = .ok (.ireturn, 1) := by decide +kernel
theorem dX11_join_0 : decode cX11_join 0 = .ok (.aload_n 0, 1) := by decide +kernel
theorem dX11_join_1 : decode cX11_join 1 = .ok (.iload_n 1, 1) := by decide +kernel
theorem dX11_join_2 : decode cX11_join 2 = .ok (.invokevirtual 74, 3) := by decide +kernel
theorem dX11_join_5 : decode cX11_join 5 = .ok (.astore 4, 2) := by decide +kernel
theorem dX11_join_7 : decode cX11_join 7 = .ok (.aload_n 0, 1) := by decide +kernel
theorem dX11_join_8 : decode cX11_join 8 = .ok (.iload_n 2, 1) := by decide +kernel
theorem dX11_join_9 : decode cX11_join 9 = .ok (.invokevirtual 74, 3) := by decide +kernel
theorem dX11_join_12 : decode cX11_join 12 = .ok (.astore 5, 2) := by decide +kernel
theorem dX11_join_14 : decode cX11_join 14 = .ok (.aload_n 0, 1) := by decide +kernel
theorem dX11_join_15 : decode cX11_join 15 = .ok (.iload_n 3, 1) := by decide +kernel
theorem dX11_join_16 : decode cX11_join 16 = .ok (.invokevirtual 74, 3) := by decide +kernel
theorem dX11_join_19 : decode cX11_join 19 = .ok (.astore 6, 2) := by decide +kernel
theorem dX11_join_21 : decode cX11_join 21 = .ok (.aload 4, 2) := by decide +kernel
theorem dX11_join_23 : decode cX11_join 23 = .ok (.ifnull 36, 3) := by decide +kernel
theorem dX11_join_26 : decode cX11_join 26 = .ok (.aload 5, 2) := by decide +kernel
theorem dX11_join_28 : decode cX11_join 28 = .ok (.ifnull 31, 3) := by decide +kernel
theorem dX11_join_31 : decode cX11_join 31 = .ok (.aload 6, 2) := by decide +kernel
theorem dX11_join_33 : decode cX11_join 33 = .ok (.ifnull 26, 3) := by decide +kernel
theorem dX11_join_36 : decode cX11_join 36 = .ok (.aload_n 0, 1) := by decide +kernel
theorem dX11_join_37 : decode cX11_join 37 = .ok (.getfield 48, 3) := by decide +kernel
theorem dX11_join_40 : decode cX11_join 40 = .ok (.getfield 244, 3) := by decide +kernel
theorem dX11_join_43 : decode cX11_join 43 = .ok (.aload 4, 2) := by decide +kernel
theorem dX11_join_45 : decode cX11_join 45 = .ok (.aload 4, 2) := by decide +kernel
theorem dX11_join_47 : decode cX11_join 47 = .ok (.getfield 86, 3) := by decide +kernel
theorem dX11_join_50 : decode cX11_join 50 = .ok (.iconst 0, 1) := by decide +kernel
theorem dX11_join_51 : decode cX11_join 51 = .ok (.aload 5, 2) := by decide +kernel
theorem dX11_join_53 : decode cX11_join 53 = .ok (.invokevirtual 247, 3) := by decide +kernel
theorem dX11_join_56 : decode cX11_join 56 = .ok (.ifCond .ne 5, 3) := by decide +kernel
theorem dX11_join_59 : decode cX11_join 59 = .ok (.iconst (-1), 1) := by decide +kernel
theorem dX11_join_60 : decode cX11_join 60 = .ok (.ireturn, 1) := by decide +kernel
theorem dX11_join_61 : decode cX11_join 61 = .ok (.aload 6, 2) := by decide +kernel
theorem dX11_join_63 : decode cX11_join 63 = .ok (.aload_n 0, 1) := by decide +kernel
theorem dX11_join_64 : decode cX11_join 64 = .ok (.getfield 48, 3) := by decide +kernel
theorem dX11_join_67 : decode cX11_join 67 = .ok (.getfield 244, 3) := by decide +kernel
theorem dX11_join_70 : decode cX11_join 70 = .ok (.invokevirtual 229, 3) := by decide +kernel
theorem dX11_join_73 : decode cX11_join 73 = .ok (.aload 6, 2) := by decide +kernel
theorem dX11_join_75 : decode cX11_join 75 = .ok (.getfield 86, 3) := by decide +kernel
theorem dX11_join_78 : decode cX11_join 78 = .ok (.ireturn, 1) := by decide +kernel
theorem dX11_cut_0 : decode cX11_cut 0 = .ok (.aload_n 0, 1) := by decide +kernel
theorem dX11_cut_1 : decode cX11_cut 1 = .ok (.iload_n 1, 1) := by decide +kernel
theorem dX11_cut_2 : decode cX11_cut 2 = .ok (.invokevirtual 74, 3) := by decide +kernel
theorem dX11_cut_5 : decode cX11_cut 5 = .ok (.astore 5, 2) := by decide +kernel
theorem dX11_cut_7 : decode cX11_cut 7 = .ok (.aload_n 0, 1) := by decide +kernel
theorem dX11_cut_8 : decode cX11_cut 8 = .ok (.iload 4, 2) := by decide +kernel
theorem dX11_cut_10 : decode cX11_cut 10 = .ok (.invokevirtual 74, 3) := by decide +kernel
theorem dX11_cut_13 : decode cX11_cut 13 = .ok (.astore 6, 2) := by decide +kernel
theorem dX11_cut_15 : decode cX11_cut 15 = .ok (.aload 5, 2) := by decide +kernel
theorem dX11_cut_17 : decode cX11_cut 17 = .ok (.ifnull 18, 3) := by decide +kernel
theorem dX11_cut_20 : decode cX11_cut 20 = .ok (.aload 6, 2) := by decide +kernel
theorem dX11_cut_22 : decode cX11_cut 22 = .ok (.ifnull 13, 3) := by decide +kernel
theorem dX11_cut_25 : decode cX11_cut 25 = .ok (.aload 5, 2) := by decide +kernel
theorem dX11_cut_27 : decode cX11_cut 27 = .ok (.iload_n 2, 1) := by decide +kernel
theorem dX11_cut_28 : decode cX11_cut 28 = .ok (.iload_n 3, 1) := by decide +kernel
theorem dX11_cut_29 : decode cX11_cut 29 = .ok (.invokevirtual 251, 3) := by decide +kernel
theorem dX11_cut_32 : decode cX11_cut 32 = .ok (.ifCond .ne 5, 3) := by decide +kernel
theorem dX11_cut_35 : decode cX11_cut 35 = .ok (.iconst (-1), 1) := by decide +kernel
theorem dX11_cut_36 : decode cX11_cut 36 = .ok (.ireturn, 1) := by decide +kernel
theorem dX11_cut_37 : decode cX11_cut 37 = .ok (.aload 6, 2) := by decide +kernel
theorem dX11_cut_39 : decode cX11_cut 39 = .ok (.aload 5, 2) := by decide +kernel
theorem dX11_cut_41 : decode cX11_cut 41 = .ok (.getfield 87, 3) := by decide +kernel
theorem dX11_cut_44 : decode cX11_cut 44 = .ok (.iload_n 2, 1) := by decide +kernel
theorem dX11_cut_45 : decode cX11_cut 45 = .ok (.iload_n 3, 1) := by decide +kernel
theorem dX11_cut_46 : decode cX11_cut 46 = .ok (.invokevirtual 255, 3) := by decide +kernel
theorem dX11_cut_49 : decode cX11_cut 49 = .ok (.aload 6, 2) := by decide +kernel
theorem dX11_cut_51 : decode cX11_cut 51 = .ok (.getfield 86, 3) := by decide +kernel
theorem dX11_cut_54 : decode cX11_cut 54 = .ok (.ireturn, 1) := by decide +kernel
