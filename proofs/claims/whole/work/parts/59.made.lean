/-! ===== how the objects are made ===== -/
theorem dX0_init_0 : decode cX0_init 0 = .ok (.aload_n 0, 1) := by decide +kernel
theorem dX0_init_1 : decode cX0_init 1 = .ok (.invokespecial 3, 3) := by decide +kernel
theorem dX0_init_4 : decode cX0_init 4 = .ok (.aload_n 0, 1) := by decide +kernel
theorem dX0_init_5 : decode cX0_init 5 = .ok (.bipush 8, 2) := by decide +kernel
theorem dX0_init_7 : decode cX0_init 7 = .ok (.newarray .int, 2) := by decide +kernel
theorem dX0_init_9 : decode cX0_init 9 = .ok (.putfield 9, 3) := by decide +kernel
theorem dX0_init_12 : decode cX0_init 12 = .ok (.aload_n 0, 1) := by decide +kernel
theorem dX0_init_13 : decode cX0_init 13 = .ok (.bipush 6, 2) := by decide +kernel
theorem dX0_init_15 : decode cX0_init 15 = .ok (.newarray .int, 2) := by decide +kernel
theorem dX0_init_17 : decode cX0_init 17 = .ok (.putfield 15, 3) := by decide +kernel
theorem dX0_init_20 : decode cX0_init 20 = .ok (.aload_n 0, 1) := by decide +kernel
theorem dX0_init_21 : decode cX0_init 21 = .ok (.bipush 70, 2) := by decide +kernel
theorem dX0_init_23 : decode cX0_init 23 = .ok (.newarray .int, 2) := by decide +kernel
theorem dX0_init_25 : decode cX0_init 25 = .ok (.putfield 18, 3) := by decide +kernel
theorem dX0_init_28 : decode cX0_init 28 = .ok (.aload_n 0, 1) := by decide +kernel
theorem dX0_init_29 : decode cX0_init 29 = .ok (.bipush 70, 2) := by decide +kernel
theorem dX0_init_31 : decode cX0_init 31 = .ok (.newarray .boolean, 2) := by decide +kernel
theorem dX0_init_33 : decode cX0_init 33 = .ok (.putfield 21, 3) := by decide +kernel
theorem dX0_init_36 : decode cX0_init 36 = .ok (.aload_n 0, 1) := by decide +kernel
theorem dX0_init_37 : decode cX0_init 37 = .ok (.bipush 70, 2) := by decide +kernel
theorem dX0_init_39 : decode cX0_init 39 = .ok (.newarray .int, 2) := by decide +kernel
theorem dX0_init_41 : decode cX0_init 41 = .ok (.putfield 25, 3) := by decide +kernel
theorem dX0_init_44 : decode cX0_init 44 = .ok (.aload_n 0, 1) := by decide +kernel
theorem dX0_init_45 : decode cX0_init 45 = .ok (.bipush 71, 2) := by decide +kernel
theorem dX0_init_47 : decode cX0_init 47 = .ok (.newarray .int, 2) := by decide +kernel
theorem dX0_init_49 : decode cX0_init 49 = .ok (.putfield 28, 3) := by decide +kernel
theorem dX0_init_52 : decode cX0_init 52 = .ok (.aload_n 0, 1) := by decide +kernel
theorem dX0_init_53 : decode cX0_init 53 = .ok (.bipush 71, 2) := by decide +kernel
theorem dX0_init_55 : decode cX0_init 55 = .ok (.newarray .int, 2) := by decide +kernel
theorem dX0_init_57 : decode cX0_init 57 = .ok (.putfield 31, 3) := by decide +kernel
theorem dX0_init_60 : decode cX0_init 60 = .ok (.aload_n 0, 1) := by decide +kernel
theorem dX0_init_61 : decode cX0_init 61 = .ok (.bipush 71, 2) := by decide +kernel
theorem dX0_init_63 : decode cX0_init 63 = .ok (.newarray .int, 2) := by decide +kernel
theorem dX0_init_65 : decode cX0_init 65 = .ok (.putfield 34, 3) := by decide +kernel
theorem dX0_init_68 : decode cX0_init 68 = .ok (.aload_n 0, 1) := by decide +kernel
theorem dX0_init_69 : decode cX0_init 69 = .ok (.bipush 71, 2) := by decide +kernel
theorem dX0_init_71 : decode cX0_init 71 = .ok (.newarray .int, 2) := by decide +kernel
theorem dX0_init_73 : decode cX0_init 73 = .ok (.putfield 37, 3) := by decide +kernel
theorem dX0_init_76 : decode cX0_init 76 = .ok (.aload_n 0, 1) := by decide +kernel
theorem dX0_init_77 : decode cX0_init 77 = .ok (.bipush 70, 2) := by decide +kernel
theorem dX0_init_79 : decode cX0_init 79 = .ok (.newarray .boolean, 2) := by decide +kernel
theorem dX0_init_81 : decode cX0_init 81 = .ok (.putfield 40, 3) := by decide +kernel
theorem dX0_init_84 : decode cX0_init 84 = .ok (.return_, 1) := by decide +kernel
theorem dX1_init_0 : decode cX1_init 0 = .ok (.aload_n 0, 1) := by decide +kernel
theorem dX1_init_1 : decode cX1_init 1 = .ok (.invokespecial 3, 3) := by decide +kernel
theorem dX1_init_4 : decode cX1_init 4 = .ok (.aload_n 0, 1) := by decide +kernel
theorem dX1_init_5 : decode cX1_init 5 = .ok (.sipush 400, 3) := by decide +kernel
theorem dX1_init_8 : decode cX1_init 8 = .ok (.newarray .byte, 2) := by decide +kernel
theorem dX1_init_10 : decode cX1_init 10 = .ok (.putfield 9, 3) := by decide +kernel
theorem dX1_init_13 : decode cX1_init 13 = .ok (.aload_n 0, 1) := by decide +kernel
theorem dX1_init_14 : decode cX1_init 14 = .ok (.sipush 401, 3) := by decide +kernel
theorem dX1_init_17 : decode cX1_init 17 = .ok (.newarray .int, 2) := by decide +kernel
theorem dX1_init_19 : decode cX1_init 19 = .ok (.putfield 15, 3) := by decide +kernel
theorem dX1_init_22 : decode cX1_init 22 = .ok (.aload_n 0, 1) := by decide +kernel
theorem dX1_init_23 : decode cX1_init 23 = .ok (.sipush 401, 3) := by decide +kernel
theorem dX1_init_26 : decode cX1_init 26 = .ok (.newarray .int, 2) := by decide +kernel
theorem dX1_init_28 : decode cX1_init 28 = .ok (.putfield 19, 3) := by decide +kernel
theorem dX1_init_31 : decode cX1_init 31 = .ok (.aload_n 0, 1) := by decide +kernel
theorem dX1_init_32 : decode cX1_init 32 = .ok (.sipush 401, 3) := by decide +kernel
theorem dX1_init_35 : decode cX1_init 35 = .ok (.newarray .int, 2) := by decide +kernel
theorem dX1_init_37 : decode cX1_init 37 = .ok (.putfield 22, 3) := by decide +kernel
theorem dX1_init_40 : decode cX1_init 40 = .ok (.return_, 1) := by decide +kernel
theorem dX2_init_0 : decode cX2_init 0 = .ok (.aload_n 0, 1) := by decide +kernel
theorem dX2_init_1 : decode cX2_init 1 = .ok (.invokespecial 3, 3) := by decide +kernel
theorem dX2_init_4 : decode cX2_init 4 = .ok (.aload_n 0, 1) := by decide +kernel
theorem dX2_init_5 : decode cX2_init 5 = .ok (.new 9, 3) := by decide +kernel
theorem dX2_init_8 : decode cX2_init 8 = .ok (.dup, 1) := by decide +kernel
theorem dX2_init_9 : decode cX2_init 9 = .ok (.invokespecial 11, 3) := by decide +kernel
theorem dX2_init_12 : decode cX2_init 12 = .ok (.putfield 12, 3) := by decide +kernel
theorem dX2_init_15 : decode cX2_init 15 = .ok (.aload_n 0, 1) := by decide +kernel
theorem dX2_init_16 : decode cX2_init 16 = .ok (.new 18, 3) := by decide +kernel
theorem dX2_init_19 : decode cX2_init 19 = .ok (.dup, 1) := by decide +kernel
theorem dX2_init_20 : decode cX2_init 20 = .ok (.invokespecial 20, 3) := by decide +kernel
theorem dX2_init_23 : decode cX2_init 23 = .ok (.putfield 21, 3) := by decide +kernel
theorem dX2_init_26 : decode cX2_init 26 = .ok (.aload_n 0, 1) := by decide +kernel
theorem dX2_init_27 : decode cX2_init 27 = .ok (.iconst 4, 1) := by decide +kernel
theorem dX2_init_28 : decode cX2_init 28 = .ok (.newarray .int, 2) := by decide +kernel
theorem dX2_init_30 : decode cX2_init 30 = .ok (.putfield 25, 3) := by decide +kernel
theorem dX2_init_33 : decode cX2_init 33 = .ok (.aload_n 0, 1) := by decide +kernel
theorem dX2_init_34 : decode cX2_init 34 = .ok (.iconst 4, 1) := by decide +kernel
theorem dX2_init_35 : decode cX2_init 35 = .ok (.newarray .int, 2) := by decide +kernel
theorem dX2_init_37 : decode cX2_init 37 = .ok (.putfield 29, 3) := by decide +kernel
theorem dX2_init_40 : decode cX2_init 40 = .ok (.return_, 1) := by decide +kernel
theorem dX3_init_0 : decode cX3_init 0 = .ok (.aload_n 0, 1) := by decide +kernel
theorem dX3_init_1 : decode cX3_init 1 = .ok (.invokespecial 3, 3) := by decide +kernel
theorem dX3_init_4 : decode cX3_init 4 = .ok (.aload_n 0, 1) := by decide +kernel
theorem dX3_init_5 : decode cX3_init 5 = .ok (.bipush 6, 2) := by decide +kernel
theorem dX3_init_7 : decode cX3_init 7 = .ok (.newarray .int, 2) := by decide +kernel
theorem dX3_init_9 : decode cX3_init 9 = .ok (.putfield 9, 3) := by decide +kernel
theorem dX3_init_12 : decode cX3_init 12 = .ok (.aload_n 0, 1) := by decide +kernel
theorem dX3_init_13 : decode cX3_init 13 = .ok (.bipush 6, 2) := by decide +kernel
theorem dX3_init_15 : decode cX3_init 15 = .ok (.newarray .int, 2) := by decide +kernel
theorem dX3_init_17 : decode cX3_init 17 = .ok (.putfield 15, 3) := by decide +kernel
theorem dX3_init_20 : decode cX3_init 20 = .ok (.aload_n 0, 1) := by decide +kernel
theorem dX3_init_21 : decode cX3_init 21 = .ok (.sipush 420, 3) := by decide +kernel
theorem dX3_init_24 : decode cX3_init 24 = .ok (.newarray .int, 2) := by decide +kernel
theorem dX3_init_26 : decode cX3_init 26 = .ok (.putfield 18, 3) := by decide +kernel
theorem dX3_init_29 : decode cX3_init 29 = .ok (.aload_n 0, 1) := by decide +kernel
theorem dX3_init_30 : decode cX3_init 30 = .ok (.iconst 4, 1) := by decide +kernel
theorem dX3_init_31 : decode cX3_init 31 = .ok (.newarray .int, 2) := by decide +kernel
theorem dX3_init_33 : decode cX3_init 33 = .ok (.putfield 21, 3) := by decide +kernel
theorem dX3_init_36 : decode cX3_init 36 = .ok (.aload_n 0, 1) := by decide +kernel
theorem dX3_init_37 : decode cX3_init 37 = .ok (.iconst 4, 1) := by decide +kernel
theorem dX3_init_38 : decode cX3_init 38 = .ok (.newarray .int, 2) := by decide +kernel
theorem dX3_init_40 : decode cX3_init 40 = .ok (.putfield 24, 3) := by decide +kernel
theorem dX3_init_43 : decode cX3_init 43 = .ok (.aload_n 0, 1) := by decide +kernel
theorem dX3_init_44 : decode cX3_init 44 = .ok (.bipush 6, 2) := by decide +kernel
theorem dX3_init_46 : decode cX3_init 46 = .ok (.newarray .int, 2) := by decide +kernel
theorem dX3_init_48 : decode cX3_init 48 = .ok (.dup, 1) := by decide +kernel
theorem dX3_init_49 : decode cX3_init 49 = .ok (.iconst 0, 1) := by decide +kernel
theorem dX3_init_50 : decode cX3_init 50 = .ok (.iconst 0, 1) := by decide +kernel
theorem dX3_init_51 : decode cX3_init 51 = .ok (.iastore, 1) := by decide +kernel
theorem dX3_init_52 : decode cX3_init 52 = .ok (.dup, 1) := by decide +kernel
theorem dX3_init_53 : decode cX3_init 53 = .ok (.iconst 1, 1) := by decide +kernel
theorem dX3_init_54 : decode cX3_init 54 = .ok (.bipush 30, 2) := by decide +kernel
theorem dX3_init_56 : decode cX3_init 56 = .ok (.iastore, 1) := by decide +kernel
theorem dX3_init_57 : decode cX3_init 57 = .ok (.dup, 1) := by decide +kernel
theorem dX3_init_58 : decode cX3_init 58 = .ok (.iconst 2, 1) := by decide +kernel
theorem dX3_init_59 : decode cX3_init 59 = .ok (.bipush 60, 2) := by decide +kernel
theorem dX3_init_61 : decode cX3_init 61 = .ok (.iastore, 1) := by decide +kernel
theorem dX3_init_62 : decode cX3_init 62 = .ok (.dup, 1) := by decide +kernel
theorem dX3_init_63 : decode cX3_init 63 = .ok (.iconst 3, 1) := by decide +kernel
theorem dX3_init_64 : decode cX3_init 64 = .ok (.bipush 90, 2) := by decide +kernel
theorem dX3_init_66 : decode cX3_init 66 = .ok (.iastore, 1) := by decide +kernel
theorem dX3_init_67 : decode cX3_init 67 = .ok (.dup, 1) := by decide +kernel
theorem dX3_init_68 : decode cX3_init 68 = .ok (.iconst 4, 1) := by decide +kernel
theorem dX3_init_69 : decode cX3_init 69 = .ok (.bipush 120, 2) := by decide +kernel
theorem dX3_init_71 : decode cX3_init 71 = .ok (.iastore, 1) := by decide +kernel
theorem dX3_init_72 : decode cX3_init 72 = .ok (.dup, 1) := by decide +kernel
theorem dX3_init_73 : decode cX3_init 73 = .ok (.iconst 5, 1) := by decide +kernel
theorem dX3_init_74 : decode cX3_init 74 = .ok (.sipush 200, 3) := by decide +kernel
theorem dX3_init_77 : decode cX3_init 77 = .ok (.iastore, 1) := by decide +kernel
theorem dX3_init_78 : decode cX3_init 78 = .ok (.putfield 27, 3) := by decide +kernel
theorem dX3_init_81 : decode cX3_init 81 = .ok (.aload_n 0, 1) := by decide +kernel
theorem dX3_init_82 : decode cX3_init 82 = .ok (.bipush 8, 2) := by decide +kernel
theorem dX3_init_84 : decode cX3_init 84 = .ok (.newarray .int, 2) := by decide +kernel
theorem dX3_init_86 : decode cX3_init 86 = .ok (.dup, 1) := by decide +kernel
theorem dX3_init_87 : decode cX3_init 87 = .ok (.iconst 0, 1) := by decide +kernel
theorem dX3_init_88 : decode cX3_init 88 = .ok (.bipush 42, 2) := by decide +kernel
theorem dX3_init_90 : decode cX3_init 90 = .ok (.iastore, 1) := by decide +kernel
theorem dX3_init_91 : decode cX3_init 91 = .ok (.dup, 1) := by decide +kernel
theorem dX3_init_92 : decode cX3_init 92 = .ok (.iconst 1, 1) := by decide +kernel
theorem dX3_init_93 : decode cX3_init 93 = .ok (.bipush 7, 2) := by decide +kernel
theorem dX3_init_95 : decode cX3_init 95 = .ok (.iastore, 1) := by decide +kernel
theorem dX3_init_96 : decode cX3_init 96 = .ok (.dup, 1) := by decide +kernel
theorem dX3_init_97 : decode cX3_init 97 = .ok (.iconst 2, 1) := by decide +kernel
theorem dX3_init_98 : decode cX3_init 98 = .ok (.iconst 1, 1) := by decide +kernel
theorem dX3_init_99 : decode cX3_init 99 = .ok (.iastore, 1) := by decide +kernel
theorem dX3_init_100 : decode cX3_init 100 = .ok (.dup, 1) := by decide +kernel
theorem dX3_init_101 : decode cX3_init 101 = .ok (.iconst 3, 1) := by decide +kernel
theorem dX3_init_102 : decode cX3_init 102 = .ok (.iconst 2, 1) := by decide +kernel
theorem dX3_init_103 : decode cX3_init 103 = .ok (.iastore, 1) := by decide +kernel
theorem dX3_init_104 : decode cX3_init 104 = .ok (.dup, 1) := by decide +kernel
theorem dX3_init_105 : decode cX3_init 105 = .ok (.iconst 4, 1) := by decide +kernel
theorem dX3_init_106 : decode cX3_init 106 = .ok (.sipush 150, 3) := by decide +kernel
theorem dX3_init_109 : decode cX3_init 109 = .ok (.iastore, 1) := by decide +kernel
theorem dX3_init_110 : decode cX3_init 110 = .ok (.dup, 1) := by decide +kernel
theorem dX3_init_111 : decode cX3_init 111 = .ok (.iconst 5, 1) := by decide +kernel
theorem dX3_init_112 : decode cX3_init 112 = .ok (.iconst 5, 1) := by decide +kernel
theorem dX3_init_113 : decode cX3_init 113 = .ok (.iastore, 1) := by decide +kernel
theorem dX3_init_114 : decode cX3_init 114 = .ok (.dup, 1) := by decide +kernel
theorem dX3_init_115 : decode cX3_init 115 = .ok (.bipush 6, 2) := by decide +kernel
theorem dX3_init_117 : decode cX3_init 117 = .ok (.sipush 2100, 3) := by decide +kernel
theorem dX3_init_120 : decode cX3_init 120 = .ok (.iastore, 1) := by decide +kernel
theorem dX3_init_121 : decode cX3_init 121 = .ok (.dup, 1) := by decide +kernel
theorem dX3_init_122 : decode cX3_init 122 = .ok (.bipush 7, 2) := by decide +kernel
theorem dX3_init_124 : decode cX3_init 124 = .ok (.sipush 150, 3) := by decide +kernel
theorem dX3_init_127 : decode cX3_init 127 = .ok (.iastore, 1) := by decide +kernel
theorem dX3_init_128 : decode cX3_init 128 = .ok (.putfield 30, 3) := by decide +kernel
theorem dX3_init_131 : decode cX3_init 131 = .ok (.return_, 1) := by decide +kernel
theorem dX4_init_0 : decode cX4_init 0 = .ok (.aload_n 0, 1) := by decide +kernel
theorem dX4_init_1 : decode cX4_init 1 = .ok (.invokespecial 1, 3) := by decide +kernel
theorem dX4_init_4 : decode cX4_init 4 = .ok (.aload_n 0, 1) := by decide +kernel
theorem dX4_init_5 : decode cX4_init 5 = .ok (.new 7, 3) := by decide +kernel
theorem dX4_init_8 : decode cX4_init 8 = .ok (.dup, 1) := by decide +kernel
theorem dX4_init_9 : decode cX4_init 9 = .ok (.invokespecial 9, 3) := by decide +kernel
theorem dX4_init_12 : decode cX4_init 12 = .ok (.putfield 10, 3) := by decide +kernel
theorem dX4_init_15 : decode cX4_init 15 = .ok (.aload_n 0, 1) := by decide +kernel
theorem dX4_init_16 : decode cX4_init 16 = .ok (.bipush 8, 2) := by decide +kernel
theorem dX4_init_18 : decode cX4_init 18 = .ok (.anewarray 7, 3) := by decide +kernel
theorem dX4_init_21 : decode cX4_init 21 = .ok (.putfield 16, 3) := by decide +kernel
theorem dX4_init_24 : decode cX4_init 24 = .ok (.aload_n 0, 1) := by decide +kernel
theorem dX4_init_25 : decode cX4_init 25 = .ok (.new 20, 3) := by decide +kernel
theorem dX4_init_28 : decode cX4_init 28 = .ok (.dup, 1) := by decide +kernel
theorem dX4_init_29 : decode cX4_init 29 = .ok (.invokespecial 22, 3) := by decide +kernel
theorem dX4_init_32 : decode cX4_init 32 = .ok (.putfield 23, 3) := by decide +kernel
theorem dX4_init_35 : decode cX4_init 35 = .ok (.aload_n 0, 1) := by decide +kernel
theorem dX4_init_36 : decode cX4_init 36 = .ok (.new 27, 3) := by decide +kernel
theorem dX4_init_39 : decode cX4_init 39 = .ok (.dup, 1) := by decide +kernel
theorem dX4_init_40 : decode cX4_init 40 = .ok (.invokespecial 29, 3) := by decide +kernel
theorem dX4_init_43 : decode cX4_init 43 = .ok (.putfield 30, 3) := by decide +kernel
theorem dX4_init_46 : decode cX4_init 46 = .ok (.aload_n 0, 1) := by decide +kernel
theorem dX4_init_47 : decode cX4_init 47 = .ok (.new 27, 3) := by decide +kernel
theorem dX4_init_50 : decode cX4_init 50 = .ok (.dup, 1) := by decide +kernel
theorem dX4_init_51 : decode cX4_init 51 = .ok (.invokespecial 29, 3) := by decide +kernel
theorem dX4_init_54 : decode cX4_init 54 = .ok (.putfield 34, 3) := by decide +kernel
theorem dX4_init_57 : decode cX4_init 57 = .ok (.aload_n 0, 1) := by decide +kernel
theorem dX4_init_58 : decode cX4_init 58 = .ok (.bipush 6, 2) := by decide +kernel
theorem dX4_init_60 : decode cX4_init 60 = .ok (.newarray .int, 2) := by decide +kernel
theorem dX4_init_62 : decode cX4_init 62 = .ok (.putfield 37, 3) := by decide +kernel
theorem dX4_init_65 : decode cX4_init 65 = .ok (.iconst 0, 1) := by decide +kernel
theorem dX4_init_66 : decode cX4_init 66 = .ok (.istore_n 1, 1) := by decide +kernel
theorem dX4_init_67 : decode cX4_init 67 = .ok (.iload_n 1, 1) := by decide +kernel
theorem dX4_init_68 : decode cX4_init 68 = .ok (.bipush 8, 2) := by decide +kernel
theorem dX4_init_70 : decode cX4_init 70 = .ok (.if_icmp .ge 22, 3) := by decide +kernel
theorem dX4_init_73 : decode cX4_init 73 = .ok (.aload_n 0, 1) := by decide +kernel
theorem dX4_init_74 : decode cX4_init 74 = .ok (.getfield 16, 3) := by decide +kernel
theorem dX4_init_77 : decode cX4_init 77 = .ok (.iload_n 1, 1) := by decide +kernel
theorem dX4_init_78 : decode cX4_init 78 = .ok (.new 7, 3) := by decide +kernel
theorem dX4_init_81 : decode cX4_init 81 = .ok (.dup, 1) := by decide +kernel
theorem dX4_init_82 : decode cX4_init 82 = .ok (.invokespecial 9, 3) := by decide +kernel
theorem dX4_init_85 : decode cX4_init 85 = .ok (.aastore, 1) := by decide +kernel
theorem dX4_init_86 : decode cX4_init 86 = .ok (.iinc 1 1, 3) := by decide +kernel
theorem dX4_init_89 : decode cX4_init 89 = .ok (.goto (-22), 3) := by decide +kernel
theorem dX4_init_92 : decode cX4_init 92 = .ok (.return_, 1) := by decide +kernel
theorem dX5_init_0 : decode cX5_init 0 = .ok (.aload_n 0, 1) := by decide +kernel
theorem dX5_init_1 : decode cX5_init 1 = .ok (.invokespecial 1, 3) := by decide +kernel
theorem dX5_init_4 : decode cX5_init 4 = .ok (.aload_n 0, 1) := by decide +kernel
theorem dX5_init_5 : decode cX5_init 5 = .ok (.sipush 460, 3) := by decide +kernel
theorem dX5_init_8 : decode cX5_init 8 = .ok (.newarray .int, 2) := by decide +kernel
theorem dX5_init_10 : decode cX5_init 10 = .ok (.putfield 7, 3) := by decide +kernel
theorem dX5_init_13 : decode cX5_init 13 = .ok (.aload_n 0, 1) := by decide +kernel
theorem dX5_init_14 : decode cX5_init 14 = .ok (.sipush 3680, 3) := by decide +kernel
theorem dX5_init_17 : decode cX5_init 17 = .ok (.newarray .int, 2) := by decide +kernel
theorem dX5_init_19 : decode cX5_init 19 = .ok (.putfield 13, 3) := by decide +kernel
theorem dX5_init_22 : decode cX5_init 22 = .ok (.aload_n 0, 1) := by decide +kernel
theorem dX5_init_23 : decode cX5_init 23 = .ok (.sipush 460, 3) := by decide +kernel
theorem dX5_init_26 : decode cX5_init 26 = .ok (.newarray .int, 2) := by decide +kernel
theorem dX5_init_28 : decode cX5_init 28 = .ok (.putfield 16, 3) := by decide +kernel
theorem dX5_init_31 : decode cX5_init 31 = .ok (.aload_n 0, 1) := by decide +kernel
theorem dX5_init_32 : decode cX5_init 32 = .ok (.sipush 400, 3) := by decide +kernel
theorem dX5_init_35 : decode cX5_init 35 = .ok (.newarray .byte, 2) := by decide +kernel
theorem dX5_init_37 : decode cX5_init 37 = .ok (.putfield 19, 3) := by decide +kernel
theorem dX5_init_40 : decode cX5_init 40 = .ok (.aload_n 0, 1) := by decide +kernel
theorem dX5_init_41 : decode cX5_init 41 = .ok (.bipush 70, 2) := by decide +kernel
theorem dX5_init_43 : decode cX5_init 43 = .ok (.newarray .int, 2) := by decide +kernel
theorem dX5_init_45 : decode cX5_init 45 = .ok (.putfield 23, 3) := by decide +kernel
theorem dX5_init_48 : decode cX5_init 48 = .ok (.aload_n 0, 1) := by decide +kernel
theorem dX5_init_49 : decode cX5_init 49 = .ok (.iconst 5, 1) := by decide +kernel
theorem dX5_init_50 : decode cX5_init 50 = .ok (.newarray .int, 2) := by decide +kernel
theorem dX5_init_52 : decode cX5_init 52 = .ok (.putfield 26, 3) := by decide +kernel
theorem dX5_init_55 : decode cX5_init 55 = .ok (.aload_n 0, 1) := by decide +kernel
theorem dX5_init_56 : decode cX5_init 56 = .ok (.iconst 5, 1) := by decide +kernel
theorem dX5_init_57 : decode cX5_init 57 = .ok (.newarray .int, 2) := by decide +kernel
theorem dX5_init_59 : decode cX5_init 59 = .ok (.putfield 29, 3) := by decide +kernel
theorem dX5_init_62 : decode cX5_init 62 = .ok (.aload_n 0, 1) := by decide +kernel
theorem dX5_init_63 : decode cX5_init 63 = .ok (.bipush 70, 2) := by decide +kernel
theorem dX5_init_65 : decode cX5_init 65 = .ok (.newarray .int, 2) := by decide +kernel
theorem dX5_init_67 : decode cX5_init 67 = .ok (.putfield 32, 3) := by decide +kernel
theorem dX5_init_70 : decode cX5_init 70 = .ok (.aload_n 0, 1) := by decide +kernel
theorem dX5_init_71 : decode cX5_init 71 = .ok (.bipush 70, 2) := by decide +kernel
theorem dX5_init_73 : decode cX5_init 73 = .ok (.newarray .int, 2) := by decide +kernel
theorem dX5_init_75 : decode cX5_init 75 = .ok (.putfield 35, 3) := by decide +kernel
theorem dX5_init_78 : decode cX5_init 78 = .ok (.aload_n 0, 1) := by decide +kernel
theorem dX5_init_79 : decode cX5_init 79 = .ok (.bipush 70, 2) := by decide +kernel
theorem dX5_init_81 : decode cX5_init 81 = .ok (.newarray .int, 2) := by decide +kernel
theorem dX5_init_83 : decode cX5_init 83 = .ok (.putfield 38, 3) := by decide +kernel
theorem dX5_init_86 : decode cX5_init 86 = .ok (.aload_n 0, 1) := by decide +kernel
theorem dX5_init_87 : decode cX5_init 87 = .ok (.bipush 71, 2) := by decide +kernel
theorem dX5_init_89 : decode cX5_init 89 = .ok (.newarray .int, 2) := by decide +kernel
theorem dX5_init_91 : decode cX5_init 91 = .ok (.putfield 41, 3) := by decide +kernel
theorem dX5_init_94 : decode cX5_init 94 = .ok (.aload_n 0, 1) := by decide +kernel
theorem dX5_init_95 : decode cX5_init 95 = .ok (.bipush 70, 2) := by decide +kernel
theorem dX5_init_97 : decode cX5_init 97 = .ok (.newarray .boolean, 2) := by decide +kernel
theorem dX5_init_99 : decode cX5_init 99 = .ok (.putfield 44, 3) := by decide +kernel
theorem dX5_init_102 : decode cX5_init 102 = .ok (.aload_n 0, 1) := by decide +kernel
theorem dX5_init_103 : decode cX5_init 103 = .ok (.bipush 70, 2) := by decide +kernel
theorem dX5_init_105 : decode cX5_init 105 = .ok (.newarray .boolean, 2) := by decide +kernel
theorem dX5_init_107 : decode cX5_init 107 = .ok (.putfield 48, 3) := by decide +kernel
theorem dX5_init_110 : decode cX5_init 110 = .ok (.aload_n 0, 1) := by decide +kernel
theorem dX5_init_111 : decode cX5_init 111 = .ok (.iconst (-1), 1) := by decide +kernel
theorem dX5_init_112 : decode cX5_init 112 = .ok (.putfield 51, 3) := by decide +kernel
theorem dX5_init_115 : decode cX5_init 115 = .ok (.aload_n 0, 1) := by decide +kernel
theorem dX5_init_116 : decode cX5_init 116 = .ok (.iconst (-1), 1) := by decide +kernel
theorem dX5_init_117 : decode cX5_init 117 = .ok (.putfield 55, 3) := by decide +kernel
theorem dX5_init_120 : decode cX5_init 120 = .ok (.aload_n 0, 1) := by decide +kernel
theorem dX5_init_121 : decode cX5_init 121 = .ok (.bipush 70, 2) := by decide +kernel
theorem dX5_init_123 : decode cX5_init 123 = .ok (.newarray .int, 2) := by decide +kernel
theorem dX5_init_125 : decode cX5_init 125 = .ok (.putfield 58, 3) := by decide +kernel
theorem dX5_init_128 : decode cX5_init 128 = .ok (.bipush 14, 2) := by decide +kernel
theorem dX5_init_130 : decode cX5_init 130 = .ok (.newarray .int, 2) := by decide +kernel
theorem dX5_init_132 : decode cX5_init 132 = .ok (.dup, 1) := by decide +kernel
theorem dX5_init_133 : decode cX5_init 133 = .ok (.iconst 0, 1) := by decide +kernel
theorem dX5_init_134 : decode cX5_init 134 = .ok (.iconst 0, 1) := by decide +kernel
theorem dX5_init_135 : decode cX5_init 135 = .ok (.iastore, 1) := by decide +kernel
theorem dX5_init_136 : decode cX5_init 136 = .ok (.dup, 1) := by decide +kernel
theorem dX5_init_137 : decode cX5_init 137 = .ok (.iconst 1, 1) := by decide +kernel
theorem dX5_init_138 : decode cX5_init 138 = .ok (.bipush 30, 2) := by decide +kernel
theorem dX5_init_140 : decode cX5_init 140 = .ok (.iastore, 1) := by decide +kernel
theorem dX5_init_141 : decode cX5_init 141 = .ok (.dup, 1) := by decide +kernel
theorem dX5_init_142 : decode cX5_init 142 = .ok (.iconst 2, 1) := by decide +kernel
theorem dX5_init_143 : decode cX5_init 143 = .ok (.bipush 60, 2) := by decide +kernel
theorem dX5_init_145 : decode cX5_init 145 = .ok (.iastore, 1) := by decide +kernel
theorem dX5_init_146 : decode cX5_init 146 = .ok (.dup, 1) := by decide +kernel
theorem dX5_init_147 : decode cX5_init 147 = .ok (.iconst 3, 1) := by decide +kernel
theorem dX5_init_148 : decode cX5_init 148 = .ok (.bipush 90, 2) := by decide +kernel
theorem dX5_init_150 : decode cX5_init 150 = .ok (.iastore, 1) := by decide +kernel
theorem dX5_init_151 : decode cX5_init 151 = .ok (.dup, 1) := by decide +kernel
theorem dX5_init_152 : decode cX5_init 152 = .ok (.iconst 4, 1) := by decide +kernel
theorem dX5_init_153 : decode cX5_init 153 = .ok (.bipush 120, 2) := by decide +kernel
theorem dX5_init_155 : decode cX5_init 155 = .ok (.iastore, 1) := by decide +kernel
theorem dX5_init_156 : decode cX5_init 156 = .ok (.dup, 1) := by decide +kernel
theorem dX5_init_157 : decode cX5_init 157 = .ok (.iconst 5, 1) := by decide +kernel
theorem dX5_init_158 : decode cX5_init 158 = .ok (.sipush 200, 3) := by decide +kernel
theorem dX5_init_161 : decode cX5_init 161 = .ok (.iastore, 1) := by decide +kernel
theorem dX5_init_162 : decode cX5_init 162 = .ok (.dup, 1) := by decide +kernel
theorem dX5_init_163 : decode cX5_init 163 = .ok (.bipush 6, 2) := by decide +kernel
theorem dX5_init_165 : decode cX5_init 165 = .ok (.bipush 42, 2) := by decide +kernel
theorem dX5_init_167 : decode cX5_init 167 = .ok (.iastore, 1) := by decide +kernel
theorem dX5_init_168 : decode cX5_init 168 = .ok (.dup, 1) := by decide +kernel
theorem dX5_init_169 : decode cX5_init 169 = .ok (.bipush 7, 2) := by decide +kernel
theorem dX5_init_171 : decode cX5_init 171 = .ok (.bipush 7, 2) := by decide +kernel
theorem dX5_init_173 : decode cX5_init 173 = .ok (.iastore, 1) := by decide +kernel
theorem dX5_init_174 : decode cX5_init 174 = .ok (.dup, 1) := by decide +kernel
theorem dX5_init_175 : decode cX5_init 175 = .ok (.bipush 8, 2) := by decide +kernel
theorem dX5_init_177 : decode cX5_init 177 = .ok (.iconst 1, 1) := by decide +kernel
theorem dX5_init_178 : decode cX5_init 178 = .ok (.iastore, 1) := by decide +kernel
theorem dX5_init_179 : decode cX5_init 179 = .ok (.dup, 1) := by decide +kernel
theorem dX5_init_180 : decode cX5_init 180 = .ok (.bipush 9, 2) := by decide +kernel
theorem dX5_init_182 : decode cX5_init 182 = .ok (.iconst 2, 1) := by decide +kernel
theorem dX5_init_183 : decode cX5_init 183 = .ok (.iastore, 1) := by decide +kernel
theorem dX5_init_184 : decode cX5_init 184 = .ok (.dup, 1) := by decide +kernel
theorem dX5_init_185 : decode cX5_init 185 = .ok (.bipush 10, 2) := by decide +kernel
theorem dX5_init_187 : decode cX5_init 187 = .ok (.sipush 150, 3) := by decide +kernel
theorem dX5_init_190 : decode cX5_init 190 = .ok (.iastore, 1) := by decide +kernel
theorem dX5_init_191 : decode cX5_init 191 = .ok (.dup, 1) := by decide +kernel
theorem dX5_init_192 : decode cX5_init 192 = .ok (.bipush 11, 2) := by decide +kernel
theorem dX5_init_194 : decode cX5_init 194 = .ok (.iconst 5, 1) := by decide +kernel
theorem dX5_init_195 : decode cX5_init 195 = .ok (.iastore, 1) := by decide +kernel
theorem dX5_init_196 : decode cX5_init 196 = .ok (.dup, 1) := by decide +kernel
theorem dX5_init_197 : decode cX5_init 197 = .ok (.bipush 12, 2) := by decide +kernel
theorem dX5_init_199 : decode cX5_init 199 = .ok (.sipush 2100, 3) := by decide +kernel
theorem dX5_init_202 : decode cX5_init 202 = .ok (.iastore, 1) := by decide +kernel
theorem dX5_init_203 : decode cX5_init 203 = .ok (.dup, 1) := by decide +kernel
theorem dX5_init_204 : decode cX5_init 204 = .ok (.bipush 13, 2) := by decide +kernel
theorem dX5_init_206 : decode cX5_init 206 = .ok (.sipush 150, 3) := by decide +kernel
theorem dX5_init_209 : decode cX5_init 209 = .ok (.iastore, 1) := by decide +kernel
theorem dX5_init_210 : decode cX5_init 210 = .ok (.astore_n 1, 1) := by decide +kernel
theorem dX5_init_211 : decode cX5_init 211 = .ok (.iconst 0, 1) := by decide +kernel
theorem dX5_init_212 : decode cX5_init 212 = .ok (.istore_n 2, 1) := by decide +kernel
theorem dX5_init_213 : decode cX5_init 213 = .ok (.iload_n 2, 1) := by decide +kernel
theorem dX5_init_214 : decode cX5_init 214 = .ok (.bipush 14, 2) := by decide +kernel
theorem dX5_init_216 : decode cX5_init 216 = .ok (.if_icmp .ge 20, 3) := by decide +kernel
theorem dX5_init_219 : decode cX5_init 219 = .ok (.aload_n 0, 1) := by decide +kernel
theorem dX5_init_220 : decode cX5_init 220 = .ok (.getfield 7, 3) := by decide +kernel
theorem dX5_init_223 : decode cX5_init 223 = .ok (.iconst 0, 1) := by decide +kernel
theorem dX5_init_224 : decode cX5_init 224 = .ok (.iload_n 2, 1) := by decide +kernel
theorem dX5_init_225 : decode cX5_init 225 = .ok (.iadd, 1) := by decide +kernel
theorem dX5_init_226 : decode cX5_init 226 = .ok (.aload_n 1, 1) := by decide +kernel
theorem dX5_init_227 : decode cX5_init 227 = .ok (.iload_n 2, 1) := by decide +kernel
theorem dX5_init_228 : decode cX5_init 228 = .ok (.iaload, 1) := by decide +kernel
theorem dX5_init_229 : decode cX5_init 229 = .ok (.iastore, 1) := by decide +kernel
theorem dX5_init_230 : decode cX5_init 230 = .ok (.iinc 2 1, 3) := by decide +kernel
theorem dX5_init_233 : decode cX5_init 233 = .ok (.goto (-20), 3) := by decide +kernel
theorem dX5_init_236 : decode cX5_init 236 = .ok (.return_, 1) := by decide +kernel

section NW
variable {G : mG} {I : mI} {d mc ms pc : Nat} {lo : List (Option Value)} {st : List Value} {μ0 L : List va_E} {nc ns a k0 : Nat} {Q : mQ}
theorem n_get {e : va_E} (ha : a = μ0.length + k0) (h : L[k0]? = some e) : (μ0 ++ L)[a]? = some e := by
  subst ha
  rw [List.getElem?_append_right (Nat.le_add_right _ _), Nat.add_sub_cancel_left]
  exact h
theorem n_set {e : va_E} (ha : a = μ0.length + k0) : (μ0 ++ L).set a e = μ0 ++ L.set k0 e := by
  subst ha
  rw [List.set_append_right _ _ (Nat.le_add_right _ _), Nat.add_sub_cancel_left]

theorem N_new_int {N : Nat} (hd : decode I.2.1 pc = .ok (.newarray .int, 2)) (hb : N ≤ 100000) (hk : L.length = k0) (hc1 : nc + 1 ≤ mc) (hs1 : ns + N ≤ ms) (k : mT G I d mc ms (pc + 2) lo (.ref (μ0.length + k0 + 3) :: st) (μ0 ++ (L ++ [.inl (0, N, .inl (fun _ => 0))])) true (nc + 1) (ns + N) Q) : mT G I d mc ms pc lo (.int (nI N) :: st) (μ0 ++ L) true nc ns Q := by
  refine T_new_int (N := N) hd rfl (fun z => ?_) (nI_clamp (by omega)) hb hc1 hs1 ?_
  · exact nI_pos (by omega) z
  · rw [List.length_append, hk, List.append_assoc]
    exact k
theorem N_new_byte {N : Nat} (hd : decode I.2.1 pc = .ok (.newarray .byte, 2)) (hb : N ≤ 100000) (hk : L.length = k0) (hc1 : nc + 1 ≤ mc) (hs1 : ns + N ≤ ms) (k : mT G I d mc ms (pc + 2) lo (.ref (μ0.length + k0 + 3) :: st) (μ0 ++ (L ++ [.inl (1, N, .inl (fun _ => 0))])) true (nc + 1) (ns + N) Q) : mT G I d mc ms pc lo (.int (nI N) :: st) (μ0 ++ L) true nc ns Q := by
  refine T_new_byte (N := N) hd rfl (fun z => ?_) (nI_clamp (by omega)) hb hc1 hs1 ?_
  · exact nI_pos (by omega) z
  · rw [List.length_append, hk, List.append_assoc]
    exact k
theorem N_new_boolean {N : Nat} (hd : decode I.2.1 pc = .ok (.newarray .boolean, 2)) (hb : N ≤ 100000) (hk : L.length = k0) (hc1 : nc + 1 ≤ mc) (hs1 : ns + N ≤ ms) (k : mT G I d mc ms (pc + 2) lo (.ref (μ0.length + k0 + 3) :: st) (μ0 ++ (L ++ [.inl (2, N, .inl (fun _ => 0))])) true (nc + 1) (ns + N) Q) : mT G I d mc ms pc lo (.int (nI N) :: st) (μ0 ++ L) true nc ns Q := by
  refine T_new_boolean (N := N) hd rfl (fun z => ?_) (nI_clamp (by omega)) hb hc1 hs1 ?_
  · exact nI_pos (by omega) z
  · rw [List.length_append, hk, List.append_assoc]
    exact k
theorem N_new_long {N : Nat} (hd : decode I.2.1 pc = .ok (.newarray .long, 2)) (hb : N ≤ 100000) (hk : L.length = k0) (hc1 : nc + 1 ≤ mc) (hs1 : ns + N ≤ ms) (k : mT G I d mc ms (pc + 2) lo (.ref (μ0.length + k0 + 3) :: st) (μ0 ++ (L ++ [.inl (3, N, .inr (.inl (fun _ => 0)))])) true (nc + 1) (ns + N) Q) : mT G I d mc ms pc lo (.int (nI N) :: st) (μ0 ++ L) true nc ns Q := by
  refine T_new_long (N := N) hd rfl (fun z => ?_) (nI_clamp (by omega)) hb hc1 hs1 ?_
  · exact nI_pos (by omega) z
  · rw [List.length_append, hk, List.append_assoc]
    exact k
theorem N_anew {i N : Nat} (hd : decode I.2.1 pc = .ok (.anewarray i, 3)) (ho : mOwn.getD I.2.2.2.2.1 "" = I.1.cls) (hf : (mNw I.2.2.2.2.1).lookup i = some 3) (hb : N ≤ 100000) (hk : L.length = k0) (hc1 : nc + 1 ≤ mc) (hs1 : ns + N ≤ ms) (k : mT G I d mc ms (pc + 3) lo (.ref (μ0.length + k0 + 3) :: st) (μ0 ++ (L ++ [.inl (4, N, .inr (.inr (.inr (.inr (fun _ => none)))))])) true (nc + 1) (ns + N) Q) : mT G I d mc ms pc lo (.int (nI N) :: st) (μ0 ++ L) true nc ns Q := by
  refine T_new_told (N := N) hd ho hf rfl (fun z => ?_) (nI_clamp (by omega)) hb hc1 hs1 ?_
  · exact nI_pos (by omega) z
  · rw [List.length_append, hk, List.append_assoc]
    exact k
theorem N_new {i ci : Nat} {r : vw_C} {ty : Nat → FieldType} {fs : List Value} (hd : decode I.2.1 pc = .ok (.new i, 3)) (ho : mOwn.getD I.2.2.2.2.1 "" = I.1.cls) (hf : (mNw I.2.2.2.2.1).lookup i = some ci) (hr : mCl[ci]? = some r) (hty : ∀ k, k < r.2.2 → parseFieldDescriptor (r.2.1 k).2.2.1 = some (ty k)) (hfs : ∀ j, j < r.2.2 → defaultValue (ty j) = vp_V fs j) (hfn : fs.map (mTr G) = fs) (hk : L.length = k0) (hc1 : nc + 1 ≤ mc) (hs1 : ns + r.2.2 ≤ ms) (k : mT G I d mc ms (pc + 3) lo (.ref (μ0.length + k0 + 3) :: st) (μ0 ++ (L ++ [.inr (ci, fs)])) true (nc + 1) (ns + r.2.2) Q) : mT G I d mc ms pc lo st (μ0 ++ L) true nc ns Q := by
  refine T_new hd ho hf hr hty hfs hfn rfl hc1 hs1 ?_
  rw [List.length_append, hk, List.append_assoc]
  exact k
theorem N_put {i ci k1 : Nat} {nest : Bool} {fs : List Value} {x : Int32} {r : vw_C} (ha : a = μ0.length + k0) (hL : L[k0]? = some (.inr (ci, fs))) (hd : decode I.2.1 pc = .ok (.putfield i, 3)) (ho : mOwn.getD I.2.2.2.2.1 "" = I.1.cls) (hf : (mFl I.2.2.2.2.1).lookup i = some (ci, k1, nest)) (hr : mCl[ci]? = some r) (hfi : (r.2.1 k1).2.2.2 = false) (hty : (r.2.1 k1).2.2.1 = "I") (hv : k1 < fs.length) (k : mT G I d mc ms (pc + 3) lo st (μ0 ++ L.set k0 (.inr (ci, fs.set k1 (.int x)))) true nc ns Q) : mT G I d mc ms pc lo (.int x :: .ref (a + 3) :: st) (μ0 ++ L) true nc ns Q := by
  refine T_put hd ho hf hr hfi hty (n_get ha hL) hv ?_
  rw [n_set ha]
  exact k
theorem N_putF {i ci k1 q : Nat} {fs : List Value} {r : vw_C} {ty : FieldType} (ha : a = μ0.length + k0) (hL : L[k0]? = some (.inr (ci, fs))) (hd : decode I.2.1 pc = .ok (.putfield i, 3)) (ho : mOwn.getD I.2.2.2.2.1 "" = I.1.cls) (hf : (mFl I.2.2.2.2.1).lookup i = some (ci, k1, false)) (hr : mCl[ci]? = some r) (hfi : (r.2.1 k1).2.2.2 = true) (hnm0 : I.1.name = "<init>") (hdc : (r.2.1 k1).1 = I.1.cls) (hty : parseFieldDescriptor (r.2.1 k1).2.2.1 = some ty) (hrt : (∃ n, ty = .object n) ∨ ∃ t, ty = .array t) (hv : k1 < fs.length) (k : mT G I d mc ms (pc + 3) lo st (μ0 ++ L.set k0 (.inr (ci, fs.set k1 (.ref q)))) true nc ns Q) : mT G I d mc ms pc lo (.ref q :: .ref (a + 3) :: st) (μ0 ++ L) true nc ns Q := by
  refine T_putF hd ho hf hr hfi hnm0 hdc hty hrt (n_get ha hL) hv ?_
  rw [n_set ha]
  exact k
theorem N_get {i ci k1 : Nat} {nest : Bool} {fs : List Value} {v : Value} (ha : a = μ0.length + k0) (hL : L[k0]? = some (.inr (ci, fs))) (hd : decode I.2.1 pc = .ok (.getfield i, 3)) (ho : mOwn.getD I.2.2.2.2.1 "" = I.1.cls) (hf : (mFl I.2.2.2.2.1).lookup i = some (ci, k1, nest)) (hv : fs[k1]? = some v) (k : mT G I d mc ms (pc + 3) lo (v :: st) (μ0 ++ L) true nc ns Q) : mT G I d mc ms pc lo (.ref (a + 3) :: st) (μ0 ++ L) true nc ns Q := T_get hd ho hf (n_get ha hL) hv k
theorem N_iast {n j : Nat} {f : Nat → Int32} {x : Int32} (ha : a = μ0.length + k0) (hL : L[k0]? = some (.inl (0, n, .inl f))) (hd : decode I.2.1 pc = .ok (.iastore, 1)) (hn : n < 2 ^ 31) (hj : j < n) (k : mT G I d mc ms (pc + 1) lo st (μ0 ++ L.set k0 (.inl (0, n, .inl (upd f j x)))) true nc ns Q) : mT G I d mc ms pc lo (.int x :: .int (nI j) :: .ref (a + 3) :: st) (μ0 ++ L) true nc ns Q := by
  refine T_iastore hd (n_get ha hL) (nI_in2 hj hn) ?_
  rw [n_set ha, nI_clamp (by omega)]
  exact k
theorem N_iald {n j : Nat} {f : Nat → Int32} (ha : a = μ0.length + k0) (hL : L[k0]? = some (.inl (0, n, .inl f))) (hd : decode I.2.1 pc = .ok (.iaload, 1)) (hn : n < 2 ^ 31) (hj : j < n) (k : mT G I d mc ms (pc + 1) lo (.int (f j) :: st) (μ0 ++ L) true nc ns Q) : mT G I d mc ms pc lo (.int (nI j) :: .ref (a + 3) :: st) (μ0 ++ L) true nc ns Q := by
  refine T_iaload hd (n_get ha hL) (nI_in2 hj hn) ?_
  rw [nI_clamp (by omega)]
  exact k
theorem N_aast {n j b k2 : Nat} {vs : List Value} {f : Nat → Option Nat} (ha : a = μ0.length + k0) (hL : L[k0]? = some (.inl (4, n, .inr (.inr (.inr (.inr f)))))) (hb : b = μ0.length + k2) (hL2 : L[k2]? = some (.inr (3, vs))) (hd : decode I.2.1 pc = .ok (.aastore, 1)) (hn : n < 2 ^ 31) (hj : j < n) (k : mT G I d mc ms (pc + 1) lo st (μ0 ++ L.set k0 (.inl (4, n, .inr (.inr (.inr (.inr (va_up f j (some (b + 3))))))))) true nc ns Q) : mT G I d mc ms pc lo (.ref (b + 3) :: .int (nI j) :: .ref (a + 3) :: st) (μ0 ++ L) true nc ns Q := by
  refine T_aastore hd (n_get ha hL) (n_get hb hL2) (nI_in2 hj hn) ?_
  rw [n_set ha, nI_clamp (by omega)]
  exact k
theorem N_call {i kd d1 mc1 ms1 : Nat} {J : mI} {obj : va_E} {new : Nat → List va_E} (hC : ∀ μ : List va_E, mC G J d1 mc1 ms1 [.ref (μ.length + 3)] (μ ++ [obj]) true (fun r μ1 ex1 => r = none ∧ ex1 = true ∧ μ1 = μ ++ new μ.length)) (hnl : ∀ b, (new b).length = mc1 + 1) (hk : L.length = k0) (ha : a = μ0.length + k0) (hd : decode I.2.1 pc = .ok (.invokespecial i, 3)) (ho : mOwn.getD I.2.2.2.2.1 "" = I.1.cls) (hf : (mCa I.2.2.2.2.1).lookup i = some (kd, J)) (hkd : kd = 2 ∨ kd = 5) (hrt : J.2.2.2.1 = none) (hnp : 0 = J.2.2.2.2.2) (hml : 0 + 1 ≤ J.2.2.1 ∧ J.2.2.1 ≤ 40) (hst : (st.map fun v => v.category).sum ≤ 8) (hdd : d1 < d) (hmc : nc + mc1 ≤ mc) (hms : ns + ms1 ≤ ms) (k : mT G I d mc ms (pc + 3) lo st (μ0 ++ (L ++ new (μ0.length + k0))) true (nc + mc1) (ns + ms1) Q) : mT G I d mc ms pc lo (.ref (a + 3) :: st) (μ0 ++ (L ++ [obj])) true nc ns Q := by
  have h := hC (μ0 ++ L)
  have el : (μ0 ++ L).length = a := by rw [List.length_append, hk, ha]
  rw [el] at h
  rw [← List.append_assoc]
  refine T_callI (as := []) hd ho hf hkd hrt hnp hml (by intro v hv; cases hv) hst hdd hmc hms h (fun r μ1 ex1 h1 h2 => ?_) (fun r μ1 ex1 h1 => ?_)
  · refine ⟨rfl, ?_⟩
    rw [h1.2.2, List.length_append, hnl, List.length_append]
    simp only [List.length_append, List.length_cons, List.length_nil]
    omega
  · obtain ⟨h1, h2, h3⟩ := h1
    rw [h1, h2, h3, List.append_assoc, ha]
    exact k
section OW
variable {x : va_E} {R R2 R3 A B : List va_E} {p0 : va_E}
theorem app2 {e : va_E} : (A ++ p0 :: B) ++ [e] = A ++ p0 :: (B ++ [e]) := by rw [List.append_assoc]; rfl
theorem app3 {N : List va_E} : (A ++ p0 :: B) ++ N = A ++ p0 :: (B ++ N) := by rw [List.append_assoc]; rfl
theorem o_lget {e : va_E} (hR : R.length + 1 = k0) : (x :: (R ++ [e]))[k0]? = some e := by
  subst hR
  rw [List.getElem?_cons_succ, List.getElem?_append_right (Nat.le_refl _), Nat.sub_self]
  rfl
theorem o_lset {e e2 : va_E} (hR : R.length + 1 = k0) : (x :: (R ++ [e])).set k0 e2 = x :: (R ++ [e2]) := by
  subst hR
  rw [List.set_cons_succ, List.set_append_right _ _ (Nat.le_refl _), Nat.sub_self]
  rfl
theorem o_pget (hA : A.length + 1 = k0) : (x :: (A ++ p0 :: B))[k0]? = some p0 := by
  subst hA
  rw [List.getElem?_cons_succ, List.getElem?_append_right (Nat.le_refl _), Nat.sub_self]
  rfl
theorem o_pset {p2 : va_E} (hA : A.length + 1 = k0) : (x :: (A ++ p0 :: B)).set k0 p2 = x :: (A ++ p2 :: B) := by
  subst hA
  rw [List.set_cons_succ, List.set_append_right _ _ (Nat.le_refl _), Nat.sub_self]
  rfl
theorem O_new_int {N : Nat} (hd : decode I.2.1 pc = .ok (.newarray .int, 2)) (hb : N ≤ 100000) (hR : R.length + 1 = k0) (h2 : R ++ [.inl (0, N, .inl (fun _ => 0))] = R2) (hc1 : nc + 1 ≤ mc) (hs1 : ns + N ≤ ms) (k : mT G I d mc ms (pc + 2) lo (.ref (μ0.length + k0 + 3) :: st) (μ0 ++ (x :: R2)) true (nc + 1) (ns + N) Q) : mT G I d mc ms pc lo (.int (nI N) :: st) (μ0 ++ (x :: R)) true nc ns Q := by
  subst h2
  exact N_new_int hd hb (by rw [List.length_cons]; exact hR) hc1 hs1 k
theorem O_new_byte {N : Nat} (hd : decode I.2.1 pc = .ok (.newarray .byte, 2)) (hb : N ≤ 100000) (hR : R.length + 1 = k0) (h2 : R ++ [.inl (1, N, .inl (fun _ => 0))] = R2) (hc1 : nc + 1 ≤ mc) (hs1 : ns + N ≤ ms) (k : mT G I d mc ms (pc + 2) lo (.ref (μ0.length + k0 + 3) :: st) (μ0 ++ (x :: R2)) true (nc + 1) (ns + N) Q) : mT G I d mc ms pc lo (.int (nI N) :: st) (μ0 ++ (x :: R)) true nc ns Q := by
  subst h2
  exact N_new_byte hd hb (by rw [List.length_cons]; exact hR) hc1 hs1 k
theorem O_new_boolean {N : Nat} (hd : decode I.2.1 pc = .ok (.newarray .boolean, 2)) (hb : N ≤ 100000) (hR : R.length + 1 = k0) (h2 : R ++ [.inl (2, N, .inl (fun _ => 0))] = R2) (hc1 : nc + 1 ≤ mc) (hs1 : ns + N ≤ ms) (k : mT G I d mc ms (pc + 2) lo (.ref (μ0.length + k0 + 3) :: st) (μ0 ++ (x :: R2)) true (nc + 1) (ns + N) Q) : mT G I d mc ms pc lo (.int (nI N) :: st) (μ0 ++ (x :: R)) true nc ns Q := by
  subst h2
  exact N_new_boolean hd hb (by rw [List.length_cons]; exact hR) hc1 hs1 k
theorem O_anew {i N : Nat} (hd : decode I.2.1 pc = .ok (.anewarray i, 3)) (ho : mOwn.getD I.2.2.2.2.1 "" = I.1.cls) (hf : (mNw I.2.2.2.2.1).lookup i = some 3) (hb : N ≤ 100000) (hR : R.length + 1 = k0) (h2 : R ++ [.inl (4, N, .inr (.inr (.inr (.inr (fun _ => none)))))] = R2) (hc1 : nc + 1 ≤ mc) (hs1 : ns + N ≤ ms) (k : mT G I d mc ms (pc + 3) lo (.ref (μ0.length + k0 + 3) :: st) (μ0 ++ (x :: R2)) true (nc + 1) (ns + N) Q) : mT G I d mc ms pc lo (.int (nI N) :: st) (μ0 ++ (x :: R)) true nc ns Q := by
  subst h2
  exact N_anew hd ho hf hb (by rw [List.length_cons]; exact hR) hc1 hs1 k
theorem O_new {i ci : Nat} {r : vw_C} {ty : Nat → FieldType} {fs : List Value} (hd : decode I.2.1 pc = .ok (.new i, 3)) (ho : mOwn.getD I.2.2.2.2.1 "" = I.1.cls) (hf : (mNw I.2.2.2.2.1).lookup i = some ci) (hr : mCl[ci]? = some r) (hty : ∀ k, k < r.2.2 → parseFieldDescriptor (r.2.1 k).2.2.1 = some (ty k)) (hfs : ∀ j, j < r.2.2 → defaultValue (ty j) = vp_V fs j) (hfn : fs.map (mTr G) = fs) (hR : R.length + 1 = k0) (h2 : R ++ [.inr (ci, fs)] = R2) (hc1 : nc + 1 ≤ mc) (hs1 : ns + r.2.2 ≤ ms) (k : mT G I d mc ms (pc + 3) lo (.ref (μ0.length + k0 + 3) :: st) (μ0 ++ (x :: R2)) true (nc + 1) (ns + r.2.2) Q) : mT G I d mc ms pc lo st (μ0 ++ (x :: R)) true nc ns Q := by
  subst h2
  exact N_new hd ho hf hr hty hfs hfn (by rw [List.length_cons]; exact hR) hc1 hs1 k
theorem O_put {i ci k1 : Nat} {nest : Bool} {fs fs2 : List Value} {v : Int32} {r : vw_C} (hd : decode I.2.1 pc = .ok (.putfield i, 3)) (ho : mOwn.getD I.2.2.2.2.1 "" = I.1.cls) (hf : (mFl I.2.2.2.2.1).lookup i = some (ci, k1, nest)) (hr : mCl[ci]? = some r) (hfi : (r.2.1 k1).2.2.2 = false) (hty : (r.2.1 k1).2.2.1 = "I") (hv : k1 < fs.length) (h2 : fs.set k1 (.int v) = fs2) (k : mT G I d mc ms (pc + 3) lo st (μ0 ++ (.inr (ci, fs2) :: R)) true nc ns Q) : mT G I d mc ms pc lo (.int v :: .ref (μ0.length + 3) :: st) (μ0 ++ (.inr (ci, fs) :: R)) true nc ns Q := by
  subst h2
  exact N_put (k0 := 0) rfl rfl hd ho hf hr hfi hty hv k
theorem O_putF {i ci k1 q : Nat} {fs fs2 : List Value} {r : vw_C} {ty : FieldType} (hd : decode I.2.1 pc = .ok (.putfield i, 3)) (ho : mOwn.getD I.2.2.2.2.1 "" = I.1.cls) (hf : (mFl I.2.2.2.2.1).lookup i = some (ci, k1, false)) (hr : mCl[ci]? = some r) (hfi : (r.2.1 k1).2.2.2 = true) (hnm0 : I.1.name = "<init>") (hdc : (r.2.1 k1).1 = I.1.cls) (hty : parseFieldDescriptor (r.2.1 k1).2.2.1 = some ty) (hrt : (∃ n, ty = .object n) ∨ ∃ t, ty = .array t) (hv : k1 < fs.length) (h2 : fs.set k1 (.ref q) = fs2) (k : mT G I d mc ms (pc + 3) lo st (μ0 ++ (.inr (ci, fs2) :: R)) true nc ns Q) : mT G I d mc ms pc lo (.ref q :: .ref (μ0.length + 3) :: st) (μ0 ++ (.inr (ci, fs) :: R)) true nc ns Q := by
  subst h2
  exact N_putF (k0 := 0) rfl rfl hd ho hf hr hfi hnm0 hdc hty hrt hv k
theorem O_get {i ci k1 : Nat} {nest : Bool} {fs : List Value} {v : Value} (hd : decode I.2.1 pc = .ok (.getfield i, 3)) (ho : mOwn.getD I.2.2.2.2.1 "" = I.1.cls) (hf : (mFl I.2.2.2.2.1).lookup i = some (ci, k1, nest)) (hv : fs[k1]? = some v) (k : mT G I d mc ms (pc + 3) lo (v :: st) (μ0 ++ (.inr (ci, fs) :: R)) true nc ns Q) : mT G I d mc ms pc lo (.ref (μ0.length + 3) :: st) (μ0 ++ (.inr (ci, fs) :: R)) true nc ns Q := N_get (k0 := 0) rfl rfl hd ho hf hv k
/-- into the newest row -/
theorem O_liast {n j : Nat} {f : Nat → Int32} {v : Int32} (hR : R.length + 1 = k0) (h2 : R ++ [.inl (0, n, .inl f)] = R2) (h3 : R ++ [.inl (0, n, .inl (upd f j v))] = R3) (hd : decode I.2.1 pc = .ok (.iastore, 1)) (hn : n < 2 ^ 31) (hj : j < n) (k : mT G I d mc ms (pc + 1) lo st (μ0 ++ (x :: R3)) true nc ns Q) : mT G I d mc ms pc lo (.int v :: .int (nI j) :: .ref (μ0.length + k0 + 3) :: st) (μ0 ++ (x :: R2)) true nc ns Q := by
  subst h2
  subst h3
  refine N_iast (k0 := k0) rfl (o_lget hR) hd hn hj ?_
  rw [o_lset hR]
  exact k
theorem O_liald {n j : Nat} {f : Nat → Int32} (hR : R.length + 1 = k0) (h2 : R ++ [.inl (0, n, .inl f)] = R2) (hd : decode I.2.1 pc = .ok (.iaload, 1)) (hn : n < 2 ^ 31) (hj : j < n) (k : mT G I d mc ms (pc + 1) lo (.int (f j) :: st) (μ0 ++ (x :: R2)) true nc ns Q) : mT G I d mc ms pc lo (.int (nI j) :: .ref (μ0.length + k0 + 3) :: st) (μ0 ++ (x :: R2)) true nc ns Q := by
  subst h2
  exact N_iald (k0 := k0) rfl (o_lget hR) hd hn hj k
/-- into a row in the middle -/
theorem O_piast {n j : Nat} {f : Nat → Int32} {v : Int32} (hA : A.length + 1 = k0) (hd : decode I.2.1 pc = .ok (.iastore, 1)) (hn : n < 2 ^ 31) (hj : j < n) (k : mT G I d mc ms (pc + 1) lo st (μ0 ++ (x :: (A ++ .inl (0, n, .inl (upd f j v)) :: B))) true nc ns Q) : mT G I d mc ms pc lo (.int v :: .int (nI j) :: .ref (μ0.length + k0 + 3) :: st) (μ0 ++ (x :: (A ++ .inl (0, n, .inl f) :: B))) true nc ns Q := by
  refine N_iast (k0 := k0) rfl (o_pget hA) hd hn hj ?_
  rw [o_pset hA]
  exact k
theorem O_paast {n j b k2 : Nat} {vs : List Value} {f : Nat → Option Nat} (hA : A.length + 1 = k0) (hb : b = μ0.length + k2) (hL2 : (x :: (A ++ .inl (4, n, .inr (.inr (.inr (.inr f)))) :: B))[k2]? = some (.inr (3, vs))) (hd : decode I.2.1 pc = .ok (.aastore, 1)) (hn : n < 2 ^ 31) (hj : j < n) (k : mT G I d mc ms (pc + 1) lo st (μ0 ++ (x :: (A ++ .inl (4, n, .inr (.inr (.inr (.inr (va_up f j (some (b + 3))))))) :: B))) true nc ns Q) : mT G I d mc ms pc lo (.ref (b + 3) :: .int (nI j) :: .ref (μ0.length + k0 + 3) :: st) (μ0 ++ (x :: (A ++ .inl (4, n, .inr (.inr (.inr (.inr f)))) :: B))) true nc ns Q := by
  refine N_aast (k0 := k0) rfl (o_pget hA) hb hL2 hd hn hj ?_
  rw [o_pset hA]
  exact k
theorem o_bget {N : List va_E} {e : va_E} (hA : A.length + 1 + 1 + B.length = k0) (hN : N[0]? = some e) : (x :: (A ++ p0 :: (B ++ N)))[k0]? = some e := by
  subst hA
  rw [show A.length + 1 + 1 + B.length = (A.length + (B.length + 1)) + 1 by omega, List.getElem?_cons_succ, List.getElem?_append_right (by omega), Nat.add_sub_cancel_left, List.getElem?_cons_succ, List.getElem?_append_right (Nat.le_refl _), Nat.sub_self]
  exact hN
theorem O_call {i kd d1 mc1 ms1 : Nat} {J : mI} {obj : va_E} {new : Nat → List va_E} (hC : ∀ μ : List va_E, mC G J d1 mc1 ms1 [.ref (μ.length + 3)] (μ ++ [obj]) true (fun r μ1 ex1 => r = none ∧ ex1 = true ∧ μ1 = μ ++ new μ.length)) (hnl : ∀ b, (new b).length = mc1 + 1) (hR : R.length + 1 = k0) (h2 : R ++ [obj] = R2) (h3 : R ++ new (μ0.length + k0) = R3) (hd : decode I.2.1 pc = .ok (.invokespecial i, 3)) (ho : mOwn.getD I.2.2.2.2.1 "" = I.1.cls) (hf : (mCa I.2.2.2.2.1).lookup i = some (kd, J)) (hkd : kd = 2 ∨ kd = 5) (hrt : J.2.2.2.1 = none) (hnp : 0 = J.2.2.2.2.2) (hml : 0 + 1 ≤ J.2.2.1 ∧ J.2.2.1 ≤ 40) (hst : (st.map fun v => v.category).sum ≤ 8) (hdd : d1 < d) (hmc : nc + mc1 ≤ mc) (hms : ns + ms1 ≤ ms) (k : mT G I d mc ms (pc + 3) lo st (μ0 ++ (x :: R3)) true (nc + mc1) (ns + ms1) Q) : mT G I d mc ms pc lo (.ref (μ0.length + k0 + 3) :: st) (μ0 ++ (x :: R2)) true nc ns Q := by
  subst h2
  subst h3
  exact N_call (L := x :: R) hC hnl (by rw [List.length_cons]; exact hR) rfl hd ho hf hkd hrt hnp hml hst hdd hmc hms k
end OW
end NW

section CT
variable {G : mG} {d : Nat}
def n_told (b : Nat) : List va_E := .inr (3, [.int 0, .ref (b + 1 + 3), .ref (b + 2 + 3), .ref (b + 3 + 3), .int 0, .ref (b + 4 + 3), .ref (b + 5 + 3), .ref (b + 6 + 3), .ref (b + 7 + 3)]) :: ((((((([] ++ [.inl (0, 6, .inl (fun _ => 0))]) ++ [.inl (0, 6, .inl (fun _ => 0))]) ++ [.inl (0, 420, .inl (fun _ => 0))]) ++ [.inl (0, 4, .inl (fun _ => 0))]) ++ [.inl (0, 4, .inl (fun _ => 0))]) ++ [.inl (0, 6, .inl (upd (upd (upd (upd (upd (upd (fun _ => 0) 0 (nI 0)) 1 (nI 30)) 2 (nI 60)) 3 (nI 90)) 4 (nI 120)) 5 (nI 200)))]) ++ [.inl (0, 8, .inl (upd (upd (upd (upd (upd (upd (upd (upd (fun _ => 0) 0 (nI 42)) 1 (nI 7)) 2 (nI 1)) 3 (nI 2)) 4 (nI 150)) 5 (nI 5)) 6 (nI 2100)) 7 (nI 150)))])
theorem l_told : ∀ b, (n_told b).length = 7 + 1 := fun b => rfl
theorem c_told (μ0 : List va_E) : mC G mX3_init d 7 454 [.ref (μ0.length + 3)] (μ0 ++ [.inr (3, [.int 0, .null, .null, .null, .int 0, .null, .null, .null, .null])]) true (fun r μ1 ex1 => r = none ∧ ex1 = true ∧ μ1 = μ0 ++ n_told μ0.length) := by
  refine T_aload_n dX3_init_0 rfl ?_
  refine T_objInit dX3_init_1 rfl rfl (Nat.le_of_ble_eq_true rfl) ?_
  refine T_aload_n dX3_init_4 rfl ?_
  refine T_bipush (v := nI 6) dX3_init_5 rfl ?_
  refine O_new_int (k0 := 1) dX3_init_7 (Nat.le_of_ble_eq_true rfl) (by simp only [List.nil_append, List.length_append, List.length_cons, List.length_nil]) rfl (Nat.le_of_ble_eq_true rfl) (Nat.le_of_ble_eq_true rfl) ?_
  refine O_putF (fs2 := [.int 0, .ref (μ0.length + 1 + 3), .null, .null, .int 0, .null, .null, .null, .null]) dX3_init_9 rfl rfl rfl rfl rfl rfl (ty := tyX3 1) rfl (Or.inr ⟨_, rfl⟩) (Nat.le_of_ble_eq_true rfl) rfl ?_
  refine T_aload_n dX3_init_12 rfl ?_
  refine T_bipush (v := nI 6) dX3_init_13 rfl ?_
  refine O_new_int (k0 := 2) dX3_init_15 (Nat.le_of_ble_eq_true rfl) (by simp only [List.nil_append, List.length_append, List.length_cons, List.length_nil]) rfl (Nat.le_of_ble_eq_true rfl) (Nat.le_of_ble_eq_true rfl) ?_
  refine O_putF (fs2 := [.int 0, .ref (μ0.length + 1 + 3), .ref (μ0.length + 2 + 3), .null, .int 0, .null, .null, .null, .null]) dX3_init_17 rfl rfl rfl rfl rfl rfl (ty := tyX3 2) rfl (Or.inr ⟨_, rfl⟩) (Nat.le_of_ble_eq_true rfl) rfl ?_
  refine T_aload_n dX3_init_20 rfl ?_
  refine T_sipush (v := nI 420) dX3_init_21 rfl ?_
  refine O_new_int (k0 := 3) dX3_init_24 (Nat.le_of_ble_eq_true rfl) (by simp only [List.nil_append, List.length_append, List.length_cons, List.length_nil]) rfl (Nat.le_of_ble_eq_true rfl) (Nat.le_of_ble_eq_true rfl) ?_
  refine O_putF (fs2 := [.int 0, .ref (μ0.length + 1 + 3), .ref (μ0.length + 2 + 3), .ref (μ0.length + 3 + 3), .int 0, .null, .null, .null, .null]) dX3_init_26 rfl rfl rfl rfl rfl rfl (ty := tyX3 3) rfl (Or.inr ⟨_, rfl⟩) (Nat.le_of_ble_eq_true rfl) rfl ?_
  refine T_aload_n dX3_init_29 rfl ?_
  refine T_iconst (v := nI 4) dX3_init_30 rfl ?_
  refine O_new_int (k0 := 4) dX3_init_31 (Nat.le_of_ble_eq_true rfl) (by simp only [List.nil_append, List.length_append, List.length_cons, List.length_nil]) rfl (Nat.le_of_ble_eq_true rfl) (Nat.le_of_ble_eq_true rfl) ?_
  refine O_putF (fs2 := [.int 0, .ref (μ0.length + 1 + 3), .ref (μ0.length + 2 + 3), .ref (μ0.length + 3 + 3), .int 0, .ref (μ0.length + 4 + 3), .null, .null, .null]) dX3_init_33 rfl rfl rfl rfl rfl rfl (ty := tyX3 5) rfl (Or.inr ⟨_, rfl⟩) (Nat.le_of_ble_eq_true rfl) rfl ?_
  refine T_aload_n dX3_init_36 rfl ?_
  refine T_iconst (v := nI 4) dX3_init_37 rfl ?_
  refine O_new_int (k0 := 5) dX3_init_38 (Nat.le_of_ble_eq_true rfl) (by simp only [List.nil_append, List.length_append, List.length_cons, List.length_nil]) rfl (Nat.le_of_ble_eq_true rfl) (Nat.le_of_ble_eq_true rfl) ?_
  refine O_putF (fs2 := [.int 0, .ref (μ0.length + 1 + 3), .ref (μ0.length + 2 + 3), .ref (μ0.length + 3 + 3), .int 0, .ref (μ0.length + 4 + 3), .ref (μ0.length + 5 + 3), .null, .null]) dX3_init_40 rfl rfl rfl rfl rfl rfl (ty := tyX3 6) rfl (Or.inr ⟨_, rfl⟩) (Nat.le_of_ble_eq_true rfl) rfl ?_
  refine T_aload_n dX3_init_43 rfl ?_
  refine T_bipush (v := nI 6) dX3_init_44 rfl ?_
  refine O_new_int (k0 := 6) dX3_init_46 (Nat.le_of_ble_eq_true rfl) (by simp only [List.nil_append, List.length_append, List.length_cons, List.length_nil]) rfl (Nat.le_of_ble_eq_true rfl) (Nat.le_of_ble_eq_true rfl) ?_
  refine T_dup dX3_init_48 rfl ?_
  refine T_iconst (v := nI 0) dX3_init_49 rfl ?_
  refine T_iconst (v := nI 0) dX3_init_50 rfl ?_
  refine O_liast (k0 := 6) (j := 0) (by simp only [List.nil_append, List.length_append, List.length_cons, List.length_nil]) rfl rfl dX3_init_51 (by decide) (by decide) ?_
  refine T_dup dX3_init_52 rfl ?_
  refine T_iconst (v := nI 1) dX3_init_53 rfl ?_
  refine T_bipush (v := nI 30) dX3_init_54 rfl ?_
  refine O_liast (k0 := 6) (j := 1) (by simp only [List.nil_append, List.length_append, List.length_cons, List.length_nil]) rfl rfl dX3_init_56 (by decide) (by decide) ?_
  refine T_dup dX3_init_57 rfl ?_
  refine T_iconst (v := nI 2) dX3_init_58 rfl ?_
  refine T_bipush (v := nI 60) dX3_init_59 rfl ?_
  refine O_liast (k0 := 6) (j := 2) (by simp only [List.nil_append, List.length_append, List.length_cons, List.length_nil]) rfl rfl dX3_init_61 (by decide) (by decide) ?_
  refine T_dup dX3_init_62 rfl ?_
  refine T_iconst (v := nI 3) dX3_init_63 rfl ?_
  refine T_bipush (v := nI 90) dX3_init_64 rfl ?_
  refine O_liast (k0 := 6) (j := 3) (by simp only [List.nil_append, List.length_append, List.length_cons, List.length_nil]) rfl rfl dX3_init_66 (by decide) (by decide) ?_
  refine T_dup dX3_init_67 rfl ?_
  refine T_iconst (v := nI 4) dX3_init_68 rfl ?_
  refine T_bipush (v := nI 120) dX3_init_69 rfl ?_
  refine O_liast (k0 := 6) (j := 4) (by simp only [List.nil_append, List.length_append, List.length_cons, List.length_nil]) rfl rfl dX3_init_71 (by decide) (by decide) ?_
  refine T_dup dX3_init_72 rfl ?_
  refine T_iconst (v := nI 5) dX3_init_73 rfl ?_
  refine T_sipush (v := nI 200) dX3_init_74 rfl ?_
  refine O_liast (k0 := 6) (j := 5) (by simp only [List.nil_append, List.length_append, List.length_cons, List.length_nil]) rfl rfl dX3_init_77 (by decide) (by decide) ?_
  refine O_putF (fs2 := [.int 0, .ref (μ0.length + 1 + 3), .ref (μ0.length + 2 + 3), .ref (μ0.length + 3 + 3), .int 0, .ref (μ0.length + 4 + 3), .ref (μ0.length + 5 + 3), .ref (μ0.length + 6 + 3), .null]) dX3_init_78 rfl rfl rfl rfl rfl rfl (ty := tyX3 7) rfl (Or.inr ⟨_, rfl⟩) (Nat.le_of_ble_eq_true rfl) rfl ?_
  refine T_aload_n dX3_init_81 rfl ?_
  refine T_bipush (v := nI 8) dX3_init_82 rfl ?_
  refine O_new_int (k0 := 7) dX3_init_84 (Nat.le_of_ble_eq_true rfl) (by simp only [List.nil_append, List.length_append, List.length_cons, List.length_nil]) rfl (Nat.le_of_ble_eq_true rfl) (Nat.le_of_ble_eq_true rfl) ?_
  refine T_dup dX3_init_86 rfl ?_
  refine T_iconst (v := nI 0) dX3_init_87 rfl ?_
  refine T_bipush (v := nI 42) dX3_init_88 rfl ?_
  refine O_liast (k0 := 7) (j := 0) (by simp only [List.nil_append, List.length_append, List.length_cons, List.length_nil]) rfl rfl dX3_init_90 (by decide) (by decide) ?_
  refine T_dup dX3_init_91 rfl ?_
  refine T_iconst (v := nI 1) dX3_init_92 rfl ?_
  refine T_bipush (v := nI 7) dX3_init_93 rfl ?_
  refine O_liast (k0 := 7) (j := 1) (by simp only [List.nil_append, List.length_append, List.length_cons, List.length_nil]) rfl rfl dX3_init_95 (by decide) (by decide) ?_
  refine T_dup dX3_init_96 rfl ?_
  refine T_iconst (v := nI 2) dX3_init_97 rfl ?_
  refine T_iconst (v := nI 1) dX3_init_98 rfl ?_
  refine O_liast (k0 := 7) (j := 2) (by simp only [List.nil_append, List.length_append, List.length_cons, List.length_nil]) rfl rfl dX3_init_99 (by decide) (by decide) ?_
  refine T_dup dX3_init_100 rfl ?_
  refine T_iconst (v := nI 3) dX3_init_101 rfl ?_
  refine T_iconst (v := nI 2) dX3_init_102 rfl ?_
  refine O_liast (k0 := 7) (j := 3) (by simp only [List.nil_append, List.length_append, List.length_cons, List.length_nil]) rfl rfl dX3_init_103 (by decide) (by decide) ?_
  refine T_dup dX3_init_104 rfl ?_
  refine T_iconst (v := nI 4) dX3_init_105 rfl ?_
  refine T_sipush (v := nI 150) dX3_init_106 rfl ?_
  refine O_liast (k0 := 7) (j := 4) (by simp only [List.nil_append, List.length_append, List.length_cons, List.length_nil]) rfl rfl dX3_init_109 (by decide) (by decide) ?_
  refine T_dup dX3_init_110 rfl ?_
  refine T_iconst (v := nI 5) dX3_init_111 rfl ?_
  refine T_iconst (v := nI 5) dX3_init_112 rfl ?_
  refine O_liast (k0 := 7) (j := 5) (by simp only [List.nil_append, List.length_append, List.length_cons, List.length_nil]) rfl rfl dX3_init_113 (by decide) (by decide) ?_
  refine T_dup dX3_init_114 rfl ?_
  refine T_bipush (v := nI 6) dX3_init_115 rfl ?_
  refine T_sipush (v := nI 2100) dX3_init_117 rfl ?_
  refine O_liast (k0 := 7) (j := 6) (by simp only [List.nil_append, List.length_append, List.length_cons, List.length_nil]) rfl rfl dX3_init_120 (by decide) (by decide) ?_
  refine T_dup dX3_init_121 rfl ?_
  refine T_bipush (v := nI 7) dX3_init_122 rfl ?_
  refine T_sipush (v := nI 150) dX3_init_124 rfl ?_
  refine O_liast (k0 := 7) (j := 7) (by simp only [List.nil_append, List.length_append, List.length_cons, List.length_nil]) rfl rfl dX3_init_127 (by decide) (by decide) ?_
  refine O_putF (fs2 := [.int 0, .ref (μ0.length + 1 + 3), .ref (μ0.length + 2 + 3), .ref (μ0.length + 3 + 3), .int 0, .ref (μ0.length + 4 + 3), .ref (μ0.length + 5 + 3), .ref (μ0.length + 6 + 3), .ref (μ0.length + 7 + 3)]) dX3_init_128 rfl rfl rfl rfl rfl rfl (ty := tyX3 8) rfl (Or.inr ⟨_, rfl⟩) (Nat.le_of_ble_eq_true rfl) rfl ?_
  exact T_vret dX3_init_131 rfl (Nat.le_of_ble_eq_true rfl) (Nat.le_of_ble_eq_true rfl) ⟨rfl, rfl, rfl⟩
def n_tape (b : Nat) : List va_E := .inr (1, [.ref (b + 1 + 3), .int 0, .ref (b + 2 + 3), .ref (b + 3 + 3), .ref (b + 4 + 3), .int 0]) :: (((([] ++ [.inl (1, 400, .inl (fun _ => 0))]) ++ [.inl (0, 401, .inl (fun _ => 0))]) ++ [.inl (0, 401, .inl (fun _ => 0))]) ++ [.inl (0, 401, .inl (fun _ => 0))])
theorem l_tape : ∀ b, (n_tape b).length = 4 + 1 := fun b => rfl
theorem c_tape (μ0 : List va_E) : mC G mX1_init d 4 1603 [.ref (μ0.length + 3)] (μ0 ++ [.inr (1, [.null, .int 0, .null, .null, .null, .int 0])]) true (fun r μ1 ex1 => r = none ∧ ex1 = true ∧ μ1 = μ0 ++ n_tape μ0.length) := by
  refine T_aload_n dX1_init_0 rfl ?_
  refine T_objInit dX1_init_1 rfl rfl (Nat.le_of_ble_eq_true rfl) ?_
  refine T_aload_n dX1_init_4 rfl ?_
  refine T_sipush (v := nI 400) dX1_init_5 rfl ?_
  refine O_new_byte (k0 := 1) dX1_init_8 (Nat.le_of_ble_eq_true rfl) (by simp only [List.nil_append, List.length_append, List.length_cons, List.length_nil]) rfl (Nat.le_of_ble_eq_true rfl) (Nat.le_of_ble_eq_true rfl) ?_
  refine O_putF (fs2 := [.ref (μ0.length + 1 + 3), .int 0, .null, .null, .null, .int 0]) dX1_init_10 rfl rfl rfl rfl rfl rfl (ty := tyX1 0) rfl (Or.inr ⟨_, rfl⟩) (Nat.le_of_ble_eq_true rfl) rfl ?_
  refine T_aload_n dX1_init_13 rfl ?_
  refine T_sipush (v := nI 401) dX1_init_14 rfl ?_
  refine O_new_int (k0 := 2) dX1_init_17 (Nat.le_of_ble_eq_true rfl) (by simp only [List.nil_append, List.length_append, List.length_cons, List.length_nil]) rfl (Nat.le_of_ble_eq_true rfl) (Nat.le_of_ble_eq_true rfl) ?_
  refine O_putF (fs2 := [.ref (μ0.length + 1 + 3), .int 0, .ref (μ0.length + 2 + 3), .null, .null, .int 0]) dX1_init_19 rfl rfl rfl rfl rfl rfl (ty := tyX1 2) rfl (Or.inr ⟨_, rfl⟩) (Nat.le_of_ble_eq_true rfl) rfl ?_
  refine T_aload_n dX1_init_22 rfl ?_
  refine T_sipush (v := nI 401) dX1_init_23 rfl ?_
  refine O_new_int (k0 := 3) dX1_init_26 (Nat.le_of_ble_eq_true rfl) (by simp only [List.nil_append, List.length_append, List.length_cons, List.length_nil]) rfl (Nat.le_of_ble_eq_true rfl) (Nat.le_of_ble_eq_true rfl) ?_
  refine O_putF (fs2 := [.ref (μ0.length + 1 + 3), .int 0, .ref (μ0.length + 2 + 3), .ref (μ0.length + 3 + 3), .null, .int 0]) dX1_init_28 rfl rfl rfl rfl rfl rfl (ty := tyX1 3) rfl (Or.inr ⟨_, rfl⟩) (Nat.le_of_ble_eq_true rfl) rfl ?_
  refine T_aload_n dX1_init_31 rfl ?_
  refine T_sipush (v := nI 401) dX1_init_32 rfl ?_
  refine O_new_int (k0 := 4) dX1_init_35 (Nat.le_of_ble_eq_true rfl) (by simp only [List.nil_append, List.length_append, List.length_cons, List.length_nil]) rfl (Nat.le_of_ble_eq_true rfl) (Nat.le_of_ble_eq_true rfl) ?_
  refine O_putF (fs2 := [.ref (μ0.length + 1 + 3), .int 0, .ref (μ0.length + 2 + 3), .ref (μ0.length + 3 + 3), .ref (μ0.length + 4 + 3), .int 0]) dX1_init_37 rfl rfl rfl rfl rfl rfl (ty := tyX1 4) rfl (Or.inr ⟨_, rfl⟩) (Nat.le_of_ble_eq_true rfl) rfl ?_
  exact T_vret dX1_init_40 rfl (Nat.le_of_ble_eq_true rfl) (Nat.le_of_ble_eq_true rfl) ⟨rfl, rfl, rfl⟩
def n_course (b : Nat) : List va_E := .inr (0, [.ref (b + 1 + 3), .ref (b + 2 + 3), .ref (b + 3 + 3), .ref (b + 4 + 3), .ref (b + 5 + 3), .ref (b + 6 + 3), .ref (b + 7 + 3), .ref (b + 8 + 3), .ref (b + 9 + 3), .ref (b + 10 + 3), .int 0, .int 0]) :: (((((((((([] ++ [.inl (0, 8, .inl (fun _ => 0))]) ++ [.inl (0, 6, .inl (fun _ => 0))]) ++ [.inl (0, 70, .inl (fun _ => 0))]) ++ [.inl (2, 70, .inl (fun _ => 0))]) ++ [.inl (0, 70, .inl (fun _ => 0))]) ++ [.inl (0, 71, .inl (fun _ => 0))]) ++ [.inl (0, 71, .inl (fun _ => 0))]) ++ [.inl (0, 71, .inl (fun _ => 0))]) ++ [.inl (0, 71, .inl (fun _ => 0))]) ++ [.inl (2, 70, .inl (fun _ => 0))])
theorem l_course : ∀ b, (n_course b).length = 10 + 1 := fun b => rfl
theorem c_course (μ0 : List va_E) : mC G mX0_init d 10 578 [.ref (μ0.length + 3)] (μ0 ++ [.inr (0, [.null, .null, .null, .null, .null, .null, .null, .null, .null, .null, .int 0, .int 0])]) true (fun r μ1 ex1 => r = none ∧ ex1 = true ∧ μ1 = μ0 ++ n_course μ0.length) := by
  refine T_aload_n dX0_init_0 rfl ?_
  refine T_objInit dX0_init_1 rfl rfl (Nat.le_of_ble_eq_true rfl) ?_
  refine T_aload_n dX0_init_4 rfl ?_
  refine T_bipush (v := nI 8) dX0_init_5 rfl ?_
  refine O_new_int (k0 := 1) dX0_init_7 (Nat.le_of_ble_eq_true rfl) (by simp only [List.nil_append, List.length_append, List.length_cons, List.length_nil]) rfl (Nat.le_of_ble_eq_true rfl) (Nat.le_of_ble_eq_true rfl) ?_
  refine O_putF (fs2 := [.ref (μ0.length + 1 + 3), .null, .null, .null, .null, .null, .null, .null, .null, .null, .int 0, .int 0]) dX0_init_9 rfl rfl rfl rfl rfl rfl (ty := tyX0 0) rfl (Or.inr ⟨_, rfl⟩) (Nat.le_of_ble_eq_true rfl) rfl ?_
  refine T_aload_n dX0_init_12 rfl ?_
  refine T_bipush (v := nI 6) dX0_init_13 rfl ?_
  refine O_new_int (k0 := 2) dX0_init_15 (Nat.le_of_ble_eq_true rfl) (by simp only [List.nil_append, List.length_append, List.length_cons, List.length_nil]) rfl (Nat.le_of_ble_eq_true rfl) (Nat.le_of_ble_eq_true rfl) ?_
  refine O_putF (fs2 := [.ref (μ0.length + 1 + 3), .ref (μ0.length + 2 + 3), .null, .null, .null, .null, .null, .null, .null, .null, .int 0, .int 0]) dX0_init_17 rfl rfl rfl rfl rfl rfl (ty := tyX0 1) rfl (Or.inr ⟨_, rfl⟩) (Nat.le_of_ble_eq_true rfl) rfl ?_
  refine T_aload_n dX0_init_20 rfl ?_
  refine T_bipush (v := nI 70) dX0_init_21 rfl ?_
  refine O_new_int (k0 := 3) dX0_init_23 (Nat.le_of_ble_eq_true rfl) (by simp only [List.nil_append, List.length_append, List.length_cons, List.length_nil]) rfl (Nat.le_of_ble_eq_true rfl) (Nat.le_of_ble_eq_true rfl) ?_
  refine O_putF (fs2 := [.ref (μ0.length + 1 + 3), .ref (μ0.length + 2 + 3), .ref (μ0.length + 3 + 3), .null, .null, .null, .null, .null, .null, .null, .int 0, .int 0]) dX0_init_25 rfl rfl rfl rfl rfl rfl (ty := tyX0 2) rfl (Or.inr ⟨_, rfl⟩) (Nat.le_of_ble_eq_true rfl) rfl ?_
  refine T_aload_n dX0_init_28 rfl ?_
  refine T_bipush (v := nI 70) dX0_init_29 rfl ?_
  refine O_new_boolean (k0 := 4) dX0_init_31 (Nat.le_of_ble_eq_true rfl) (by simp only [List.nil_append, List.length_append, List.length_cons, List.length_nil]) rfl (Nat.le_of_ble_eq_true rfl) (Nat.le_of_ble_eq_true rfl) ?_
  refine O_putF (fs2 := [.ref (μ0.length + 1 + 3), .ref (μ0.length + 2 + 3), .ref (μ0.length + 3 + 3), .ref (μ0.length + 4 + 3), .null, .null, .null, .null, .null, .null, .int 0, .int 0]) dX0_init_33 rfl rfl rfl rfl rfl rfl (ty := tyX0 3) rfl (Or.inr ⟨_, rfl⟩) (Nat.le_of_ble_eq_true rfl) rfl ?_
  refine T_aload_n dX0_init_36 rfl ?_
  refine T_bipush (v := nI 70) dX0_init_37 rfl ?_
  refine O_new_int (k0 := 5) dX0_init_39 (Nat.le_of_ble_eq_true rfl) (by simp only [List.nil_append, List.length_append, List.length_cons, List.length_nil]) rfl (Nat.le_of_ble_eq_true rfl) (Nat.le_of_ble_eq_true rfl) ?_
  refine O_putF (fs2 := [.ref (μ0.length + 1 + 3), .ref (μ0.length + 2 + 3), .ref (μ0.length + 3 + 3), .ref (μ0.length + 4 + 3), .ref (μ0.length + 5 + 3), .null, .null, .null, .null, .null, .int 0, .int 0]) dX0_init_41 rfl rfl rfl rfl rfl rfl (ty := tyX0 4) rfl (Or.inr ⟨_, rfl⟩) (Nat.le_of_ble_eq_true rfl) rfl ?_
  refine T_aload_n dX0_init_44 rfl ?_
  refine T_bipush (v := nI 71) dX0_init_45 rfl ?_
  refine O_new_int (k0 := 6) dX0_init_47 (Nat.le_of_ble_eq_true rfl) (by simp only [List.nil_append, List.length_append, List.length_cons, List.length_nil]) rfl (Nat.le_of_ble_eq_true rfl) (Nat.le_of_ble_eq_true rfl) ?_
  refine O_putF (fs2 := [.ref (μ0.length + 1 + 3), .ref (μ0.length + 2 + 3), .ref (μ0.length + 3 + 3), .ref (μ0.length + 4 + 3), .ref (μ0.length + 5 + 3), .ref (μ0.length + 6 + 3), .null, .null, .null, .null, .int 0, .int 0]) dX0_init_49 rfl rfl rfl rfl rfl rfl (ty := tyX0 5) rfl (Or.inr ⟨_, rfl⟩) (Nat.le_of_ble_eq_true rfl) rfl ?_
  refine T_aload_n dX0_init_52 rfl ?_
  refine T_bipush (v := nI 71) dX0_init_53 rfl ?_
  refine O_new_int (k0 := 7) dX0_init_55 (Nat.le_of_ble_eq_true rfl) (by simp only [List.nil_append, List.length_append, List.length_cons, List.length_nil]) rfl (Nat.le_of_ble_eq_true rfl) (Nat.le_of_ble_eq_true rfl) ?_
  refine O_putF (fs2 := [.ref (μ0.length + 1 + 3), .ref (μ0.length + 2 + 3), .ref (μ0.length + 3 + 3), .ref (μ0.length + 4 + 3), .ref (μ0.length + 5 + 3), .ref (μ0.length + 6 + 3), .ref (μ0.length + 7 + 3), .null, .null, .null, .int 0, .int 0]) dX0_init_57 rfl rfl rfl rfl rfl rfl (ty := tyX0 6) rfl (Or.inr ⟨_, rfl⟩) (Nat.le_of_ble_eq_true rfl) rfl ?_
  refine T_aload_n dX0_init_60 rfl ?_
  refine T_bipush (v := nI 71) dX0_init_61 rfl ?_
  refine O_new_int (k0 := 8) dX0_init_63 (Nat.le_of_ble_eq_true rfl) (by simp only [List.nil_append, List.length_append, List.length_cons, List.length_nil]) rfl (Nat.le_of_ble_eq_true rfl) (Nat.le_of_ble_eq_true rfl) ?_
  refine O_putF (fs2 := [.ref (μ0.length + 1 + 3), .ref (μ0.length + 2 + 3), .ref (μ0.length + 3 + 3), .ref (μ0.length + 4 + 3), .ref (μ0.length + 5 + 3), .ref (μ0.length + 6 + 3), .ref (μ0.length + 7 + 3), .ref (μ0.length + 8 + 3), .null, .null, .int 0, .int 0]) dX0_init_65 rfl rfl rfl rfl rfl rfl (ty := tyX0 7) rfl (Or.inr ⟨_, rfl⟩) (Nat.le_of_ble_eq_true rfl) rfl ?_
  refine T_aload_n dX0_init_68 rfl ?_
  refine T_bipush (v := nI 71) dX0_init_69 rfl ?_
  refine O_new_int (k0 := 9) dX0_init_71 (Nat.le_of_ble_eq_true rfl) (by simp only [List.nil_append, List.length_append, List.length_cons, List.length_nil]) rfl (Nat.le_of_ble_eq_true rfl) (Nat.le_of_ble_eq_true rfl) ?_
  refine O_putF (fs2 := [.ref (μ0.length + 1 + 3), .ref (μ0.length + 2 + 3), .ref (μ0.length + 3 + 3), .ref (μ0.length + 4 + 3), .ref (μ0.length + 5 + 3), .ref (μ0.length + 6 + 3), .ref (μ0.length + 7 + 3), .ref (μ0.length + 8 + 3), .ref (μ0.length + 9 + 3), .null, .int 0, .int 0]) dX0_init_73 rfl rfl rfl rfl rfl rfl (ty := tyX0 8) rfl (Or.inr ⟨_, rfl⟩) (Nat.le_of_ble_eq_true rfl) rfl ?_
  refine T_aload_n dX0_init_76 rfl ?_
  refine T_bipush (v := nI 70) dX0_init_77 rfl ?_
  refine O_new_boolean (k0 := 10) dX0_init_79 (Nat.le_of_ble_eq_true rfl) (by simp only [List.nil_append, List.length_append, List.length_cons, List.length_nil]) rfl (Nat.le_of_ble_eq_true rfl) (Nat.le_of_ble_eq_true rfl) ?_
  refine O_putF (fs2 := [.ref (μ0.length + 1 + 3), .ref (μ0.length + 2 + 3), .ref (μ0.length + 3 + 3), .ref (μ0.length + 4 + 3), .ref (μ0.length + 5 + 3), .ref (μ0.length + 6 + 3), .ref (μ0.length + 7 + 3), .ref (μ0.length + 8 + 3), .ref (μ0.length + 9 + 3), .ref (μ0.length + 10 + 3), .int 0, .int 0]) dX0_init_81 rfl rfl rfl rfl rfl rfl (ty := tyX0 9) rfl (Or.inr ⟨_, rfl⟩) (Nat.le_of_ble_eq_true rfl) rfl ?_
  exact T_vret dX0_init_84 rfl (Nat.le_of_ble_eq_true rfl) (Nat.le_of_ble_eq_true rfl) ⟨rfl, rfl, rfl⟩
def n_teller (b : Nat) : List va_E := .inr (2, [.ref (b + 1 + 3), .ref (b + 6 + 3), .int 0, .int 0, .int 0, .int 0, .int 0, .ref (b + 14 + 3), .ref (b + 15 + 3)]) :: (((([] ++ n_tape (b + 1)) ++ n_told (b + 6)) ++ [.inl (0, 4, .inl (fun _ => 0))]) ++ [.inl (0, 4, .inl (fun _ => 0))])
theorem l_teller : ∀ b, (n_teller b).length = 15 + 1 := fun b => rfl
theorem c_teller (μ0 : List va_E) : mC G mX2_init (d + 1) 15 2080 [.ref (μ0.length + 3)] (μ0 ++ [.inr (2, [.null, .null, .int 0, .int 0, .int 0, .int 0, .int 0, .null, .null])]) true (fun r μ1 ex1 => r = none ∧ ex1 = true ∧ μ1 = μ0 ++ n_teller μ0.length) := by
  refine T_aload_n dX2_init_0 rfl ?_
  refine T_objInit dX2_init_1 rfl rfl (Nat.le_of_ble_eq_true rfl) ?_
  refine T_aload_n dX2_init_4 rfl ?_
  refine O_new (k0 := 1) (fs := [.null, .int 0, .null, .null, .null, .int 0]) dX2_init_5 rfl rfl rfl tyX1_ok (by decide +kernel) rfl (by simp only [List.nil_append, List.length_append, List.length_cons, List.length_nil, l_told, l_tape]) rfl (Nat.le_of_ble_eq_true rfl) (Nat.le_of_ble_eq_true rfl) ?_
  refine T_dup dX2_init_8 rfl ?_
  refine O_call (k0 := 1) (c_tape (G := G) (d := d)) l_tape (by simp only [List.nil_append, List.length_append, List.length_cons, List.length_nil, l_told, l_tape]) rfl rfl dX2_init_9 rfl rfl (by decide) rfl rfl ⟨(Nat.le_of_ble_eq_true rfl), (Nat.le_of_ble_eq_true rfl)⟩ (Nat.le_of_ble_eq_true rfl) (by omega) (Nat.le_of_ble_eq_true rfl) (Nat.le_of_ble_eq_true rfl) ?_
  refine O_putF (fs2 := [.ref (μ0.length + 1 + 3), .null, .int 0, .int 0, .int 0, .int 0, .int 0, .null, .null]) dX2_init_12 rfl rfl rfl rfl rfl rfl (ty := tyX2 0) rfl (Or.inl ⟨_, rfl⟩) (Nat.le_of_ble_eq_true rfl) rfl ?_
  refine T_aload_n dX2_init_15 rfl ?_
  refine O_new (k0 := 6) (fs := [.int 0, .null, .null, .null, .int 0, .null, .null, .null, .null]) dX2_init_16 rfl rfl rfl tyX3_ok (by decide +kernel) rfl (by simp only [List.nil_append, List.length_append, List.length_cons, List.length_nil, l_told, l_tape]) rfl (Nat.le_of_ble_eq_true rfl) (Nat.le_of_ble_eq_true rfl) ?_
  refine T_dup dX2_init_19 rfl ?_
  refine O_call (k0 := 6) (c_told (G := G) (d := d)) l_told (by simp only [List.nil_append, List.length_append, List.length_cons, List.length_nil, l_told, l_tape]) rfl rfl dX2_init_20 rfl rfl (by decide) rfl rfl ⟨(Nat.le_of_ble_eq_true rfl), (Nat.le_of_ble_eq_true rfl)⟩ (Nat.le_of_ble_eq_true rfl) (by omega) (Nat.le_of_ble_eq_true rfl) (Nat.le_of_ble_eq_true rfl) ?_
  refine O_putF (fs2 := [.ref (μ0.length + 1 + 3), .ref (μ0.length + 6 + 3), .int 0, .int 0, .int 0, .int 0, .int 0, .null, .null]) dX2_init_23 rfl rfl rfl rfl rfl rfl (ty := tyX2 1) rfl (Or.inl ⟨_, rfl⟩) (Nat.le_of_ble_eq_true rfl) rfl ?_
  refine T_aload_n dX2_init_26 rfl ?_
  refine T_iconst (v := nI 4) dX2_init_27 rfl ?_
  refine O_new_int (k0 := 14) dX2_init_28 (Nat.le_of_ble_eq_true rfl) (by simp only [List.nil_append, List.length_append, List.length_cons, List.length_nil, l_told, l_tape]) rfl (Nat.le_of_ble_eq_true rfl) (Nat.le_of_ble_eq_true rfl) ?_
  refine O_putF (fs2 := [.ref (μ0.length + 1 + 3), .ref (μ0.length + 6 + 3), .int 0, .int 0, .int 0, .int 0, .int 0, .ref (μ0.length + 14 + 3), .null]) dX2_init_30 rfl rfl rfl rfl rfl rfl (ty := tyX2 7) rfl (Or.inr ⟨_, rfl⟩) (Nat.le_of_ble_eq_true rfl) rfl ?_
  refine T_aload_n dX2_init_33 rfl ?_
  refine T_iconst (v := nI 4) dX2_init_34 rfl ?_
  refine O_new_int (k0 := 15) dX2_init_35 (Nat.le_of_ble_eq_true rfl) (by simp only [List.nil_append, List.length_append, List.length_cons, List.length_nil, l_told, l_tape]) rfl (Nat.le_of_ble_eq_true rfl) (Nat.le_of_ble_eq_true rfl) ?_
  refine O_putF (fs2 := [.ref (μ0.length + 1 + 3), .ref (μ0.length + 6 + 3), .int 0, .int 0, .int 0, .int 0, .int 0, .ref (μ0.length + 14 + 3), .ref (μ0.length + 15 + 3)]) dX2_init_37 rfl rfl rfl rfl rfl rfl (ty := tyX2 8) rfl (Or.inr ⟨_, rfl⟩) (Nat.le_of_ble_eq_true rfl) rfl ?_
  exact T_vret dX2_init_40 rfl (Nat.le_of_ble_eq_true rfl) (Nat.le_of_ble_eq_true rfl) ⟨rfl, rfl, rfl⟩
def n_book (b : Nat) : List va_E := .inr (4, [.ref (b + 1 + 3), .ref (b + 9 + 3), .int 0, .int 0, .ref (b + 10 + 3), .ref (b + 26 + 3), .ref (b + 37 + 3), .ref (b + 48 + 3)]) :: (([] ++ n_told (b + 1)) ++ .inl (4, 8, .inr (.inr (.inr (.inr (va_up (va_up (va_up (va_up (va_up (va_up (va_up (va_up (fun _ => none) 0 (some (b + 49 + 3))) 1 (some (b + 57 + 3))) 2 (some (b + 65 + 3))) 3 (some (b + 73 + 3))) 4 (some (b + 81 + 3))) 5 (some (b + 89 + 3))) 6 (some (b + 97 + 3))) 7 (some (b + 105 + 3))))))) :: (((((((((((([] ++ n_teller (b + 10)) ++ n_course (b + 26)) ++ n_course (b + 37)) ++ [.inl (0, 6, .inl (fun _ => 0))]) ++ n_told (b + 49)) ++ n_told (b + 57)) ++ n_told (b + 65)) ++ n_told (b + 73)) ++ n_told (b + 81)) ++ n_told (b + 89)) ++ n_told (b + 97)) ++ n_told (b + 105)))
theorem l_book : ∀ b, (n_book b).length = 112 + 1 := fun b => rfl
theorem c_book (μ0 : List va_E) : mC G mX4_init (d + 2) 112 7450 [.ref (μ0.length + 3)] (μ0 ++ [.inr (4, [.null, .null, .int 0, .int 0, .null, .null, .null, .null])]) true (fun r μ1 ex1 => r = none ∧ ex1 = true ∧ μ1 = μ0 ++ n_book μ0.length) := by
  refine T_aload_n dX4_init_0 rfl ?_
  refine T_objInit dX4_init_1 rfl rfl (Nat.le_of_ble_eq_true rfl) ?_
  refine T_aload_n dX4_init_4 rfl ?_
  refine O_new (k0 := 1) (fs := [.int 0, .null, .null, .null, .int 0, .null, .null, .null, .null]) dX4_init_5 rfl rfl rfl tyX3_ok (by decide +kernel) rfl (by simp only [List.nil_append, List.length_append, List.length_cons, List.length_nil, l_told, l_teller, l_course]) rfl (Nat.le_of_ble_eq_true rfl) (Nat.le_of_ble_eq_true rfl) ?_
  refine T_dup dX4_init_8 rfl ?_
  refine O_call (k0 := 1) (c_told (G := G) (d := d)) l_told (by simp only [List.nil_append, List.length_append, List.length_cons, List.length_nil, l_told, l_teller, l_course]) rfl rfl dX4_init_9 rfl rfl (by decide) rfl rfl ⟨(Nat.le_of_ble_eq_true rfl), (Nat.le_of_ble_eq_true rfl)⟩ (Nat.le_of_ble_eq_true rfl) (by omega) (Nat.le_of_ble_eq_true rfl) (Nat.le_of_ble_eq_true rfl) ?_
  refine O_putF (fs2 := [.ref (μ0.length + 1 + 3), .null, .int 0, .int 0, .null, .null, .null, .null]) dX4_init_12 rfl rfl rfl rfl rfl rfl (ty := tyX4 0) rfl (Or.inl ⟨_, rfl⟩) (Nat.le_of_ble_eq_true rfl) rfl ?_
  refine T_aload_n dX4_init_15 rfl ?_
  refine T_bipush (v := nI 8) dX4_init_16 rfl ?_
  refine O_anew (k0 := 9) dX4_init_18 rfl rfl (Nat.le_of_ble_eq_true rfl) (by simp only [List.nil_append, List.length_append, List.length_cons, List.length_nil, l_told, l_teller, l_course]) rfl (Nat.le_of_ble_eq_true rfl) (Nat.le_of_ble_eq_true rfl) ?_
  refine O_putF (fs2 := [.ref (μ0.length + 1 + 3), .ref (μ0.length + 9 + 3), .int 0, .int 0, .null, .null, .null, .null]) dX4_init_21 rfl rfl rfl rfl rfl rfl (ty := tyX4 1) rfl (Or.inr ⟨_, rfl⟩) (Nat.le_of_ble_eq_true rfl) rfl ?_
  refine T_aload_n dX4_init_24 rfl ?_
  refine O_new (k0 := 10) (fs := [.null, .null, .int 0, .int 0, .int 0, .int 0, .int 0, .null, .null]) dX4_init_25 rfl rfl rfl tyX2_ok (by decide +kernel) rfl (by simp only [List.nil_append, List.length_append, List.length_cons, List.length_nil, l_told, l_teller, l_course]) app2 (Nat.le_of_ble_eq_true rfl) (Nat.le_of_ble_eq_true rfl) ?_
  refine T_dup dX4_init_28 rfl ?_
  refine O_call (k0 := 10) (c_teller (G := G) (d := d)) l_teller (by simp only [List.nil_append, List.length_append, List.length_cons, List.length_nil, l_told, l_teller, l_course]) app2 app3 dX4_init_29 rfl rfl (by decide) rfl rfl ⟨(Nat.le_of_ble_eq_true rfl), (Nat.le_of_ble_eq_true rfl)⟩ (Nat.le_of_ble_eq_true rfl) (by omega) (Nat.le_of_ble_eq_true rfl) (Nat.le_of_ble_eq_true rfl) ?_
  refine O_putF (fs2 := [.ref (μ0.length + 1 + 3), .ref (μ0.length + 9 + 3), .int 0, .int 0, .ref (μ0.length + 10 + 3), .null, .null, .null]) dX4_init_32 rfl rfl rfl rfl rfl rfl (ty := tyX4 4) rfl (Or.inl ⟨_, rfl⟩) (Nat.le_of_ble_eq_true rfl) rfl ?_
  refine T_aload_n dX4_init_35 rfl ?_
  refine O_new (k0 := 26) (fs := [.null, .null, .null, .null, .null, .null, .null, .null, .null, .null, .int 0, .int 0]) dX4_init_36 rfl rfl rfl tyX0_ok (by decide +kernel) rfl (by simp only [List.nil_append, List.length_append, List.length_cons, List.length_nil, l_told, l_teller, l_course]) app2 (Nat.le_of_ble_eq_true rfl) (Nat.le_of_ble_eq_true rfl) ?_
  refine T_dup dX4_init_39 rfl ?_
  refine O_call (k0 := 26) (c_course (G := G) (d := d)) l_course (by simp only [List.nil_append, List.length_append, List.length_cons, List.length_nil, l_told, l_teller, l_course]) app2 app3 dX4_init_40 rfl rfl (by decide) rfl rfl ⟨(Nat.le_of_ble_eq_true rfl), (Nat.le_of_ble_eq_true rfl)⟩ (Nat.le_of_ble_eq_true rfl) (by omega) (Nat.le_of_ble_eq_true rfl) (Nat.le_of_ble_eq_true rfl) ?_
  refine O_putF (fs2 := [.ref (μ0.length + 1 + 3), .ref (μ0.length + 9 + 3), .int 0, .int 0, .ref (μ0.length + 10 + 3), .ref (μ0.length + 26 + 3), .null, .null]) dX4_init_43 rfl rfl rfl rfl rfl rfl (ty := tyX4 5) rfl (Or.inl ⟨_, rfl⟩) (Nat.le_of_ble_eq_true rfl) rfl ?_
  refine T_aload_n dX4_init_46 rfl ?_
  refine O_new (k0 := 37) (fs := [.null, .null, .null, .null, .null, .null, .null, .null, .null, .null, .int 0, .int 0]) dX4_init_47 rfl rfl rfl tyX0_ok (by decide +kernel) rfl (by simp only [List.nil_append, List.length_append, List.length_cons, List.length_nil, l_told, l_teller, l_course]) app2 (Nat.le_of_ble_eq_true rfl) (Nat.le_of_ble_eq_true rfl) ?_
  refine T_dup dX4_init_50 rfl ?_
  refine O_call (k0 := 37) (c_course (G := G) (d := d)) l_course (by simp only [List.nil_append, List.length_append, List.length_cons, List.length_nil, l_told, l_teller, l_course]) app2 app3 dX4_init_51 rfl rfl (by decide) rfl rfl ⟨(Nat.le_of_ble_eq_true rfl), (Nat.le_of_ble_eq_true rfl)⟩ (Nat.le_of_ble_eq_true rfl) (by omega) (Nat.le_of_ble_eq_true rfl) (Nat.le_of_ble_eq_true rfl) ?_
  refine O_putF (fs2 := [.ref (μ0.length + 1 + 3), .ref (μ0.length + 9 + 3), .int 0, .int 0, .ref (μ0.length + 10 + 3), .ref (μ0.length + 26 + 3), .ref (μ0.length + 37 + 3), .null]) dX4_init_54 rfl rfl rfl rfl rfl rfl (ty := tyX4 6) rfl (Or.inl ⟨_, rfl⟩) (Nat.le_of_ble_eq_true rfl) rfl ?_
  refine T_aload_n dX4_init_57 rfl ?_
  refine T_bipush (v := nI 6) dX4_init_58 rfl ?_
  refine O_new_int (k0 := 48) dX4_init_60 (Nat.le_of_ble_eq_true rfl) (by simp only [List.nil_append, List.length_append, List.length_cons, List.length_nil, l_told, l_teller, l_course]) app2 (Nat.le_of_ble_eq_true rfl) (Nat.le_of_ble_eq_true rfl) ?_
  refine O_putF (fs2 := [.ref (μ0.length + 1 + 3), .ref (μ0.length + 9 + 3), .int 0, .int 0, .ref (μ0.length + 10 + 3), .ref (μ0.length + 26 + 3), .ref (μ0.length + 37 + 3), .ref (μ0.length + 48 + 3)]) dX4_init_62 rfl rfl rfl rfl rfl rfl (ty := tyX4 7) rfl (Or.inr ⟨_, rfl⟩) (Nat.le_of_ble_eq_true rfl) rfl ?_
  refine T_iconst (v := nI 0) dX4_init_65 rfl ?_
  refine T_istore_n dX4_init_66 (Nat.le_of_ble_eq_true rfl) ?_
  refine T_iload_n dX4_init_67 rfl ?_
  refine T_bipush (v := nI 8) dX4_init_68 rfl ?_
  refine T_icmp_ge (tgt := 92) dX4_init_70 rfl (fun z => absurd z (by decide)) (fun _ => ?_)
  refine T_aload_n dX4_init_73 rfl ?_
  refine O_get dX4_init_74 rfl rfl rfl ?_
  refine T_iload_n dX4_init_77 rfl ?_
  refine O_new (k0 := 49) (fs := [.int 0, .null, .null, .null, .int 0, .null, .null, .null, .null]) dX4_init_78 rfl rfl rfl tyX3_ok (by decide +kernel) rfl (by simp only [List.nil_append, List.length_append, List.length_cons, List.length_nil, l_told, l_teller, l_course]) app2 (Nat.le_of_ble_eq_true rfl) (Nat.le_of_ble_eq_true rfl) ?_
  refine T_dup dX4_init_81 rfl ?_
  refine O_call (k0 := 49) (c_told (G := G) (d := d)) l_told (by simp only [List.nil_append, List.length_append, List.length_cons, List.length_nil, l_told, l_teller, l_course]) app2 app3 dX4_init_82 rfl rfl (by decide) rfl rfl ⟨(Nat.le_of_ble_eq_true rfl), (Nat.le_of_ble_eq_true rfl)⟩ (Nat.le_of_ble_eq_true rfl) (by omega) (Nat.le_of_ble_eq_true rfl) (Nat.le_of_ble_eq_true rfl) ?_
  refine O_paast (k0 := 9) (k2 := 49) (j := 0) (by simp only [List.nil_append, List.length_append, List.length_cons, List.length_nil, l_told, l_teller, l_course]) rfl (o_bget (by simp only [List.nil_append, List.length_append, List.length_cons, List.length_nil, l_told, l_teller, l_course]) rfl) dX4_init_85 (by decide) (by decide) ?_
  refine T_iinc (v := nI 1) dX4_init_86 rfl rfl ?_
  refine T_goto (tgt := 67) dX4_init_89 rfl ?_
  refine T_iload_n dX4_init_67 rfl ?_
  refine T_bipush (v := nI 8) dX4_init_68 rfl ?_
  refine T_icmp_ge (tgt := 92) dX4_init_70 rfl (fun z => absurd z (by decide)) (fun _ => ?_)
  refine T_aload_n dX4_init_73 rfl ?_
  refine O_get dX4_init_74 rfl rfl rfl ?_
  refine T_iload_n dX4_init_77 rfl ?_
  refine O_new (k0 := 57) (fs := [.int 0, .null, .null, .null, .int 0, .null, .null, .null, .null]) dX4_init_78 rfl rfl rfl tyX3_ok (by decide +kernel) rfl (by simp only [List.nil_append, List.length_append, List.length_cons, List.length_nil, l_told, l_teller, l_course]) app2 (Nat.le_of_ble_eq_true rfl) (Nat.le_of_ble_eq_true rfl) ?_
  refine T_dup dX4_init_81 rfl ?_
  refine O_call (k0 := 57) (c_told (G := G) (d := d)) l_told (by simp only [List.nil_append, List.length_append, List.length_cons, List.length_nil, l_told, l_teller, l_course]) app2 app3 dX4_init_82 rfl rfl (by decide) rfl rfl ⟨(Nat.le_of_ble_eq_true rfl), (Nat.le_of_ble_eq_true rfl)⟩ (Nat.le_of_ble_eq_true rfl) (by omega) (Nat.le_of_ble_eq_true rfl) (Nat.le_of_ble_eq_true rfl) ?_
  refine O_paast (k0 := 9) (k2 := 57) (j := 1) (by simp only [List.nil_append, List.length_append, List.length_cons, List.length_nil, l_told, l_teller, l_course]) rfl (o_bget (by simp only [List.nil_append, List.length_append, List.length_cons, List.length_nil, l_told, l_teller, l_course]) rfl) dX4_init_85 (by decide) (by decide) ?_
  refine T_iinc (v := nI 2) dX4_init_86 rfl rfl ?_
  refine T_goto (tgt := 67) dX4_init_89 rfl ?_
  refine T_iload_n dX4_init_67 rfl ?_
  refine T_bipush (v := nI 8) dX4_init_68 rfl ?_
  refine T_icmp_ge (tgt := 92) dX4_init_70 rfl (fun z => absurd z (by decide)) (fun _ => ?_)
  refine T_aload_n dX4_init_73 rfl ?_
  refine O_get dX4_init_74 rfl rfl rfl ?_
  refine T_iload_n dX4_init_77 rfl ?_
  refine O_new (k0 := 65) (fs := [.int 0, .null, .null, .null, .int 0, .null, .null, .null, .null]) dX4_init_78 rfl rfl rfl tyX3_ok (by decide +kernel) rfl (by simp only [List.nil_append, List.length_append, List.length_cons, List.length_nil, l_told, l_teller, l_course]) app2 (Nat.le_of_ble_eq_true rfl) (Nat.le_of_ble_eq_true rfl) ?_
  refine T_dup dX4_init_81 rfl ?_
  refine O_call (k0 := 65) (c_told (G := G) (d := d)) l_told (by simp only [List.nil_append, List.length_append, List.length_cons, List.length_nil, l_told, l_teller, l_course]) app2 app3 dX4_init_82 rfl rfl (by decide) rfl rfl ⟨(Nat.le_of_ble_eq_true rfl), (Nat.le_of_ble_eq_true rfl)⟩ (Nat.le_of_ble_eq_true rfl) (by omega) (Nat.le_of_ble_eq_true rfl) (Nat.le_of_ble_eq_true rfl) ?_
  refine O_paast (k0 := 9) (k2 := 65) (j := 2) (by simp only [List.nil_append, List.length_append, List.length_cons, List.length_nil, l_told, l_teller, l_course]) rfl (o_bget (by simp only [List.nil_append, List.length_append, List.length_cons, List.length_nil, l_told, l_teller, l_course]) rfl) dX4_init_85 (by decide) (by decide) ?_
  refine T_iinc (v := nI 3) dX4_init_86 rfl rfl ?_
  refine T_goto (tgt := 67) dX4_init_89 rfl ?_
  refine T_iload_n dX4_init_67 rfl ?_
  refine T_bipush (v := nI 8) dX4_init_68 rfl ?_
  refine T_icmp_ge (tgt := 92) dX4_init_70 rfl (fun z => absurd z (by decide)) (fun _ => ?_)
  refine T_aload_n dX4_init_73 rfl ?_
  refine O_get dX4_init_74 rfl rfl rfl ?_
  refine T_iload_n dX4_init_77 rfl ?_
  refine O_new (k0 := 73) (fs := [.int 0, .null, .null, .null, .int 0, .null, .null, .null, .null]) dX4_init_78 rfl rfl rfl tyX3_ok (by decide +kernel) rfl (by simp only [List.nil_append, List.length_append, List.length_cons, List.length_nil, l_told, l_teller, l_course]) app2 (Nat.le_of_ble_eq_true rfl) (Nat.le_of_ble_eq_true rfl) ?_
  refine T_dup dX4_init_81 rfl ?_
  refine O_call (k0 := 73) (c_told (G := G) (d := d)) l_told (by simp only [List.nil_append, List.length_append, List.length_cons, List.length_nil, l_told, l_teller, l_course]) app2 app3 dX4_init_82 rfl rfl (by decide) rfl rfl ⟨(Nat.le_of_ble_eq_true rfl), (Nat.le_of_ble_eq_true rfl)⟩ (Nat.le_of_ble_eq_true rfl) (by omega) (Nat.le_of_ble_eq_true rfl) (Nat.le_of_ble_eq_true rfl) ?_
  refine O_paast (k0 := 9) (k2 := 73) (j := 3) (by simp only [List.nil_append, List.length_append, List.length_cons, List.length_nil, l_told, l_teller, l_course]) rfl (o_bget (by simp only [List.nil_append, List.length_append, List.length_cons, List.length_nil, l_told, l_teller, l_course]) rfl) dX4_init_85 (by decide) (by decide) ?_
  refine T_iinc (v := nI 4) dX4_init_86 rfl rfl ?_
  refine T_goto (tgt := 67) dX4_init_89 rfl ?_
  refine T_iload_n dX4_init_67 rfl ?_
  refine T_bipush (v := nI 8) dX4_init_68 rfl ?_
  refine T_icmp_ge (tgt := 92) dX4_init_70 rfl (fun z => absurd z (by decide)) (fun _ => ?_)
  refine T_aload_n dX4_init_73 rfl ?_
  refine O_get dX4_init_74 rfl rfl rfl ?_
  refine T_iload_n dX4_init_77 rfl ?_
  refine O_new (k0 := 81) (fs := [.int 0, .null, .null, .null, .int 0, .null, .null, .null, .null]) dX4_init_78 rfl rfl rfl tyX3_ok (by decide +kernel) rfl (by simp only [List.nil_append, List.length_append, List.length_cons, List.length_nil, l_told, l_teller, l_course]) app2 (Nat.le_of_ble_eq_true rfl) (Nat.le_of_ble_eq_true rfl) ?_
  refine T_dup dX4_init_81 rfl ?_
  refine O_call (k0 := 81) (c_told (G := G) (d := d)) l_told (by simp only [List.nil_append, List.length_append, List.length_cons, List.length_nil, l_told, l_teller, l_course]) app2 app3 dX4_init_82 rfl rfl (by decide) rfl rfl ⟨(Nat.le_of_ble_eq_true rfl), (Nat.le_of_ble_eq_true rfl)⟩ (Nat.le_of_ble_eq_true rfl) (by omega) (Nat.le_of_ble_eq_true rfl) (Nat.le_of_ble_eq_true rfl) ?_
  refine O_paast (k0 := 9) (k2 := 81) (j := 4) (by simp only [List.nil_append, List.length_append, List.length_cons, List.length_nil, l_told, l_teller, l_course]) rfl (o_bget (by simp only [List.nil_append, List.length_append, List.length_cons, List.length_nil, l_told, l_teller, l_course]) rfl) dX4_init_85 (by decide) (by decide) ?_
  refine T_iinc (v := nI 5) dX4_init_86 rfl rfl ?_
  refine T_goto (tgt := 67) dX4_init_89 rfl ?_
  refine T_iload_n dX4_init_67 rfl ?_
  refine T_bipush (v := nI 8) dX4_init_68 rfl ?_
  refine T_icmp_ge (tgt := 92) dX4_init_70 rfl (fun z => absurd z (by decide)) (fun _ => ?_)
  refine T_aload_n dX4_init_73 rfl ?_
  refine O_get dX4_init_74 rfl rfl rfl ?_
  refine T_iload_n dX4_init_77 rfl ?_
  refine O_new (k0 := 89) (fs := [.int 0, .null, .null, .null, .int 0, .null, .null, .null, .null]) dX4_init_78 rfl rfl rfl tyX3_ok (by decide +kernel) rfl (by simp only [List.nil_append, List.length_append, List.length_cons, List.length_nil, l_told, l_teller, l_course]) app2 (Nat.le_of_ble_eq_true rfl) (Nat.le_of_ble_eq_true rfl) ?_
  refine T_dup dX4_init_81 rfl ?_
  refine O_call (k0 := 89) (c_told (G := G) (d := d)) l_told (by simp only [List.nil_append, List.length_append, List.length_cons, List.length_nil, l_told, l_teller, l_course]) app2 app3 dX4_init_82 rfl rfl (by decide) rfl rfl ⟨(Nat.le_of_ble_eq_true rfl), (Nat.le_of_ble_eq_true rfl)⟩ (Nat.le_of_ble_eq_true rfl) (by omega) (Nat.le_of_ble_eq_true rfl) (Nat.le_of_ble_eq_true rfl) ?_
  refine O_paast (k0 := 9) (k2 := 89) (j := 5) (by simp only [List.nil_append, List.length_append, List.length_cons, List.length_nil, l_told, l_teller, l_course]) rfl (o_bget (by simp only [List.nil_append, List.length_append, List.length_cons, List.length_nil, l_told, l_teller, l_course]) rfl) dX4_init_85 (by decide) (by decide) ?_
  refine T_iinc (v := nI 6) dX4_init_86 rfl rfl ?_
  refine T_goto (tgt := 67) dX4_init_89 rfl ?_
  refine T_iload_n dX4_init_67 rfl ?_
  refine T_bipush (v := nI 8) dX4_init_68 rfl ?_
  refine T_icmp_ge (tgt := 92) dX4_init_70 rfl (fun z => absurd z (by decide)) (fun _ => ?_)
  refine T_aload_n dX4_init_73 rfl ?_
  refine O_get dX4_init_74 rfl rfl rfl ?_
  refine T_iload_n dX4_init_77 rfl ?_
  refine O_new (k0 := 97) (fs := [.int 0, .null, .null, .null, .int 0, .null, .null, .null, .null]) dX4_init_78 rfl rfl rfl tyX3_ok (by decide +kernel) rfl (by simp only [List.nil_append, List.length_append, List.length_cons, List.length_nil, l_told, l_teller, l_course]) app2 (Nat.le_of_ble_eq_true rfl) (Nat.le_of_ble_eq_true rfl) ?_
  refine T_dup dX4_init_81 rfl ?_
  refine O_call (k0 := 97) (c_told (G := G) (d := d)) l_told (by simp only [List.nil_append, List.length_append, List.length_cons, List.length_nil, l_told, l_teller, l_course]) app2 app3 dX4_init_82 rfl rfl (by decide) rfl rfl ⟨(Nat.le_of_ble_eq_true rfl), (Nat.le_of_ble_eq_true rfl)⟩ (Nat.le_of_ble_eq_true rfl) (by omega) (Nat.le_of_ble_eq_true rfl) (Nat.le_of_ble_eq_true rfl) ?_
  refine O_paast (k0 := 9) (k2 := 97) (j := 6) (by simp only [List.nil_append, List.length_append, List.length_cons, List.length_nil, l_told, l_teller, l_course]) rfl (o_bget (by simp only [List.nil_append, List.length_append, List.length_cons, List.length_nil, l_told, l_teller, l_course]) rfl) dX4_init_85 (by decide) (by decide) ?_
  refine T_iinc (v := nI 7) dX4_init_86 rfl rfl ?_
  refine T_goto (tgt := 67) dX4_init_89 rfl ?_
  refine T_iload_n dX4_init_67 rfl ?_
  refine T_bipush (v := nI 8) dX4_init_68 rfl ?_
  refine T_icmp_ge (tgt := 92) dX4_init_70 rfl (fun z => absurd z (by decide)) (fun _ => ?_)
  refine T_aload_n dX4_init_73 rfl ?_
  refine O_get dX4_init_74 rfl rfl rfl ?_
  refine T_iload_n dX4_init_77 rfl ?_
  refine O_new (k0 := 105) (fs := [.int 0, .null, .null, .null, .int 0, .null, .null, .null, .null]) dX4_init_78 rfl rfl rfl tyX3_ok (by decide +kernel) rfl (by simp only [List.nil_append, List.length_append, List.length_cons, List.length_nil, l_told, l_teller, l_course]) app2 (Nat.le_of_ble_eq_true rfl) (Nat.le_of_ble_eq_true rfl) ?_
  refine T_dup dX4_init_81 rfl ?_
  refine O_call (k0 := 105) (c_told (G := G) (d := d)) l_told (by simp only [List.nil_append, List.length_append, List.length_cons, List.length_nil, l_told, l_teller, l_course]) app2 app3 dX4_init_82 rfl rfl (by decide) rfl rfl ⟨(Nat.le_of_ble_eq_true rfl), (Nat.le_of_ble_eq_true rfl)⟩ (Nat.le_of_ble_eq_true rfl) (by omega) (Nat.le_of_ble_eq_true rfl) (Nat.le_of_ble_eq_true rfl) ?_
  refine O_paast (k0 := 9) (k2 := 105) (j := 7) (by simp only [List.nil_append, List.length_append, List.length_cons, List.length_nil, l_told, l_teller, l_course]) rfl (o_bget (by simp only [List.nil_append, List.length_append, List.length_cons, List.length_nil, l_told, l_teller, l_course]) rfl) dX4_init_85 (by decide) (by decide) ?_
  refine T_iinc (v := nI 8) dX4_init_86 rfl rfl ?_
  refine T_goto (tgt := 67) dX4_init_89 rfl ?_
  refine T_iload_n dX4_init_67 rfl ?_
  refine T_bipush (v := nI 8) dX4_init_68 rfl ?_
  refine T_icmp_ge (tgt := 92) dX4_init_70 rfl (fun _ => ?_) (fun z => absurd (by decide) z)
  exact T_vret dX4_init_92 rfl (Nat.le_of_ble_eq_true rfl) (Nat.le_of_ble_eq_true rfl) ⟨rfl, rfl, rfl⟩
end CT
