/-! ===== statements on both sides ===== -/
theorem dX2_readGroup_0 : decode cX2_readGroup 0 = .ok (.aload_n 0, 1) := by decide +kernel
theorem dX2_readGroup_1 : decode cX2_readGroup 1 = .ok (.getfield 21, 3) := by decide +kernel
theorem dX2_readGroup_4 : decode cX2_readGroup 4 = .ok (.getfield 73, 3) := by decide +kernel
theorem dX2_readGroup_7 : decode cX2_readGroup 7 = .ok (.bipush 6, 2) := by decide +kernel
theorem dX2_readGroup_9 : decode cX2_readGroup 9 = .ok (.if_icmp .lt 9, 3) := by decide +kernel
theorem dX2_readGroup_12 : decode cX2_readGroup 12 = .ok (.aload_n 0, 1) := by decide +kernel
theorem dX2_readGroup_13 : decode cX2_readGroup 13 = .ok (.iconst 3, 1) := by decide +kernel
theorem dX2_readGroup_14 : decode cX2_readGroup 14 = .ok (.invokevirtual 70, 3) := by decide +kernel
theorem dX2_readGroup_17 : decode cX2_readGroup 17 = .ok (.ireturn, 1) := by decide +kernel
theorem dX2_readGroup_18 : decode cX2_readGroup 18 = .ok (.aload_n 0, 1) := by decide +kernel
theorem dX2_readGroup_19 : decode cX2_readGroup 19 = .ok (.invokevirtual 76, 3) := by decide +kernel
theorem dX2_readGroup_22 : decode cX2_readGroup 22 = .ok (.aload_n 0, 1) := by decide +kernel
theorem dX2_readGroup_23 : decode cX2_readGroup 23 = .ok (.iconst 0, 1) := by decide +kernel
theorem dX2_readGroup_24 : decode cX2_readGroup 24 = .ok (.sipush 9999, 3) := by decide +kernel
theorem dX2_readGroup_27 : decode cX2_readGroup 27 = .ok (.invokevirtual 79, 3) := by decide +kernel
theorem dX2_readGroup_30 : decode cX2_readGroup 30 = .ok (.istore_n 1, 1) := by decide +kernel
theorem dX2_readGroup_31 : decode cX2_readGroup 31 = .ok (.iload_n 1, 1) := by decide +kernel
theorem dX2_readGroup_32 : decode cX2_readGroup 32 = .ok (.iconst (-1), 1) := by decide +kernel
theorem dX2_readGroup_33 : decode cX2_readGroup 33 = .ok (.if_icmp .ne 7, 3) := by decide +kernel
theorem dX2_readGroup_36 : decode cX2_readGroup 36 = .ok (.iconst (-1), 1) := by decide +kernel
theorem dX2_readGroup_37 : decode cX2_readGroup 37 = .ok (.goto 11, 3) := by decide +kernel
theorem dX2_readGroup_40 : decode cX2_readGroup 40 = .ok (.aload_n 0, 1) := by decide +kernel
theorem dX2_readGroup_41 : decode cX2_readGroup 41 = .ok (.iconst 0, 1) := by decide +kernel
theorem dX2_readGroup_42 : decode cX2_readGroup 42 = .ok (.sipush 9999, 3) := by decide +kernel
theorem dX2_readGroup_45 : decode cX2_readGroup 45 = .ok (.invokevirtual 79, 3) := by decide +kernel
theorem dX2_readGroup_48 : decode cX2_readGroup 48 = .ok (.istore_n 2, 1) := by decide +kernel
theorem dX2_readGroup_49 : decode cX2_readGroup 49 = .ok (.iload_n 2, 1) := by decide +kernel
theorem dX2_readGroup_50 : decode cX2_readGroup 50 = .ok (.iconst (-1), 1) := by decide +kernel
theorem dX2_readGroup_51 : decode cX2_readGroup 51 = .ok (.if_icmp .ne 5, 3) := by decide +kernel
theorem dX2_readGroup_54 : decode cX2_readGroup 54 = .ok (.iconst 0, 1) := by decide +kernel
theorem dX2_readGroup_55 : decode cX2_readGroup 55 = .ok (.ireturn, 1) := by decide +kernel
theorem dX2_readGroup_56 : decode cX2_readGroup 56 = .ok (.aload_n 0, 1) := by decide +kernel
theorem dX2_readGroup_57 : decode cX2_readGroup 57 = .ok (.getfield 21, 3) := by decide +kernel
theorem dX2_readGroup_60 : decode cX2_readGroup 60 = .ok (.iload_n 1, 1) := by decide +kernel
theorem dX2_readGroup_61 : decode cX2_readGroup 61 = .ok (.iload_n 2, 1) := by decide +kernel
theorem dX2_readGroup_62 : decode cX2_readGroup 62 = .ok (.invokevirtual 83, 3) := by decide +kernel
theorem dX2_readGroup_65 : decode cX2_readGroup 65 = .ok (.iconst 1, 1) := by decide +kernel
theorem dX2_readGroup_66 : decode cX2_readGroup 66 = .ok (.ireturn, 1) := by decide +kernel
theorem dX2_readLoad_0 : decode cX2_readLoad 0 = .ok (.aload_n 0, 1) := by decide +kernel
theorem dX2_readLoad_1 : decode cX2_readLoad 1 = .ok (.invokevirtual 76, 3) := by decide +kernel
theorem dX2_readLoad_4 : decode cX2_readLoad 4 = .ok (.aload_n 0, 1) := by decide +kernel
theorem dX2_readLoad_5 : decode cX2_readLoad 5 = .ok (.invokevirtual 43, 3) := by decide +kernel
theorem dX2_readLoad_8 : decode cX2_readLoad 8 = .ok (.istore_n 1, 1) := by decide +kernel
theorem dX2_readLoad_9 : decode cX2_readLoad 9 = .ok (.iload_n 1, 1) := by decide +kernel
theorem dX2_readLoad_10 : decode cX2_readLoad 10 = .ok (.ifCond .le 9, 3) := by decide +kernel
theorem dX2_readLoad_13 : decode cX2_readLoad 13 = .ok (.iload_n 1, 1) := by decide +kernel
theorem dX2_readLoad_14 : decode cX2_readLoad 14 = .ok (.bipush 6, 2) := by decide +kernel
theorem dX2_readLoad_16 : decode cX2_readLoad 16 = .ok (.if_icmp .lt 9, 3) := by decide +kernel
theorem dX2_readLoad_19 : decode cX2_readLoad 19 = .ok (.aload_n 0, 1) := by decide +kernel
theorem dX2_readLoad_20 : decode cX2_readLoad 20 = .ok (.iconst 1, 1) := by decide +kernel
theorem dX2_readLoad_21 : decode cX2_readLoad 21 = .ok (.invokevirtual 70, 3) := by decide +kernel
theorem dX2_readLoad_24 : decode cX2_readLoad 24 = .ok (.ireturn, 1) := by decide +kernel
theorem dX2_readLoad_25 : decode cX2_readLoad 25 = .ok (.aload_n 0, 1) := by decide +kernel
theorem dX2_readLoad_26 : decode cX2_readLoad 26 = .ok (.invokevirtual 76, 3) := by decide +kernel
theorem dX2_readLoad_29 : decode cX2_readLoad 29 = .ok (.aload_n 0, 1) := by decide +kernel
theorem dX2_readLoad_30 : decode cX2_readLoad 30 = .ok (.iconst 0, 1) := by decide +kernel
theorem dX2_readLoad_31 : decode cX2_readLoad 31 = .ok (.sipush 300, 3) := by decide +kernel
theorem dX2_readLoad_34 : decode cX2_readLoad 34 = .ok (.invokevirtual 79, 3) := by decide +kernel
theorem dX2_readLoad_37 : decode cX2_readLoad 37 = .ok (.istore_n 2, 1) := by decide +kernel
theorem dX2_readLoad_38 : decode cX2_readLoad 38 = .ok (.iload_n 2, 1) := by decide +kernel
theorem dX2_readLoad_39 : decode cX2_readLoad 39 = .ok (.iconst (-1), 1) := by decide +kernel
theorem dX2_readLoad_40 : decode cX2_readLoad 40 = .ok (.if_icmp .ne 5, 3) := by decide +kernel
theorem dX2_readLoad_43 : decode cX2_readLoad 43 = .ok (.iconst 0, 1) := by decide +kernel
theorem dX2_readLoad_44 : decode cX2_readLoad 44 = .ok (.ireturn, 1) := by decide +kernel
theorem dX2_readLoad_45 : decode cX2_readLoad 45 = .ok (.aload_n 0, 1) := by decide +kernel
theorem dX2_readLoad_46 : decode cX2_readLoad 46 = .ok (.getfield 21, 3) := by decide +kernel
theorem dX2_readLoad_49 : decode cX2_readLoad 49 = .ok (.getfield 87, 3) := by decide +kernel
theorem dX2_readLoad_52 : decode cX2_readLoad 52 = .ok (.iload_n 1, 1) := by decide +kernel
theorem dX2_readLoad_53 : decode cX2_readLoad 53 = .ok (.iload_n 2, 1) := by decide +kernel
theorem dX2_readLoad_54 : decode cX2_readLoad 54 = .ok (.iastore, 1) := by decide +kernel
theorem dX2_readLoad_55 : decode cX2_readLoad 55 = .ok (.iconst 1, 1) := by decide +kernel
theorem dX2_readLoad_56 : decode cX2_readLoad 56 = .ok (.ireturn, 1) := by decide +kernel
theorem dX2_readCamp_0 : decode cX2_readCamp 0 = .ok (.aload_n 0, 1) := by decide +kernel
theorem dX2_readCamp_1 : decode cX2_readCamp 1 = .ok (.getfield 21, 3) := by decide +kernel
theorem dX2_readCamp_4 : decode cX2_readCamp 4 = .ok (.getfield 90, 3) := by decide +kernel
theorem dX2_readCamp_7 : decode cX2_readCamp 7 = .ok (.iconst 4, 1) := by decide +kernel
theorem dX2_readCamp_8 : decode cX2_readCamp 8 = .ok (.if_icmp .lt 9, 3) := by decide +kernel
theorem dX2_readCamp_11 : decode cX2_readCamp 11 = .ok (.aload_n 0, 1) := by decide +kernel
theorem dX2_readCamp_12 : decode cX2_readCamp 12 = .ok (.iconst 3, 1) := by decide +kernel
theorem dX2_readCamp_13 : decode cX2_readCamp 13 = .ok (.invokevirtual 70, 3) := by decide +kernel
theorem dX2_readCamp_16 : decode cX2_readCamp 16 = .ok (.ireturn, 1) := by decide +kernel
theorem dX2_readCamp_17 : decode cX2_readCamp 17 = .ok (.aload_n 0, 1) := by decide +kernel
theorem dX2_readCamp_18 : decode cX2_readCamp 18 = .ok (.invokevirtual 76, 3) := by decide +kernel
theorem dX2_readCamp_21 : decode cX2_readCamp 21 = .ok (.aload_n 0, 1) := by decide +kernel
theorem dX2_readCamp_22 : decode cX2_readCamp 22 = .ok (.iconst 0, 1) := by decide +kernel
theorem dX2_readCamp_23 : decode cX2_readCamp 23 = .ok (.bipush 69, 2) := by decide +kernel
theorem dX2_readCamp_25 : decode cX2_readCamp 25 = .ok (.invokevirtual 79, 3) := by decide +kernel
theorem dX2_readCamp_28 : decode cX2_readCamp 28 = .ok (.istore_n 1, 1) := by decide +kernel
theorem dX2_readCamp_29 : decode cX2_readCamp 29 = .ok (.iload_n 1, 1) := by decide +kernel
theorem dX2_readCamp_30 : decode cX2_readCamp 30 = .ok (.iconst (-1), 1) := by decide +kernel
theorem dX2_readCamp_31 : decode cX2_readCamp 31 = .ok (.if_icmp .ne 7, 3) := by decide +kernel
theorem dX2_readCamp_34 : decode cX2_readCamp 34 = .ok (.iconst (-1), 1) := by decide +kernel
theorem dX2_readCamp_35 : decode cX2_readCamp 35 = .ok (.goto 10, 3) := by decide +kernel
theorem dX2_readCamp_38 : decode cX2_readCamp 38 = .ok (.aload_n 0, 1) := by decide +kernel
theorem dX2_readCamp_39 : decode cX2_readCamp 39 = .ok (.iload_n 1, 1) := by decide +kernel
theorem dX2_readCamp_40 : decode cX2_readCamp 40 = .ok (.bipush 69, 2) := by decide +kernel
theorem dX2_readCamp_42 : decode cX2_readCamp 42 = .ok (.invokevirtual 79, 3) := by decide +kernel
theorem dX2_readCamp_45 : decode cX2_readCamp 45 = .ok (.istore_n 2, 1) := by decide +kernel
theorem dX2_readCamp_46 : decode cX2_readCamp 46 = .ok (.iload_n 2, 1) := by decide +kernel
theorem dX2_readCamp_47 : decode cX2_readCamp 47 = .ok (.iconst (-1), 1) := by decide +kernel
theorem dX2_readCamp_48 : decode cX2_readCamp 48 = .ok (.if_icmp .ne 5, 3) := by decide +kernel
theorem dX2_readCamp_51 : decode cX2_readCamp 51 = .ok (.iconst 0, 1) := by decide +kernel
theorem dX2_readCamp_52 : decode cX2_readCamp 52 = .ok (.ireturn, 1) := by decide +kernel
theorem dX2_readCamp_53 : decode cX2_readCamp 53 = .ok (.aload_n 0, 1) := by decide +kernel
theorem dX2_readCamp_54 : decode cX2_readCamp 54 = .ok (.getfield 21, 3) := by decide +kernel
theorem dX2_readCamp_57 : decode cX2_readCamp 57 = .ok (.iload_n 1, 1) := by decide +kernel
theorem dX2_readCamp_58 : decode cX2_readCamp 58 = .ok (.iload_n 2, 1) := by decide +kernel
theorem dX2_readCamp_59 : decode cX2_readCamp 59 = .ok (.invokevirtual 93, 3) := by decide +kernel
theorem dX2_readCamp_62 : decode cX2_readCamp 62 = .ok (.iconst 1, 1) := by decide +kernel
theorem dX2_readCamp_63 : decode cX2_readCamp 63 = .ok (.ireturn, 1) := by decide +kernel
theorem dX2_readSetting_0 : decode cX2_readSetting 0 = .ok (.aload_n 0, 1) := by decide +kernel
theorem dX2_readSetting_1 : decode cX2_readSetting 1 = .ok (.invokevirtual 76, 3) := by decide +kernel
theorem dX2_readSetting_4 : decode cX2_readSetting 4 = .ok (.aload_n 0, 1) := by decide +kernel
theorem dX2_readSetting_5 : decode cX2_readSetting 5 = .ok (.iconst 0, 1) := by decide +kernel
theorem dX2_readSetting_6 : decode cX2_readSetting 6 = .ok (.bipush 7, 2) := by decide +kernel
theorem dX2_readSetting_8 : decode cX2_readSetting 8 = .ok (.invokevirtual 79, 3) := by decide +kernel
theorem dX2_readSetting_11 : decode cX2_readSetting 11 = .ok (.istore_n 1, 1) := by decide +kernel
theorem dX2_readSetting_12 : decode cX2_readSetting 12 = .ok (.iload_n 1, 1) := by decide +kernel
theorem dX2_readSetting_13 : decode cX2_readSetting 13 = .ok (.iconst (-1), 1) := by decide +kernel
theorem dX2_readSetting_14 : decode cX2_readSetting 14 = .ok (.if_icmp .ne 5, 3) := by decide +kernel
theorem dX2_readSetting_17 : decode cX2_readSetting 17 = .ok (.iconst 0, 1) := by decide +kernel
theorem dX2_readSetting_18 : decode cX2_readSetting 18 = .ok (.ireturn, 1) := by decide +kernel
theorem dX2_readSetting_19 : decode cX2_readSetting 19 = .ok (.aload_n 0, 1) := by decide +kernel
theorem dX2_readSetting_20 : decode cX2_readSetting 20 = .ok (.getstatic 96, 3) := by decide +kernel
theorem dX2_readSetting_23 : decode cX2_readSetting 23 = .ok (.iload_n 1, 1) := by decide +kernel
theorem dX2_readSetting_24 : decode cX2_readSetting 24 = .ok (.iaload, 1) := by decide +kernel
theorem dX2_readSetting_25 : decode cX2_readSetting 25 = .ok (.getstatic 99, 3) := by decide +kernel
theorem dX2_readSetting_28 : decode cX2_readSetting 28 = .ok (.iload_n 1, 1) := by decide +kernel
theorem dX2_readSetting_29 : decode cX2_readSetting 29 = .ok (.iaload, 1) := by decide +kernel
theorem dX2_readSetting_30 : decode cX2_readSetting 30 = .ok (.invokevirtual 79, 3) := by decide +kernel
theorem dX2_readSetting_33 : decode cX2_readSetting 33 = .ok (.istore_n 2, 1) := by decide +kernel
theorem dX2_readSetting_34 : decode cX2_readSetting 34 = .ok (.iload_n 2, 1) := by decide +kernel
theorem dX2_readSetting_35 : decode cX2_readSetting 35 = .ok (.iconst (-1), 1) := by decide +kernel
theorem dX2_readSetting_36 : decode cX2_readSetting 36 = .ok (.if_icmp .ne 5, 3) := by decide +kernel
theorem dX2_readSetting_39 : decode cX2_readSetting 39 = .ok (.iconst 0, 1) := by decide +kernel
theorem dX2_readSetting_40 : decode cX2_readSetting 40 = .ok (.ireturn, 1) := by decide +kernel
theorem dX2_readSetting_41 : decode cX2_readSetting 41 = .ok (.aload_n 0, 1) := by decide +kernel
theorem dX2_readSetting_42 : decode cX2_readSetting 42 = .ok (.getfield 21, 3) := by decide +kernel
theorem dX2_readSetting_45 : decode cX2_readSetting 45 = .ok (.getfield 102, 3) := by decide +kernel
theorem dX2_readSetting_48 : decode cX2_readSetting 48 = .ok (.iload_n 1, 1) := by decide +kernel
theorem dX2_readSetting_49 : decode cX2_readSetting 49 = .ok (.iload_n 2, 1) := by decide +kernel
theorem dX2_readSetting_50 : decode cX2_readSetting 50 = .ok (.iastore, 1) := by decide +kernel
theorem dX2_readSetting_51 : decode cX2_readSetting 51 = .ok (.iconst 1, 1) := by decide +kernel
theorem dX2_readSetting_52 : decode cX2_readSetting 52 = .ok (.ireturn, 1) := by decide +kernel
theorem dX5_statement_0 : decode cX5_statement 0 = .ok (.aload_n 0, 1) := by decide +kernel
theorem dX5_statement_1 : decode cX5_statement 1 = .ok (.invokevirtual 161, 3) := by decide +kernel
theorem dX5_statement_4 : decode cX5_statement 4 = .ok (.istore_n 1, 1) := by decide +kernel
theorem dX5_statement_5 : decode cX5_statement 5 = .ok (.iload_n 1, 1) := by decide +kernel
theorem dX5_statement_6 : decode cX5_statement 6 = .ok (.iconst 0, 1) := by decide +kernel
theorem dX5_statement_7 : decode cX5_statement 7 = .ok (.bipush 7, 2) := by decide +kernel
theorem dX5_statement_9 : decode cX5_statement 9 = .ok (.bipush 18, 2) := by decide +kernel
theorem dX5_statement_11 : decode cX5_statement 11 = .ok (.bipush 15, 2) := by decide +kernel
theorem dX5_statement_13 : decode cX5_statement 13 = .ok (.bipush 21, 2) := by decide +kernel
theorem dX5_statement_15 : decode cX5_statement 15 = .ok (.bipush 16, 2) := by decide +kernel
theorem dX5_statement_17 : decode cX5_statement 17 = .ok (.invokestatic 145, 3) := by decide +kernel
theorem dX5_statement_20 : decode cX5_statement 20 = .ok (.if_icmp .ne 55, 3) := by decide +kernel
theorem dX5_statement_23 : decode cX5_statement 23 = .ok (.aload_n 0, 1) := by decide +kernel
theorem dX5_statement_24 : decode cX5_statement 24 = .ok (.invokevirtual 64, 3) := by decide +kernel
theorem dX5_statement_27 : decode cX5_statement 27 = .ok (.bipush 6, 2) := by decide +kernel
theorem dX5_statement_29 : decode cX5_statement 29 = .ok (.if_icmp .ne 12, 3) := by decide +kernel
theorem dX5_statement_32 : decode cX5_statement 32 = .ok (.aload_n 0, 1) := by decide +kernel
theorem dX5_statement_33 : decode cX5_statement 33 = .ok (.iconst 3, 1) := by decide +kernel
theorem dX5_statement_34 : decode cX5_statement 34 = .ok (.aload_n 0, 1) := by decide +kernel
theorem dX5_statement_35 : decode cX5_statement 35 = .ok (.getfield 139, 3) := by decide +kernel
theorem dX5_statement_38 : decode cX5_statement 38 = .ok (.invokevirtual 142, 3) := by decide +kernel
theorem dX5_statement_41 : decode cX5_statement 41 = .ok (.aload_n 0, 1) := by decide +kernel
theorem dX5_statement_42 : decode cX5_statement 42 = .ok (.iconst 0, 1) := by decide +kernel
theorem dX5_statement_43 : decode cX5_statement 43 = .ok (.sipush 9999, 3) := by decide +kernel
theorem dX5_statement_46 : decode cX5_statement 46 = .ok (.invokevirtual 158, 3) := by decide +kernel
theorem dX5_statement_49 : decode cX5_statement 49 = .ok (.istore_n 2, 1) := by decide +kernel
theorem dX5_statement_50 : decode cX5_statement 50 = .ok (.aload_n 0, 1) := by decide +kernel
theorem dX5_statement_51 : decode cX5_statement 51 = .ok (.iconst 0, 1) := by decide +kernel
theorem dX5_statement_52 : decode cX5_statement 52 = .ok (.sipush 9999, 3) := by decide +kernel
theorem dX5_statement_55 : decode cX5_statement 55 = .ok (.invokevirtual 158, 3) := by decide +kernel
theorem dX5_statement_58 : decode cX5_statement 58 = .ok (.istore_n 3, 1) := by decide +kernel
theorem dX5_statement_59 : decode cX5_statement 59 = .ok (.aload_n 0, 1) := by decide +kernel
theorem dX5_statement_60 : decode cX5_statement 60 = .ok (.getfield 129, 3) := by decide +kernel
theorem dX5_statement_63 : decode cX5_statement 63 = .ok (.ifCond .ne 9, 3) := by decide +kernel
theorem dX5_statement_66 : decode cX5_statement 66 = .ok (.aload_n 0, 1) := by decide +kernel
theorem dX5_statement_67 : decode cX5_statement 67 = .ok (.iload_n 2, 1) := by decide +kernel
theorem dX5_statement_68 : decode cX5_statement 68 = .ok (.iload_n 3, 1) := by decide +kernel
theorem dX5_statement_69 : decode cX5_statement 69 = .ok (.invokevirtual 92, 3) := by decide +kernel
theorem dX5_statement_72 : decode cX5_statement 72 = .ok (.goto 240, 3) := by decide +kernel
theorem dX5_statement_75 : decode cX5_statement 75 = .ok (.iload_n 1, 1) := by decide +kernel
theorem dX5_statement_76 : decode cX5_statement 76 = .ok (.iconst 0, 1) := by decide +kernel
theorem dX5_statement_77 : decode cX5_statement 77 = .ok (.iconst 0, 1) := by decide +kernel
theorem dX5_statement_78 : decode cX5_statement 78 = .ok (.bipush 12, 2) := by decide +kernel
theorem dX5_statement_80 : decode cX5_statement 80 = .ok (.bipush 15, 2) := by decide +kernel
theorem dX5_statement_82 : decode cX5_statement 82 = .ok (.iconst 1, 1) := by decide +kernel
theorem dX5_statement_83 : decode cX5_statement 83 = .ok (.iconst 4, 1) := by decide +kernel
theorem dX5_statement_84 : decode cX5_statement 84 = .ok (.invokestatic 145, 3) := by decide +kernel
theorem dX5_statement_87 : decode cX5_statement 87 = .ok (.if_icmp .ne 53, 3) := by decide +kernel
theorem dX5_statement_90 : decode cX5_statement 90 = .ok (.aload_n 0, 1) := by decide +kernel
theorem dX5_statement_91 : decode cX5_statement 91 = .ok (.invokevirtual 161, 3) := by decide +kernel
theorem dX5_statement_94 : decode cX5_statement 94 = .ok (.invokestatic 164, 3) := by decide +kernel
theorem dX5_statement_97 : decode cX5_statement 97 = .ok (.istore_n 2, 1) := by decide +kernel
theorem dX5_statement_98 : decode cX5_statement 98 = .ok (.iload_n 2, 1) := by decide +kernel
theorem dX5_statement_99 : decode cX5_statement 99 = .ok (.iconst 1, 1) := by decide +kernel
theorem dX5_statement_100 : decode cX5_statement 100 = .ok (.if_icmp .ge 12, 3) := by decide +kernel
theorem dX5_statement_103 : decode cX5_statement 103 = .ok (.aload_n 0, 1) := by decide +kernel
theorem dX5_statement_104 : decode cX5_statement 104 = .ok (.iconst 1, 1) := by decide +kernel
theorem dX5_statement_105 : decode cX5_statement 105 = .ok (.aload_n 0, 1) := by decide +kernel
theorem dX5_statement_106 : decode cX5_statement 106 = .ok (.getfield 139, 3) := by decide +kernel
theorem dX5_statement_109 : decode cX5_statement 109 = .ok (.invokevirtual 142, 3) := by decide +kernel
theorem dX5_statement_112 : decode cX5_statement 112 = .ok (.aload_n 0, 1) := by decide +kernel
theorem dX5_statement_113 : decode cX5_statement 113 = .ok (.iconst 0, 1) := by decide +kernel
theorem dX5_statement_114 : decode cX5_statement 114 = .ok (.sipush 300, 3) := by decide +kernel
theorem dX5_statement_117 : decode cX5_statement 117 = .ok (.invokevirtual 158, 3) := by decide +kernel
theorem dX5_statement_120 : decode cX5_statement 120 = .ok (.istore_n 3, 1) := by decide +kernel
theorem dX5_statement_121 : decode cX5_statement 121 = .ok (.aload_n 0, 1) := by decide +kernel
theorem dX5_statement_122 : decode cX5_statement 122 = .ok (.getfield 129, 3) := by decide +kernel
theorem dX5_statement_125 : decode cX5_statement 125 = .ok (.ifCond .ne 12, 3) := by decide +kernel
theorem dX5_statement_128 : decode cX5_statement 128 = .ok (.aload_n 0, 1) := by decide +kernel
theorem dX5_statement_129 : decode cX5_statement 129 = .ok (.getfield 7, 3) := by decide +kernel
theorem dX5_statement_132 : decode cX5_statement 132 = .ok (.iconst 0, 1) := by decide +kernel
theorem dX5_statement_133 : decode cX5_statement 133 = .ok (.iload_n 2, 1) := by decide +kernel
theorem dX5_statement_134 : decode cX5_statement 134 = .ok (.iadd, 1) := by decide +kernel
theorem dX5_statement_135 : decode cX5_statement 135 = .ok (.iload_n 3, 1) := by decide +kernel
theorem dX5_statement_136 : decode cX5_statement 136 = .ok (.iastore, 1) := by decide +kernel
theorem dX5_statement_137 : decode cX5_statement 137 = .ok (.goto 175, 3) := by decide +kernel
theorem dX5_statement_140 : decode cX5_statement 140 = .ok (.iload_n 1, 1) := by decide +kernel
theorem dX5_statement_141 : decode cX5_statement 141 = .ok (.iconst 0, 1) := by decide +kernel
theorem dX5_statement_142 : decode cX5_statement 142 = .ok (.iconst 0, 1) := by decide +kernel
theorem dX5_statement_143 : decode cX5_statement 143 = .ok (.iconst 3, 1) := by decide +kernel
theorem dX5_statement_144 : decode cX5_statement 144 = .ok (.iconst 1, 1) := by decide +kernel
theorem dX5_statement_145 : decode cX5_statement 145 = .ok (.bipush 13, 2) := by decide +kernel
theorem dX5_statement_147 : decode cX5_statement 147 = .ok (.bipush 16, 2) := by decide +kernel
theorem dX5_statement_149 : decode cX5_statement 149 = .ok (.invokestatic 145, 3) := by decide +kernel
theorem dX5_statement_152 : decode cX5_statement 152 = .ok (.if_icmp .ne 52, 3) := by decide +kernel
theorem dX5_statement_155 : decode cX5_statement 155 = .ok (.aload_n 0, 1) := by decide +kernel
theorem dX5_statement_156 : decode cX5_statement 156 = .ok (.invokevirtual 86, 3) := by decide +kernel
theorem dX5_statement_159 : decode cX5_statement 159 = .ok (.iconst 4, 1) := by decide +kernel
theorem dX5_statement_160 : decode cX5_statement 160 = .ok (.if_icmp .ne 12, 3) := by decide +kernel
theorem dX5_statement_163 : decode cX5_statement 163 = .ok (.aload_n 0, 1) := by decide +kernel
theorem dX5_statement_164 : decode cX5_statement 164 = .ok (.iconst 3, 1) := by decide +kernel
theorem dX5_statement_165 : decode cX5_statement 165 = .ok (.aload_n 0, 1) := by decide +kernel
theorem dX5_statement_166 : decode cX5_statement 166 = .ok (.getfield 139, 3) := by decide +kernel
theorem dX5_statement_169 : decode cX5_statement 169 = .ok (.invokevirtual 142, 3) := by decide +kernel
theorem dX5_statement_172 : decode cX5_statement 172 = .ok (.aload_n 0, 1) := by decide +kernel
theorem dX5_statement_173 : decode cX5_statement 173 = .ok (.iconst 0, 1) := by decide +kernel
theorem dX5_statement_174 : decode cX5_statement 174 = .ok (.bipush 69, 2) := by decide +kernel
theorem dX5_statement_176 : decode cX5_statement 176 = .ok (.invokevirtual 158, 3) := by decide +kernel
theorem dX5_statement_179 : decode cX5_statement 179 = .ok (.istore_n 2, 1) := by decide +kernel
theorem dX5_statement_180 : decode cX5_statement 180 = .ok (.aload_n 0, 1) := by decide +kernel
theorem dX5_statement_181 : decode cX5_statement 181 = .ok (.iload_n 2, 1) := by decide +kernel
theorem dX5_statement_182 : decode cX5_statement 182 = .ok (.bipush 69, 2) := by decide +kernel
theorem dX5_statement_184 : decode cX5_statement 184 = .ok (.invokevirtual 158, 3) := by decide +kernel
theorem dX5_statement_187 : decode cX5_statement 187 = .ok (.istore_n 3, 1) := by decide +kernel
theorem dX5_statement_188 : decode cX5_statement 188 = .ok (.aload_n 0, 1) := by decide +kernel
theorem dX5_statement_189 : decode cX5_statement 189 = .ok (.getfield 129, 3) := by decide +kernel
theorem dX5_statement_192 : decode cX5_statement 192 = .ok (.ifCond .ne 9, 3) := by decide +kernel
theorem dX5_statement_195 : decode cX5_statement 195 = .ok (.aload_n 0, 1) := by decide +kernel
theorem dX5_statement_196 : decode cX5_statement 196 = .ok (.iload_n 2, 1) := by decide +kernel
theorem dX5_statement_197 : decode cX5_statement 197 = .ok (.iload_n 3, 1) := by decide +kernel
theorem dX5_statement_198 : decode cX5_statement 198 = .ok (.invokevirtual 103, 3) := by decide +kernel
theorem dX5_statement_201 : decode cX5_statement 201 = .ok (.goto 111, 3) := by decide +kernel
theorem dX5_statement_204 : decode cX5_statement 204 = .ok (.iload_n 1, 1) := by decide +kernel
theorem dX5_statement_205 : decode cX5_statement 205 = .ok (.iconst 0, 1) := by decide +kernel
theorem dX5_statement_206 : decode cX5_statement 206 = .ok (.iconst 0, 1) := by decide +kernel
theorem dX5_statement_207 : decode cX5_statement 207 = .ok (.iconst 0, 1) := by decide +kernel
theorem dX5_statement_208 : decode cX5_statement 208 = .ok (.bipush 19, 2) := by decide +kernel
theorem dX5_statement_210 : decode cX5_statement 210 = .ok (.iconst 5, 1) := by decide +kernel
theorem dX5_statement_211 : decode cX5_statement 211 = .ok (.bipush 20, 2) := by decide +kernel
theorem dX5_statement_213 : decode cX5_statement 213 = .ok (.invokestatic 145, 3) := by decide +kernel
theorem dX5_statement_216 : decode cX5_statement 216 = .ok (.if_icmp .ne 64, 3) := by decide +kernel
theorem dX5_statement_219 : decode cX5_statement 219 = .ok (.aload_n 0, 1) := by decide +kernel
theorem dX5_statement_220 : decode cX5_statement 220 = .ok (.iconst 0, 1) := by decide +kernel
theorem dX5_statement_221 : decode cX5_statement 221 = .ok (.bipush 7, 2) := by decide +kernel
theorem dX5_statement_223 : decode cX5_statement 223 = .ok (.invokevirtual 158, 3) := by decide +kernel
theorem dX5_statement_226 : decode cX5_statement 226 = .ok (.istore_n 2, 1) := by decide +kernel
theorem dX5_statement_227 : decode cX5_statement 227 = .ok (.aload_n 0, 1) := by decide +kernel
theorem dX5_statement_228 : decode cX5_statement 228 = .ok (.iconst 0, 1) := by decide +kernel
theorem dX5_statement_229 : decode cX5_statement 229 = .ok (.sipush 9999, 3) := by decide +kernel
theorem dX5_statement_232 : decode cX5_statement 232 = .ok (.invokevirtual 158, 3) := by decide +kernel
theorem dX5_statement_235 : decode cX5_statement 235 = .ok (.istore_n 3, 1) := by decide +kernel
theorem dX5_statement_236 : decode cX5_statement 236 = .ok (.aload_n 0, 1) := by decide +kernel
theorem dX5_statement_237 : decode cX5_statement 237 = .ok (.getfield 129, 3) := by decide +kernel
theorem dX5_statement_240 : decode cX5_statement 240 = .ok (.ifCond .ne 20, 3) := by decide +kernel
theorem dX5_statement_243 : decode cX5_statement 243 = .ok (.iload_n 2, 1) := by decide +kernel
theorem dX5_statement_244 : decode cX5_statement 244 = .ok (.iload_n 3, 1) := by decide +kernel
theorem dX5_statement_245 : decode cX5_statement 245 = .ok (.invokestatic 96, 3) := by decide +kernel
theorem dX5_statement_248 : decode cX5_statement 248 = .ok (.ifCond .ne 12, 3) := by decide +kernel
theorem dX5_statement_251 : decode cX5_statement 251 = .ok (.aload_n 0, 1) := by decide +kernel
theorem dX5_statement_252 : decode cX5_statement 252 = .ok (.iconst 2, 1) := by decide +kernel
theorem dX5_statement_253 : decode cX5_statement 253 = .ok (.aload_n 0, 1) := by decide +kernel
theorem dX5_statement_254 : decode cX5_statement 254 = .ok (.getfield 139, 3) := by decide +kernel
theorem dX5_statement_257 : decode cX5_statement 257 = .ok (.invokevirtual 142, 3) := by decide +kernel
theorem dX5_statement_260 : decode cX5_statement 260 = .ok (.aload_n 0, 1) := by decide +kernel
theorem dX5_statement_261 : decode cX5_statement 261 = .ok (.getfield 129, 3) := by decide +kernel
theorem dX5_statement_264 : decode cX5_statement 264 = .ok (.ifCond .ne 13, 3) := by decide +kernel
theorem dX5_statement_267 : decode cX5_statement 267 = .ok (.aload_n 0, 1) := by decide +kernel
theorem dX5_statement_268 : decode cX5_statement 268 = .ok (.getfield 7, 3) := by decide +kernel
theorem dX5_statement_271 : decode cX5_statement 271 = .ok (.bipush 6, 2) := by decide +kernel
theorem dX5_statement_273 : decode cX5_statement 273 = .ok (.iload_n 2, 1) := by decide +kernel
theorem dX5_statement_274 : decode cX5_statement 274 = .ok (.iadd, 1) := by decide +kernel
theorem dX5_statement_275 : decode cX5_statement 275 = .ok (.iload_n 3, 1) := by decide +kernel
theorem dX5_statement_276 : decode cX5_statement 276 = .ok (.iastore, 1) := by decide +kernel
theorem dX5_statement_277 : decode cX5_statement 277 = .ok (.goto 35, 3) := by decide +kernel
theorem dX5_statement_280 : decode cX5_statement 280 = .ok (.iload_n 1, 1) := by decide +kernel
theorem dX5_statement_281 : decode cX5_statement 281 = .ok (.iconst 0, 1) := by decide +kernel
theorem dX5_statement_282 : decode cX5_statement 282 = .ok (.iconst 0, 1) := by decide +kernel
theorem dX5_statement_283 : decode cX5_statement 283 = .ok (.bipush 16, 2) := by decide +kernel
theorem dX5_statement_285 : decode cX5_statement 285 = .ok (.bipush 12, 2) := by decide +kernel
theorem dX5_statement_287 : decode cX5_statement 287 = .ok (.iconst 1, 1) := by decide +kernel
theorem dX5_statement_288 : decode cX5_statement 288 = .ok (.bipush 14, 2) := by decide +kernel
theorem dX5_statement_290 : decode cX5_statement 290 = .ok (.invokestatic 145, 3) := by decide +kernel
theorem dX5_statement_293 : decode cX5_statement 293 = .ok (.if_icmp .ne 10, 3) := by decide +kernel
theorem dX5_statement_296 : decode cX5_statement 296 = .ok (.aload_n 0, 1) := by decide +kernel
theorem dX5_statement_297 : decode cX5_statement 297 = .ok (.invokevirtual 176, 3) := by decide +kernel
theorem dX5_statement_300 : decode cX5_statement 300 = .ok (.goto 12, 3) := by decide +kernel
theorem dX5_statement_303 : decode cX5_statement 303 = .ok (.aload_n 0, 1) := by decide +kernel
theorem dX5_statement_304 : decode cX5_statement 304 = .ok (.iconst 1, 1) := by decide +kernel
theorem dX5_statement_305 : decode cX5_statement 305 = .ok (.aload_n 0, 1) := by decide +kernel
theorem dX5_statement_306 : decode cX5_statement 306 = .ok (.getfield 139, 3) := by decide +kernel
theorem dX5_statement_309 : decode cX5_statement 309 = .ok (.invokevirtual 142, 3) := by decide +kernel
theorem dX5_statement_312 : decode cX5_statement 312 = .ok (.return_, 1) := by decide +kernel

/-- both sides read a statement -/
def Sim (G : mG) (I : mI) (b : Nat → Int32) (L s i : Nat) (f : Nat → Int32) (σB : mS) : Prop := ∃ (bo : Bool) (σC : mS), mV G I 9 [.ref 13] σB (some (.int (bI bo))) σC ∧ BFr σB σC ∧ ((bo = true ∧ ∃ i2 f2 n2 c2, i < i2 ∧ LB σC b L s i2 f2 n2 c2 ∧ ∀ σM, LM σM b L (tps b L i) f → ∃ σN, mV G mX5_statement 11 [.ref 116] σM none σN ∧ LM σN b L (tps b L i2) f2 ∧ MFr σM σN) ∨ (bo = false ∧ ∃ F, 0 < F ∧ F < 4096 ∧ σC 13 3 = nI F ∧ ∀ σM, LM σM b L (tps b L i) f → ∃ σN, mV G mX5_statement 11 [.ref 116] σM none σN ∧ σN 116 7 = nI F ∧ MFr σM σN))
section ST
variable {G : mG} {b : Nat → Int32} {L s i n c : Nat} {f : Nat → Int32} {σB : mS}
theorem BFr.t (σ : mS) (k : Nat) (v : Int32) : BFr σ (up σ 13 k v) := fun z z1 _ => up_n _ _ _ z1
theorem fl_ne {k p : Nat} (h : 0 < k) (hk : k < 5) (hp : p ≤ 400) : ¬ nI (k + 8 * p) = 0 := fun z => by
  have e : nI (k + 8 * p) = nI 0 := z
  rw [nI_eq_iff (by omega) (by omega)] at e
  omega

theorem s_group (h4 : L ≤ 400) (hby : ∀ k, k < L → isByte (b k)) (hB : LB σB b L s i f n c) (ht : tkn b L (tps b L i) = 6) : Sim G mX2_readGroup b L s i f σB := by
  obtain ⟨h1, h2, h3, h5, h6⟩ := id hB
  have hlt := h1.lt h3 (by rw [ht]; decide)
  have hp4 : tps b L i ≤ 400 := Nat.le_trans (tps_le b L i) h4
  have hp5 : tps b L (i + 1) ≤ 400 := Nat.le_trans (tps_le b L (i + 1)) h4
  have hp6 : tps b L (i + 1 + 1) ≤ 400 := Nat.le_trans (tps_le b L (i + 1 + 1)) h4
  have hb := h6.1
  have hn6 := hb.1
  have hc4 := hb.2.1
  have hW : ∀ σM, LM σM b L (tps b L i) f → ∃ q, mV G mX5_word 8 [.ref 116] σM (some (.int (nI 7945904))) (atS σM q (tps b L i)) ∧ LM (atS σM q (tps b L i)) b L (tps b L (i + 1)) f := fun σM hM => by
    obtain ⟨v, q, w1, w2, w3, w4, w5⟩ := wrd (G := G) (d := 7) h4 hM
    rw [ht, if_pos (by decide)] at w3
    have e : v = 7945904 := wtok_inv w3 (by decide)
    subst e
    exact ⟨q, w2, by rw [h1.next hlt]; exact w4 (by rw [ht]; decide)⟩
  have hg0 : σB 19 0 = nI n := h6.2.1
  by_cases hfull : n = 6
  · refine ⟨false, up σB 13 3 (nI (3 + 8 * tps b L i)), mV_of fun Q hQ => ?_, BFr.t _ _ _, Or.inr ⟨rfl, 3 + 8 * tps b L i, by omega, by omega, rfl, fun σM hM => ?_⟩⟩
    · refine F_aload_n dX2_readGroup_0 rfl ?_
      refine F_getr dX2_readGroup_1 rfl rfl rfl rfl ?_
      refine F_getE (v := nI n) dX2_readGroup_4 rfl rfl rfl rfl hg0 ?_
      refine F_bipush (v := nI 6) dX2_readGroup_7 rfl ?_
      refine F_icmp_ltN (tgt := 18) dX2_readGroup_9 rfl (by omega) (by omega) (fun c9 => ?_) (fun c9 => ?_)
      · exact absurd c9 (by omega)
      · refine F_aload_n dX2_readGroup_12 rfl ?_
        refine F_iconst (v := nI 3) dX2_readGroup_13 rfl ?_
        refine F_cV1i (v_fail (d := 5) h1 h2 h3 3) dX2_readGroup_14 rfl rfl (by decide) rfl rfl rfl rfl (by decide) (Nat.le_of_ble_eq_true rfl) (by omega) ?_
        refine F_zret dX2_readGroup_17 rfl (by first | exact Or.inl rfl | exact Or.inr rfl | exact bI_01 _) ?_
        exact hQ
    · obtain ⟨q, hw, hM2⟩ := hW σM hM
      obtain ⟨m1, -, m5, m6, m7⟩ := hM
      have hne := fl_ne (k := 3) (by omega) (by omega) hp4
      refine ⟨up (atS σM q (tps b L i)) 116 7 (nI (3 + 8 * tps b L i)), mV_of fun Q hQ => ?_, rfl, (MFr.atS _ _ _).trans (MFr.fault _ _)⟩
      refine F_aload_n dX5_statement_0 rfl ?_
      refine F_cV0i (hw) dX5_statement_1 rfl rfl (by decide) rfl rfl rfl rfl (by decide) (Nat.le_of_ble_eq_true rfl) (by omega) ?_
      refine F_istore_n dX5_statement_4 (Nat.le_of_ble_eq_true rfl) ?_
      refine F_iload_n dX5_statement_5 rfl ?_
      refine F_iconst (v := nI 0) dX5_statement_6 rfl ?_
      refine F_bipush (v := nI 7) dX5_statement_7 rfl ?_
      refine F_bipush (v := nI 18) dX5_statement_9 rfl ?_
      refine F_bipush (v := nI 15) dX5_statement_11 rfl ?_
      refine F_bipush (v := nI 21) dX5_statement_13 rfl ?_
      refine F_bipush (v := nI 16) dX5_statement_15 rfl ?_
      refine F_cS6i (v_letters (d := 5) _ _ _ _ _ _) dX5_statement_17 rfl rfl rfl (by decide) (Nat.le_of_ble_eq_true rfl) (by omega) ?_
      refine F_icmp_neN (tgt := 75) dX5_statement_20 rfl (by omega) (by omega) (fun c20 => ?_) (fun c20 => ?_)
      · exact absurd rfl c20
      · refine F_aload_n dX5_statement_23 rfl ?_
        refine F_cV0i (v_groups (d := 5)) dX5_statement_24 rfl rfl (by decide) rfl rfl rfl rfl (by decide) (Nat.le_of_ble_eq_true rfl) (by omega) ?_
        refine F_top (y := nI n) (show σM 117 23 = nI n by rw [m6]; exact hb.2.2.1) ?_
        refine F_bipush (v := nI 6) dX5_statement_27 rfl ?_
        refine F_icmp_neN (tgt := 41) dX5_statement_29 rfl (by omega) (by omega) (fun c29 => ?_) (fun c29 => ?_)
        · exact absurd hfull c29
        · refine F_aload_n dX5_statement_32 rfl ?_
          refine F_iconst (v := nI 3) dX5_statement_33 rfl ?_
          refine F_aload_n dX5_statement_34 rfl ?_
          refine F_getE (v := nI (tps b L i)) dX5_statement_35 rfl rfl rfl rfl rfl ?_
          refine F_cV2v (v_failsB (d := 5) 3 (tps b L i) m5) dX5_statement_38 rfl rfl (by decide) rfl rfl rfl rfl (by decide) (Nat.le_of_ble_eq_true rfl) (by omega) ?_
          refine F_aload_n dX5_statement_41 rfl ?_
          refine F_iconst (v := nI 0) dX5_statement_42 rfl ?_
          refine F_sipush (v := nI 9999) dX5_statement_43 rfl ?_
          refine F_cV2i (v_numberX (d := 5) _ _ hne) dX5_statement_46 rfl rfl (by decide) rfl rfl rfl rfl (by decide) (Nat.le_of_ble_eq_true rfl) (by omega) ?_
          refine F_istore_n dX5_statement_49 (Nat.le_of_ble_eq_true rfl) ?_
          refine F_aload_n dX5_statement_50 rfl ?_
          refine F_iconst (v := nI 0) dX5_statement_51 rfl ?_
          refine F_sipush (v := nI 9999) dX5_statement_52 rfl ?_
          refine F_cV2i (v_numberX (d := 5) _ _ hne) dX5_statement_55 rfl rfl (by decide) rfl rfl rfl rfl (by decide) (Nat.le_of_ble_eq_true rfl) (by omega) ?_
          refine F_istore_n dX5_statement_58 (Nat.le_of_ble_eq_true rfl) ?_
          refine F_aload_n dX5_statement_59 rfl ?_
          refine F_geti dX5_statement_60 rfl rfl rfl rfl ?_
          refine F_if_ne (tgt := 72) dX5_statement_63 rfl (fun c63 => ?_) (fun c63 => ?_)
          · refine F_goto (tgt := 312) dX5_statement_72 rfl ?_
            refine F_vret dX5_statement_312 rfl ?_
            exact hQ
          · exact absurd c63 hne
  · have hB1 := hB.step hlt
    obtain hN | ⟨k, k0, k3, ke, kn, hN, hNM⟩ := num (G := G) (d := 6) h4 hby hB1 (nI 0) (nI 9999)
    rotate_left
    · refine ⟨false, up (up σB 13 2 (nI (i + 1))) 13 3 (nI (k + 8 * tps b L (i + 1))), mV_of fun Q hQ => ?_, (BFr.t _ _ _).trans (BFr.t _ _ _), Or.inr ⟨rfl, k + 8 * tps b L (i + 1), by omega, by omega, rfl, fun σM hM => ?_⟩⟩
      · refine F_aload_n dX2_readGroup_0 rfl ?_
        refine F_getr dX2_readGroup_1 rfl rfl rfl rfl ?_
        refine F_getE (v := nI n) dX2_readGroup_4 rfl rfl rfl rfl hg0 ?_
        refine F_bipush (v := nI 6) dX2_readGroup_7 rfl ?_
        refine F_icmp_ltN (tgt := 18) dX2_readGroup_9 rfl (by omega) (by omega) (fun c9 => ?_) (fun c9 => ?_)
        · refine F_aload_n dX2_readGroup_18 rfl ?_
          refine F_cV0v (v_step (d := 5) h1 h2 h3 hlt) dX2_readGroup_19 rfl rfl (by decide) rfl rfl rfl rfl (by decide) (Nat.le_of_ble_eq_true rfl) (by omega) ?_
          refine F_aload_n dX2_readGroup_22 rfl ?_
          refine F_iconst (v := nI 0) dX2_readGroup_23 rfl ?_
          refine F_sipush (v := nI 9999) dX2_readGroup_24 rfl ?_
          refine F_cV2i (hN) dX2_readGroup_27 rfl rfl (by decide) rfl rfl rfl rfl (by decide) (Nat.le_of_ble_eq_true rfl) (by omega) ?_
          refine F_istore_n dX2_readGroup_30 (Nat.le_of_ble_eq_true rfl) ?_
          refine F_iload_n dX2_readGroup_31 rfl ?_
          refine F_iconst (v := (-1)) dX2_readGroup_32 rfl ?_
          refine F_icmp_ne (tgt := 40) dX2_readGroup_33 rfl (fun c33 => ?_) (fun c33 => ?_)
          · exact absurd rfl c33
          · refine F_iconst (v := (-1)) dX2_readGroup_36 rfl ?_
            refine F_goto (tgt := 48) dX2_readGroup_37 rfl ?_
            refine F_istore_n dX2_readGroup_48 (Nat.le_of_ble_eq_true rfl) ?_
            refine F_iload_n dX2_readGroup_49 rfl ?_
            refine F_iconst (v := (-1)) dX2_readGroup_50 rfl ?_
            refine F_icmp_ne (tgt := 56) dX2_readGroup_51 rfl (fun c51 => ?_) (fun c51 => ?_)
            · exact absurd rfl c51
            · refine F_iconst (v := nI 0) dX2_readGroup_54 rfl ?_
              refine F_zret dX2_readGroup_55 rfl (by first | exact Or.inl rfl | exact Or.inr rfl | exact bI_01 _) ?_
              exact hQ
        · exact absurd (show n < 6 by omega) c9
      · obtain ⟨q, hw, hM2⟩ := hW σM hM
        obtain ⟨v, τ, x1, x2, x3, x4, x5⟩ := hNM _ _ hM2
        obtain ⟨m1, -, m5, m6, m7⟩ := hM
        have hne := fl_ne k0 (show k < 5 by omega) hp5
        have hne2 : ¬ τ 116 7 = 0 := by rw [x2]; exact hne
        refine ⟨τ, mV_of fun Q hQ => ?_, x2, (MFr.atS _ _ _).trans x5⟩
        refine F_aload_n dX5_statement_0 rfl ?_
        refine F_cV0i (hw) dX5_statement_1 rfl rfl (by decide) rfl rfl rfl rfl (by decide) (Nat.le_of_ble_eq_true rfl) (by omega) ?_
        refine F_istore_n dX5_statement_4 (Nat.le_of_ble_eq_true rfl) ?_
        refine F_iload_n dX5_statement_5 rfl ?_
        refine F_iconst (v := nI 0) dX5_statement_6 rfl ?_
        refine F_bipush (v := nI 7) dX5_statement_7 rfl ?_
        refine F_bipush (v := nI 18) dX5_statement_9 rfl ?_
        refine F_bipush (v := nI 15) dX5_statement_11 rfl ?_
        refine F_bipush (v := nI 21) dX5_statement_13 rfl ?_
        refine F_bipush (v := nI 16) dX5_statement_15 rfl ?_
        refine F_cS6i (v_letters (d := 5) _ _ _ _ _ _) dX5_statement_17 rfl rfl rfl (by decide) (Nat.le_of_ble_eq_true rfl) (by omega) ?_
        refine F_icmp_neN (tgt := 75) dX5_statement_20 rfl (by omega) (by omega) (fun c20 => ?_) (fun c20 => ?_)
        · exact absurd rfl c20
        · refine F_aload_n dX5_statement_23 rfl ?_
          refine F_cV0i (v_groups (d := 5)) dX5_statement_24 rfl rfl (by decide) rfl rfl rfl rfl (by decide) (Nat.le_of_ble_eq_true rfl) (by omega) ?_
          refine F_top (y := nI n) (show σM 117 23 = nI n by rw [m6]; exact hb.2.2.1) ?_
          refine F_bipush (v := nI 6) dX5_statement_27 rfl ?_
          refine F_icmp_neN (tgt := 41) dX5_statement_29 rfl (by omega) (by omega) (fun c29 => ?_) (fun c29 => ?_)
          · refine F_aload_n dX5_statement_41 rfl ?_
            refine F_iconst (v := nI 0) dX5_statement_42 rfl ?_
            refine F_sipush (v := nI 9999) dX5_statement_43 rfl ?_
            refine F_cV2i (x1) dX5_statement_46 rfl rfl (by decide) rfl rfl rfl rfl (by decide) (Nat.le_of_ble_eq_true rfl) (by omega) ?_
            refine F_istore_n dX5_statement_49 (Nat.le_of_ble_eq_true rfl) ?_
            refine F_aload_n dX5_statement_50 rfl ?_
            refine F_iconst (v := nI 0) dX5_statement_51 rfl ?_
            refine F_sipush (v := nI 9999) dX5_statement_52 rfl ?_
            refine F_cV2i (v_numberX (d := 5) _ _ hne2) dX5_statement_55 rfl rfl (by decide) rfl rfl rfl rfl (by decide) (Nat.le_of_ble_eq_true rfl) (by omega) ?_
            refine F_istore_n dX5_statement_58 (Nat.le_of_ble_eq_true rfl) ?_
            refine F_aload_n dX5_statement_59 rfl ?_
            refine F_geti dX5_statement_60 rfl rfl rfl rfl ?_
            refine F_if_ne (tgt := 72) dX5_statement_63 rfl (fun c63 => ?_) (fun c63 => ?_)
            · refine F_goto (tgt := 312) dX5_statement_72 rfl ?_
              refine F_vret dX5_statement_312 rfl ?_
              exact hQ
            · exact absurd c63 hne2
          · exact absurd (Decidable.not_not.mp c29) hfull
    obtain ⟨t1, r1, lt1, hN, hB2, hNM⟩ := hN
    have v1 := tkv_le b L (tps b L (i + 1))
    obtain hN2 | ⟨k, k0, k3, ke, kn, hN2, hNM2⟩ := num (G := G) (d := 6) h4 hby hB2 (nI 0) (nI 9999)
    rotate_left
    · refine ⟨false, up (up (up σB 13 2 (nI (i + 1))) 13 2 (nI (i + 1 + 1))) 13 3 (nI (k + 8 * tps b L (i + 1 + 1))), mV_of fun Q hQ => ?_, ((BFr.t _ _ _).trans (BFr.t _ _ _)).trans (BFr.t _ _ _), Or.inr ⟨rfl, k + 8 * tps b L (i + 1 + 1), by omega, by omega, rfl, fun σM hM => ?_⟩⟩
      · refine F_aload_n dX2_readGroup_0 rfl ?_
        refine F_getr dX2_readGroup_1 rfl rfl rfl rfl ?_
        refine F_getE (v := nI n) dX2_readGroup_4 rfl rfl rfl rfl hg0 ?_
        refine F_bipush (v := nI 6) dX2_readGroup_7 rfl ?_
        refine F_icmp_ltN (tgt := 18) dX2_readGroup_9 rfl (by omega) (by omega) (fun c9 => ?_) (fun c9 => ?_)
        · refine F_aload_n dX2_readGroup_18 rfl ?_
          refine F_cV0v (v_step (d := 5) h1 h2 h3 hlt) dX2_readGroup_19 rfl rfl (by decide) rfl rfl rfl rfl (by decide) (Nat.le_of_ble_eq_true rfl) (by omega) ?_
          refine F_aload_n dX2_readGroup_22 rfl ?_
          refine F_iconst (v := nI 0) dX2_readGroup_23 rfl ?_
          refine F_sipush (v := nI 9999) dX2_readGroup_24 rfl ?_
          refine F_cV2i (hN) dX2_readGroup_27 rfl rfl (by decide) rfl rfl rfl rfl (by decide) (Nat.le_of_ble_eq_true rfl) (by omega) ?_
          refine F_istore_n dX2_readGroup_30 (Nat.le_of_ble_eq_true rfl) ?_
          refine F_iload_n dX2_readGroup_31 rfl ?_
          refine F_iconst (v := (-1)) dX2_readGroup_32 rfl ?_
          refine F_icmp_ne (tgt := 40) dX2_readGroup_33 rfl (fun c33 => ?_) (fun c33 => ?_)
          · refine F_aload_n dX2_readGroup_40 rfl ?_
            refine F_iconst (v := nI 0) dX2_readGroup_41 rfl ?_
            refine F_sipush (v := nI 9999) dX2_readGroup_42 rfl ?_
            refine F_cV2i (hN2) dX2_readGroup_45 rfl rfl (by decide) rfl rfl rfl rfl (by decide) (Nat.le_of_ble_eq_true rfl) (by omega) ?_
            refine F_istore_n dX2_readGroup_48 (Nat.le_of_ble_eq_true rfl) ?_
            refine F_iload_n dX2_readGroup_49 rfl ?_
            refine F_iconst (v := (-1)) dX2_readGroup_50 rfl ?_
            refine F_icmp_ne (tgt := 56) dX2_readGroup_51 rfl (fun c51 => ?_) (fun c51 => ?_)
            · exact absurd rfl c51
            · refine F_iconst (v := nI 0) dX2_readGroup_54 rfl ?_
              refine F_zret dX2_readGroup_55 rfl (by first | exact Or.inl rfl | exact Or.inr rfl | exact bI_01 _) ?_
              exact hQ
          · exact absurd c33 (nI_n1 (by omega))
        · exact absurd (show n < 6 by omega) c9
      · obtain ⟨q, hw, hM2⟩ := hW σM hM
        obtain ⟨q2, hx, hM3⟩ := hNM _ _ hM2
        obtain ⟨v, τ, x1, x2, x3, x4, x5⟩ := hNM2 _ _ hM3
        obtain ⟨m1, -, m5, m6, m7⟩ := hM
        have hne := fl_ne k0 (show k < 5 by omega) hp6
        have hne2 : ¬ τ 116 7 = 0 := by rw [x2]; exact hne
        refine ⟨τ, mV_of fun Q hQ => ?_, x2, ((MFr.atS _ _ _).trans (MFr.atS _ _ _)).trans x5⟩
        refine F_aload_n dX5_statement_0 rfl ?_
        refine F_cV0i (hw) dX5_statement_1 rfl rfl (by decide) rfl rfl rfl rfl (by decide) (Nat.le_of_ble_eq_true rfl) (by omega) ?_
        refine F_istore_n dX5_statement_4 (Nat.le_of_ble_eq_true rfl) ?_
        refine F_iload_n dX5_statement_5 rfl ?_
        refine F_iconst (v := nI 0) dX5_statement_6 rfl ?_
        refine F_bipush (v := nI 7) dX5_statement_7 rfl ?_
        refine F_bipush (v := nI 18) dX5_statement_9 rfl ?_
        refine F_bipush (v := nI 15) dX5_statement_11 rfl ?_
        refine F_bipush (v := nI 21) dX5_statement_13 rfl ?_
        refine F_bipush (v := nI 16) dX5_statement_15 rfl ?_
        refine F_cS6i (v_letters (d := 5) _ _ _ _ _ _) dX5_statement_17 rfl rfl rfl (by decide) (Nat.le_of_ble_eq_true rfl) (by omega) ?_
        refine F_icmp_neN (tgt := 75) dX5_statement_20 rfl (by omega) (by omega) (fun c20 => ?_) (fun c20 => ?_)
        · exact absurd rfl c20
        · refine F_aload_n dX5_statement_23 rfl ?_
          refine F_cV0i (v_groups (d := 5)) dX5_statement_24 rfl rfl (by decide) rfl rfl rfl rfl (by decide) (Nat.le_of_ble_eq_true rfl) (by omega) ?_
          refine F_top (y := nI n) (show σM 117 23 = nI n by rw [m6]; exact hb.2.2.1) ?_
          refine F_bipush (v := nI 6) dX5_statement_27 rfl ?_
          refine F_icmp_neN (tgt := 41) dX5_statement_29 rfl (by omega) (by omega) (fun c29 => ?_) (fun c29 => ?_)
          · refine F_aload_n dX5_statement_41 rfl ?_
            refine F_iconst (v := nI 0) dX5_statement_42 rfl ?_
            refine F_sipush (v := nI 9999) dX5_statement_43 rfl ?_
            refine F_cV2i (hx) dX5_statement_46 rfl rfl (by decide) rfl rfl rfl rfl (by decide) (Nat.le_of_ble_eq_true rfl) (by omega) ?_
            refine F_istore_n dX5_statement_49 (Nat.le_of_ble_eq_true rfl) ?_
            refine F_aload_n dX5_statement_50 rfl ?_
            refine F_iconst (v := nI 0) dX5_statement_51 rfl ?_
            refine F_sipush (v := nI 9999) dX5_statement_52 rfl ?_
            refine F_cV2i (x1) dX5_statement_55 rfl rfl (by decide) rfl rfl rfl rfl (by decide) (Nat.le_of_ble_eq_true rfl) (by omega) ?_
            refine F_istore_n dX5_statement_58 (Nat.le_of_ble_eq_true rfl) ?_
            refine F_aload_n dX5_statement_59 rfl ?_
            refine F_geti dX5_statement_60 rfl rfl rfl rfl ?_
            refine F_if_ne (tgt := 72) dX5_statement_63 rfl (fun c63 => ?_) (fun c63 => ?_)
            · refine F_goto (tgt := 312) dX5_statement_72 rfl ?_
              refine F_vret dX5_statement_312 rfl ?_
              exact hQ
            · exact absurd c63 hne2
          · exact absurd (Decidable.not_not.mp c29) hfull
    obtain ⟨t2, r2, lt2, hN2, hB3, hNM2⟩ := hN2
    have v2 := tkv_le b L (tps b L (i + 1 + 1))
    have hg3 : (up (up (up σB 13 2 (nI (i + 1))) 13 2 (nI (i + 1 + 1))) 13 2 (nI (i + 1 + 1 + 1))) 19 0 = nI n := hg0
    refine ⟨true, up (up (up (up (up (up σB 13 2 (nI (i + 1))) 13 2 (nI (i + 1 + 1))) 13 2 (nI (i + 1 + 1 + 1))) 20 n (nI (tkv b L (tps b L (i + 1))))) 21 n (nI (tkv b L (tps b L (i + 1 + 1))))) 19 0 (nI (n + 1)), mV_of fun Q hQ => ?_, fun z z1 z2 => ?_, Or.inl ⟨rfl, i + 1 + 1 + 1, comesF f n (nI (tkv b L (tps b L (i + 1)))) (nI (tkv b L (tps b L (i + 1 + 1)))), n + 1, c, by omega, ?_, fun σM hM => ?_⟩⟩
    · refine F_aload_n dX2_readGroup_0 rfl ?_
      refine F_getr dX2_readGroup_1 rfl rfl rfl rfl ?_
      refine F_getE (v := nI n) dX2_readGroup_4 rfl rfl rfl rfl hg0 ?_
      refine F_bipush (v := nI 6) dX2_readGroup_7 rfl ?_
      refine F_icmp_ltN (tgt := 18) dX2_readGroup_9 rfl (by omega) (by omega) (fun c9 => ?_) (fun c9 => ?_)
      · refine F_aload_n dX2_readGroup_18 rfl ?_
        refine F_cV0v (v_step (d := 5) h1 h2 h3 hlt) dX2_readGroup_19 rfl rfl (by decide) rfl rfl rfl rfl (by decide) (Nat.le_of_ble_eq_true rfl) (by omega) ?_
        refine F_aload_n dX2_readGroup_22 rfl ?_
        refine F_iconst (v := nI 0) dX2_readGroup_23 rfl ?_
        refine F_sipush (v := nI 9999) dX2_readGroup_24 rfl ?_
        refine F_cV2i (hN) dX2_readGroup_27 rfl rfl (by decide) rfl rfl rfl rfl (by decide) (Nat.le_of_ble_eq_true rfl) (by omega) ?_
        refine F_istore_n dX2_readGroup_30 (Nat.le_of_ble_eq_true rfl) ?_
        refine F_iload_n dX2_readGroup_31 rfl ?_
        refine F_iconst (v := (-1)) dX2_readGroup_32 rfl ?_
        refine F_icmp_ne (tgt := 40) dX2_readGroup_33 rfl (fun c33 => ?_) (fun c33 => ?_)
        · refine F_aload_n dX2_readGroup_40 rfl ?_
          refine F_iconst (v := nI 0) dX2_readGroup_41 rfl ?_
          refine F_sipush (v := nI 9999) dX2_readGroup_42 rfl ?_
          refine F_cV2i (hN2) dX2_readGroup_45 rfl rfl (by decide) rfl rfl rfl rfl (by decide) (Nat.le_of_ble_eq_true rfl) (by omega) ?_
          refine F_istore_n dX2_readGroup_48 (Nat.le_of_ble_eq_true rfl) ?_
          refine F_iload_n dX2_readGroup_49 rfl ?_
          refine F_iconst (v := (-1)) dX2_readGroup_50 rfl ?_
          refine F_icmp_ne (tgt := 56) dX2_readGroup_51 rfl (fun c51 => ?_) (fun c51 => ?_)
          · refine F_aload_n dX2_readGroup_56 rfl ?_
            refine F_getr dX2_readGroup_57 rfl rfl rfl rfl ?_
            refine F_iload_n dX2_readGroup_60 rfl ?_
            refine F_iload_n dX2_readGroup_61 rfl ?_
            refine F_cV2v (v_addGroup (d := 5) isTold_19 _ _ hg3 (by omega)) dX2_readGroup_62 rfl rfl (by decide) rfl rfl rfl rfl (by decide) (Nat.le_of_ble_eq_true rfl) (by omega) ?_
            refine F_iconst (v := nI 1) dX2_readGroup_65 rfl ?_
            refine F_zret dX2_readGroup_66 rfl (by first | exact Or.inl rfl | exact Or.inr rfl | exact bI_01 _) ?_
            exact hQ
          · exact absurd c51 (nI_n1 (by omega))
        · exact absurd c33 (nI_n1 (by omega))
      · exact absurd (show n < 6 by omega) c9
    · rw [up_n _ _ _ (by omega), up_n _ _ _ (by omega), up_n _ _ _ (by omega), up_n _ _ _ z1, up_n _ _ _ z1, up_n _ _ _ z1]
    · obtain ⟨g1, g2, g3, g4, g5⟩ := hB3
      refine ⟨g1.rows (fun z z1 z2 => by rw [up_n _ _ _ (by omega), up_n _ _ _ (by omega), up_n _ _ _ (by omega)]), g2, g3, g4, ?_⟩
      exact TRf.group g5 (by omega) (inR_ex (by decide) r1) (inR_ex (by decide) r2)
    · obtain ⟨q, hw, hM2⟩ := hW σM hM
      obtain ⟨q2, hx, hM3⟩ := hNM _ _ hM2
      obtain ⟨q3, hx2, hM4⟩ := hNM2 _ _ hM3
      obtain ⟨m1, -, m5, m6, m7⟩ := hM
      obtain ⟨l1, l2, l3, l4, l5⟩ := hM4
      refine ⟨upR (atS (atS (atS σM q (tps b L i)) q2 (tps b L (i + 1))) q3 (tps b L (i + 1 + 1))) 117 (comesF f n (nI (tkv b L (tps b L (i + 1)))) (nI (tkv b L (tps b L (i + 1 + 1))))), mV_of fun Q hQ => ?_, ⟨l1, l2, l3, rfl, l5⟩, (((MFr.atS _ _ _).trans (MFr.atS _ _ _)).trans (MFr.atS _ _ _)).trans (MFr.pl _ _)⟩
      have hcm := v_comes (G := G) (d := 5) (σ := atS (atS (atS σM q (tps b L i)) q2 (tps b L (i + 1))) q3 (tps b L (i + 1 + 1))) (nI (tkv b L (tps b L (i + 1)))) (nI (tkv b L (tps b L (i + 1 + 1)))) (g := n) (by rw [l4]; exact hb.2.2.1) (by omega)
      rw [l4] at hcm
      refine F_aload_n dX5_statement_0 rfl ?_
      refine F_cV0i (hw) dX5_statement_1 rfl rfl (by decide) rfl rfl rfl rfl (by decide) (Nat.le_of_ble_eq_true rfl) (by omega) ?_
      refine F_istore_n dX5_statement_4 (Nat.le_of_ble_eq_true rfl) ?_
      refine F_iload_n dX5_statement_5 rfl ?_
      refine F_iconst (v := nI 0) dX5_statement_6 rfl ?_
      refine F_bipush (v := nI 7) dX5_statement_7 rfl ?_
      refine F_bipush (v := nI 18) dX5_statement_9 rfl ?_
      refine F_bipush (v := nI 15) dX5_statement_11 rfl ?_
      refine F_bipush (v := nI 21) dX5_statement_13 rfl ?_
      refine F_bipush (v := nI 16) dX5_statement_15 rfl ?_
      refine F_cS6i (v_letters (d := 5) _ _ _ _ _ _) dX5_statement_17 rfl rfl rfl (by decide) (Nat.le_of_ble_eq_true rfl) (by omega) ?_
      refine F_icmp_neN (tgt := 75) dX5_statement_20 rfl (by omega) (by omega) (fun c20 => ?_) (fun c20 => ?_)
      · exact absurd rfl c20
      · refine F_aload_n dX5_statement_23 rfl ?_
        refine F_cV0i (v_groups (d := 5)) dX5_statement_24 rfl rfl (by decide) rfl rfl rfl rfl (by decide) (Nat.le_of_ble_eq_true rfl) (by omega) ?_
        refine F_top (y := nI n) (show σM 117 23 = nI n by rw [m6]; exact hb.2.2.1) ?_
        refine F_bipush (v := nI 6) dX5_statement_27 rfl ?_
        refine F_icmp_neN (tgt := 41) dX5_statement_29 rfl (by omega) (by omega) (fun c29 => ?_) (fun c29 => ?_)
        · refine F_aload_n dX5_statement_41 rfl ?_
          refine F_iconst (v := nI 0) dX5_statement_42 rfl ?_
          refine F_sipush (v := nI 9999) dX5_statement_43 rfl ?_
          refine F_cV2i (hx) dX5_statement_46 rfl rfl (by decide) rfl rfl rfl rfl (by decide) (Nat.le_of_ble_eq_true rfl) (by omega) ?_
          refine F_istore_n dX5_statement_49 (Nat.le_of_ble_eq_true rfl) ?_
          refine F_aload_n dX5_statement_50 rfl ?_
          refine F_iconst (v := nI 0) dX5_statement_51 rfl ?_
          refine F_sipush (v := nI 9999) dX5_statement_52 rfl ?_
          refine F_cV2i (hx2) dX5_statement_55 rfl rfl (by decide) rfl rfl rfl rfl (by decide) (Nat.le_of_ble_eq_true rfl) (by omega) ?_
          refine F_istore_n dX5_statement_58 (Nat.le_of_ble_eq_true rfl) ?_
          refine F_aload_n dX5_statement_59 rfl ?_
          refine F_geti dX5_statement_60 rfl rfl rfl rfl ?_
          refine F_if_ne (tgt := 72) dX5_statement_63 rfl (fun c63 => ?_) (fun c63 => ?_)
          · exact absurd m5 c63
          · refine F_aload_n dX5_statement_66 rfl ?_
            refine F_iload_n dX5_statement_67 rfl ?_
            refine F_iload_n dX5_statement_68 rfl ?_
            refine F_cV2v (hcm) dX5_statement_69 rfl rfl (by decide) rfl rfl rfl rfl (by decide) (Nat.le_of_ble_eq_true rfl) (by omega) ?_
            refine F_goto (tgt := 312) dX5_statement_72 rfl ?_
            refine F_vret dX5_statement_312 rfl ?_
            exact hQ
        · exact absurd (Decidable.not_not.mp c29) hfull

end ST
