/-! ===== swap, taper, safe ===== -/
theorem dX4_taper_0 : decode cX4_taper 0 = .ok (.aload_n 0, 1) := by decide +kernel
theorem dX4_taper_1 : decode cX4_taper 1 = .ok (.getfield 10, 3) := by decide +kernel
theorem dX4_taper_4 : decode cX4_taper 4 = .ok (.iload_n 1, 1) := by decide +kernel
theorem dX4_taper_5 : decode cX4_taper 5 = .ok (.invokevirtual 111, 3) := by decide +kernel
theorem dX4_taper_8 : decode cX4_taper 8 = .ok (.ifCond .eq 10, 3) := by decide +kernel
theorem dX4_taper_11 : decode cX4_taper 11 = .ok (.iload_n 2, 1) := by decide +kernel
theorem dX4_taper_12 : decode cX4_taper 12 = .ok (.invokestatic 145, 3) := by decide +kernel
theorem dX4_taper_15 : decode cX4_taper 15 = .ok (.ifCond .ne 5, 3) := by decide +kernel
theorem dX4_taper_18 : decode cX4_taper 18 = .ok (.iconst (-1), 1) := by decide +kernel
theorem dX4_taper_19 : decode cX4_taper 19 = .ok (.ireturn, 1) := by decide +kernel
theorem dX4_taper_20 : decode cX4_taper 20 = .ok (.aload_n 0, 1) := by decide +kernel
theorem dX4_taper_21 : decode cX4_taper 21 = .ok (.getfield 30, 3) := by decide +kernel
theorem dX4_taper_24 : decode cX4_taper 24 = .ok (.aload_n 0, 1) := by decide +kernel
theorem dX4_taper_25 : decode cX4_taper 25 = .ok (.getfield 10, 3) := by decide +kernel
theorem dX4_taper_28 : decode cX4_taper 28 = .ok (.iload_n 1, 1) := by decide +kernel
theorem dX4_taper_29 : decode cX4_taper 29 = .ok (.iconst (-1), 1) := by decide +kernel
theorem dX4_taper_30 : decode cX4_taper 30 = .ok (.iload_n 2, 1) := by decide +kernel
theorem dX4_taper_31 : decode cX4_taper 31 = .ok (.invokevirtual 148, 3) := by decide +kernel
theorem dX4_taper_34 : decode cX4_taper 34 = .ok (.iconst 0, 1) := by decide +kernel
theorem dX4_taper_35 : decode cX4_taper 35 = .ok (.istore_n 3, 1) := by decide +kernel
theorem dX4_taper_36 : decode cX4_taper 36 = .ok (.aload_n 0, 1) := by decide +kernel
theorem dX4_taper_37 : decode cX4_taper 37 = .ok (.getfield 30, 3) := by decide +kernel
theorem dX4_taper_40 : decode cX4_taper 40 = .ok (.iload_n 2, 1) := by decide +kernel
theorem dX4_taper_41 : decode cX4_taper 41 = .ok (.invokevirtual 183, 3) := by decide +kernel
theorem dX4_taper_44 : decode cX4_taper 44 = .ok (.istore 4, 2) := by decide +kernel
theorem dX4_taper_46 : decode cX4_taper 46 = .ok (.bipush 14, 2) := by decide +kernel
theorem dX4_taper_48 : decode cX4_taper 48 = .ok (.iload_n 2, 1) := by decide +kernel
theorem dX4_taper_49 : decode cX4_taper 49 = .ok (.invokestatic 186, 3) := by decide +kernel
theorem dX4_taper_52 : decode cX4_taper 52 = .ok (.istore 5, 2) := by decide +kernel
theorem dX4_taper_54 : decode cX4_taper 54 = .ok (.iconst 1, 1) := by decide +kernel
theorem dX4_taper_55 : decode cX4_taper 55 = .ok (.istore 6, 2) := by decide +kernel
theorem dX4_taper_57 : decode cX4_taper 57 = .ok (.iload 6, 2) := by decide +kernel
theorem dX4_taper_59 : decode cX4_taper 59 = .ok (.iload 5, 2) := by decide +kernel
theorem dX4_taper_61 : decode cX4_taper 61 = .ok (.if_icmp .gt 60, 3) := by decide +kernel
theorem dX4_taper_64 : decode cX4_taper 64 = .ok (.aload_n 0, 1) := by decide +kernel
theorem dX4_taper_65 : decode cX4_taper 65 = .ok (.getfield 30, 3) := by decide +kernel
theorem dX4_taper_68 : decode cX4_taper 68 = .ok (.getfield 152, 3) := by decide +kernel
theorem dX4_taper_71 : decode cX4_taper 71 = .ok (.iload_n 2, 1) := by decide +kernel
theorem dX4_taper_72 : decode cX4_taper 72 = .ok (.iload 6, 2) := by decide +kernel
theorem dX4_taper_74 : decode cX4_taper 74 = .ok (.isub, 1) := by decide +kernel
theorem dX4_taper_75 : decode cX4_taper 75 = .ok (.iconst 0, 1) := by decide +kernel
theorem dX4_taper_76 : decode cX4_taper 76 = .ok (.iastore, 1) := by decide +kernel
theorem dX4_taper_77 : decode cX4_taper 77 = .ok (.aload_n 0, 1) := by decide +kernel
theorem dX4_taper_78 : decode cX4_taper 78 = .ok (.getfield 30, 3) := by decide +kernel
theorem dX4_taper_81 : decode cX4_taper 81 = .ok (.iload_n 2, 1) := by decide +kernel
theorem dX4_taper_82 : decode cX4_taper 82 = .ok (.iload 6, 2) := by decide +kernel
theorem dX4_taper_84 : decode cX4_taper 84 = .ok (.isub, 1) := by decide +kernel
theorem dX4_taper_85 : decode cX4_taper 85 = .ok (.iload_n 2, 1) := by decide +kernel
theorem dX4_taper_86 : decode cX4_taper 86 = .ok (.invokevirtual 191, 3) := by decide +kernel
theorem dX4_taper_89 : decode cX4_taper 89 = .ok (.aload_n 0, 1) := by decide +kernel
theorem dX4_taper_90 : decode cX4_taper 90 = .ok (.getfield 30, 3) := by decide +kernel
theorem dX4_taper_93 : decode cX4_taper 93 = .ok (.iload_n 2, 1) := by decide +kernel
theorem dX4_taper_94 : decode cX4_taper 94 = .ok (.invokevirtual 183, 3) := by decide +kernel
theorem dX4_taper_97 : decode cX4_taper 97 = .ok (.iload 4, 2) := by decide +kernel
theorem dX4_taper_99 : decode cX4_taper 99 = .ok (.if_icmp .le 16, 3) := by decide +kernel
theorem dX4_taper_102 : decode cX4_taper 102 = .ok (.aload_n 0, 1) := by decide +kernel
theorem dX4_taper_103 : decode cX4_taper 103 = .ok (.getfield 30, 3) := by decide +kernel
theorem dX4_taper_106 : decode cX4_taper 106 = .ok (.iload_n 2, 1) := by decide +kernel
theorem dX4_taper_107 : decode cX4_taper 107 = .ok (.invokevirtual 183, 3) := by decide +kernel
theorem dX4_taper_110 : decode cX4_taper 110 = .ok (.istore 4, 2) := by decide +kernel
theorem dX4_taper_112 : decode cX4_taper 112 = .ok (.iload 6, 2) := by decide +kernel
theorem dX4_taper_114 : decode cX4_taper 114 = .ok (.istore_n 3, 1) := by decide +kernel
theorem dX4_taper_115 : decode cX4_taper 115 = .ok (.iinc 6 1, 3) := by decide +kernel
theorem dX4_taper_118 : decode cX4_taper 118 = .ok (.goto (-61), 3) := by decide +kernel
theorem dX4_taper_121 : decode cX4_taper 121 = .ok (.iload_n 3, 1) := by decide +kernel
theorem dX4_taper_122 : decode cX4_taper 122 = .ok (.ireturn, 1) := by decide +kernel
theorem dX4_safe_0 : decode cX4_safe 0 = .ok (.aload_n 0, 1) := by decide +kernel
theorem dX4_safe_1 : decode cX4_safe 1 = .ok (.getfield 10, 3) := by decide +kernel
theorem dX4_safe_4 : decode cX4_safe 4 = .ok (.iload_n 1, 1) := by decide +kernel
theorem dX4_safe_5 : decode cX4_safe 5 = .ok (.invokevirtual 111, 3) := by decide +kernel
theorem dX4_safe_8 : decode cX4_safe 8 = .ok (.ifCond .eq 10, 3) := by decide +kernel
theorem dX4_safe_11 : decode cX4_safe 11 = .ok (.iload_n 2, 1) := by decide +kernel
theorem dX4_safe_12 : decode cX4_safe 12 = .ok (.invokestatic 145, 3) := by decide +kernel
theorem dX4_safe_15 : decode cX4_safe 15 = .ok (.ifCond .ne 5, 3) := by decide +kernel
theorem dX4_safe_18 : decode cX4_safe 18 = .ok (.iconst (-1), 1) := by decide +kernel
theorem dX4_safe_19 : decode cX4_safe 19 = .ok (.ireturn, 1) := by decide +kernel
theorem dX4_safe_20 : decode cX4_safe 20 = .ok (.aload_n 0, 1) := by decide +kernel
theorem dX4_safe_21 : decode cX4_safe 21 = .ok (.getfield 30, 3) := by decide +kernel
theorem dX4_safe_24 : decode cX4_safe 24 = .ok (.aload_n 0, 1) := by decide +kernel
theorem dX4_safe_25 : decode cX4_safe 25 = .ok (.getfield 10, 3) := by decide +kernel
theorem dX4_safe_28 : decode cX4_safe 28 = .ok (.iload_n 1, 1) := by decide +kernel
theorem dX4_safe_29 : decode cX4_safe 29 = .ok (.iconst (-1), 1) := by decide +kernel
theorem dX4_safe_30 : decode cX4_safe 30 = .ok (.iload_n 2, 1) := by decide +kernel
theorem dX4_safe_31 : decode cX4_safe 31 = .ok (.iconst 1, 1) := by decide +kernel
theorem dX4_safe_32 : decode cX4_safe 32 = .ok (.isub, 1) := by decide +kernel
theorem dX4_safe_33 : decode cX4_safe 33 = .ok (.invokevirtual 148, 3) := by decide +kernel
theorem dX4_safe_36 : decode cX4_safe 36 = .ok (.sipush 300, 3) := by decide +kernel
theorem dX4_safe_39 : decode cX4_safe 39 = .ok (.istore_n 3, 1) := by decide +kernel
theorem dX4_safe_40 : decode cX4_safe 40 = .ok (.iload_n 3, 1) := by decide +kernel
theorem dX4_safe_41 : decode cX4_safe 41 = .ok (.ifCond .lt 32, 3) := by decide +kernel
theorem dX4_safe_44 : decode cX4_safe 44 = .ok (.aload_n 0, 1) := by decide +kernel
theorem dX4_safe_45 : decode cX4_safe 45 = .ok (.getfield 30, 3) := by decide +kernel
theorem dX4_safe_48 : decode cX4_safe 48 = .ok (.iload_n 2, 1) := by decide +kernel
theorem dX4_safe_49 : decode cX4_safe 49 = .ok (.iload_n 3, 1) := by decide +kernel
theorem dX4_safe_50 : decode cX4_safe 50 = .ok (.invokevirtual 207, 3) := by decide +kernel
theorem dX4_safe_53 : decode cX4_safe 53 = .ok (.aload_n 0, 1) := by decide +kernel
theorem dX4_safe_54 : decode cX4_safe 54 = .ok (.getfield 30, 3) := by decide +kernel
theorem dX4_safe_57 : decode cX4_safe 57 = .ok (.getfield 165, 3) := by decide +kernel
theorem dX4_safe_60 : decode cX4_safe 60 = .ok (.iload_n 2, 1) := by decide +kernel
theorem dX4_safe_61 : decode cX4_safe 61 = .ok (.baload, 1) := by decide +kernel
theorem dX4_safe_62 : decode cX4_safe 62 = .ok (.ifCond .ne 5, 3) := by decide +kernel
theorem dX4_safe_65 : decode cX4_safe 65 = .ok (.iload_n 3, 1) := by decide +kernel
theorem dX4_safe_66 : decode cX4_safe 66 = .ok (.ireturn, 1) := by decide +kernel
theorem dX4_safe_67 : decode cX4_safe 67 = .ok (.iinc 3 (-1), 3) := by decide +kernel
theorem dX4_safe_70 : decode cX4_safe 70 = .ok (.goto (-30), 3) := by decide +kernel
theorem dX4_safe_73 : decode cX4_safe 73 = .ok (.iconst (-1), 1) := by decide +kernel
theorem dX4_safe_74 : decode cX4_safe 74 = .ok (.ireturn, 1) := by decide +kernel
theorem dX5_taper_0 : decode cX5_taper 0 = .ok (.aload_n 0, 1) := by decide +kernel
theorem dX5_taper_1 : decode cX5_taper 1 = .ok (.iconst 0, 1) := by decide +kernel
theorem dX5_taper_2 : decode cX5_taper 2 = .ok (.putfield 61, 3) := by decide +kernel
theorem dX5_taper_5 : decode cX5_taper 5 = .ok (.aload_n 0, 1) := by decide +kernel
theorem dX5_taper_6 : decode cX5_taper 6 = .ok (.iload_n 1, 1) := by decide +kernel
theorem dX5_taper_7 : decode cX5_taper 7 = .ok (.iload_n 2, 1) := by decide +kernel
theorem dX5_taper_8 : decode cX5_taper 8 = .ok (.invokevirtual 79, 3) := by decide +kernel
theorem dX5_taper_11 : decode cX5_taper 11 = .ok (.ifCond .ne 5, 3) := by decide +kernel
theorem dX5_taper_14 : decode cX5_taper 14 = .ok (.iconst (-1), 1) := by decide +kernel
theorem dX5_taper_15 : decode cX5_taper 15 = .ok (.ireturn, 1) := by decide +kernel
theorem dX5_taper_16 : decode cX5_taper 16 = .ok (.aload_n 0, 1) := by decide +kernel
theorem dX5_taper_17 : decode cX5_taper 17 = .ok (.iload_n 1, 1) := by decide +kernel
theorem dX5_taper_18 : decode cX5_taper 18 = .ok (.invokevirtual 204, 3) := by decide +kernel
theorem dX5_taper_21 : decode cX5_taper 21 = .ok (.iconst 0, 1) := by decide +kernel
theorem dX5_taper_22 : decode cX5_taper 22 = .ok (.istore_n 3, 1) := by decide +kernel
theorem dX5_taper_23 : decode cX5_taper 23 = .ok (.aload_n 0, 1) := by decide +kernel
theorem dX5_taper_24 : decode cX5_taper 24 = .ok (.iload_n 1, 1) := by decide +kernel
theorem dX5_taper_25 : decode cX5_taper 25 = .ok (.iload_n 2, 1) := by decide +kernel
theorem dX5_taper_26 : decode cX5_taper 26 = .ok (.invokevirtual 200, 3) := by decide +kernel
theorem dX5_taper_29 : decode cX5_taper 29 = .ok (.istore 4, 2) := by decide +kernel
theorem dX5_taper_31 : decode cX5_taper 31 = .ok (.iconst 1, 1) := by decide +kernel
theorem dX5_taper_32 : decode cX5_taper 32 = .ok (.istore 5, 2) := by decide +kernel
theorem dX5_taper_34 : decode cX5_taper 34 = .ok (.iload 5, 2) := by decide +kernel
theorem dX5_taper_36 : decode cX5_taper 36 = .ok (.bipush 14, 2) := by decide +kernel
theorem dX5_taper_38 : decode cX5_taper 38 = .ok (.if_icmp .gt 58, 3) := by decide +kernel
theorem dX5_taper_41 : decode cX5_taper 41 = .ok (.iload 5, 2) := by decide +kernel
theorem dX5_taper_43 : decode cX5_taper 43 = .ok (.iload_n 2, 1) := by decide +kernel
theorem dX5_taper_44 : decode cX5_taper 44 = .ok (.if_icmp .gt 52, 3) := by decide +kernel
theorem dX5_taper_47 : decode cX5_taper 47 = .ok (.aload_n 0, 1) := by decide +kernel
theorem dX5_taper_48 : decode cX5_taper 48 = .ok (.getfield 7, 3) := by decide +kernel
theorem dX5_taper_51 : decode cX5_taper 51 = .ok (.bipush 40, 2) := by decide +kernel
theorem dX5_taper_53 : decode cX5_taper 53 = .ok (.bipush 70, 2) := by decide +kernel
theorem dX5_taper_55 : decode cX5_taper 55 = .ok (.iload_n 1, 1) := by decide +kernel
theorem dX5_taper_56 : decode cX5_taper 56 = .ok (.imul, 1) := by decide +kernel
theorem dX5_taper_57 : decode cX5_taper 57 = .ok (.iadd, 1) := by decide +kernel
theorem dX5_taper_58 : decode cX5_taper 58 = .ok (.iload_n 2, 1) := by decide +kernel
theorem dX5_taper_59 : decode cX5_taper 59 = .ok (.iadd, 1) := by decide +kernel
theorem dX5_taper_60 : decode cX5_taper 60 = .ok (.iload 5, 2) := by decide +kernel
theorem dX5_taper_62 : decode cX5_taper 62 = .ok (.isub, 1) := by decide +kernel
theorem dX5_taper_63 : decode cX5_taper 63 = .ok (.iconst 0, 1) := by decide +kernel
theorem dX5_taper_64 : decode cX5_taper 64 = .ok (.iastore, 1) := by decide +kernel
theorem dX5_taper_65 : decode cX5_taper 65 = .ok (.aload_n 0, 1) := by decide +kernel
theorem dX5_taper_66 : decode cX5_taper 66 = .ok (.iload_n 1, 1) := by decide +kernel
theorem dX5_taper_67 : decode cX5_taper 67 = .ok (.iload_n 2, 1) := by decide +kernel
theorem dX5_taper_68 : decode cX5_taper 68 = .ok (.invokevirtual 200, 3) := by decide +kernel
theorem dX5_taper_71 : decode cX5_taper 71 = .ok (.istore 6, 2) := by decide +kernel
theorem dX5_taper_73 : decode cX5_taper 73 = .ok (.iload 6, 2) := by decide +kernel
theorem dX5_taper_75 : decode cX5_taper 75 = .ok (.iload 4, 2) := by decide +kernel
theorem dX5_taper_77 : decode cX5_taper 77 = .ok (.if_icmp .gt 6, 3) := by decide +kernel
theorem dX5_taper_80 : decode cX5_taper 80 = .ok (.goto 10, 3) := by decide +kernel
theorem dX5_taper_83 : decode cX5_taper 83 = .ok (.iload 5, 2) := by decide +kernel
theorem dX5_taper_85 : decode cX5_taper 85 = .ok (.istore_n 3, 1) := by decide +kernel
theorem dX5_taper_86 : decode cX5_taper 86 = .ok (.iload 6, 2) := by decide +kernel
theorem dX5_taper_88 : decode cX5_taper 88 = .ok (.istore 4, 2) := by decide +kernel
theorem dX5_taper_90 : decode cX5_taper 90 = .ok (.iinc 5 1, 3) := by decide +kernel
theorem dX5_taper_93 : decode cX5_taper 93 = .ok (.goto (-59), 3) := by decide +kernel
theorem dX5_taper_96 : decode cX5_taper 96 = .ok (.aload_n 0, 1) := by decide +kernel
theorem dX5_taper_97 : decode cX5_taper 97 = .ok (.iload_n 1, 1) := by decide +kernel
theorem dX5_taper_98 : decode cX5_taper 98 = .ok (.invokevirtual 207, 3) := by decide +kernel
theorem dX5_taper_101 : decode cX5_taper 101 = .ok (.iload_n 3, 1) := by decide +kernel
theorem dX5_taper_102 : decode cX5_taper 102 = .ok (.ireturn, 1) := by decide +kernel
theorem dX5_safe_0 : decode cX5_safe 0 = .ok (.aload_n 0, 1) := by decide +kernel
theorem dX5_safe_1 : decode cX5_safe 1 = .ok (.iconst 0, 1) := by decide +kernel
theorem dX5_safe_2 : decode cX5_safe 2 = .ok (.putfield 61, 3) := by decide +kernel
theorem dX5_safe_5 : decode cX5_safe 5 = .ok (.aload_n 0, 1) := by decide +kernel
theorem dX5_safe_6 : decode cX5_safe 6 = .ok (.iload_n 1, 1) := by decide +kernel
theorem dX5_safe_7 : decode cX5_safe 7 = .ok (.iload_n 2, 1) := by decide +kernel
theorem dX5_safe_8 : decode cX5_safe 8 = .ok (.invokevirtual 79, 3) := by decide +kernel
theorem dX5_safe_11 : decode cX5_safe 11 = .ok (.ifCond .ne 5, 3) := by decide +kernel
theorem dX5_safe_14 : decode cX5_safe 14 = .ok (.iconst (-1), 1) := by decide +kernel
theorem dX5_safe_15 : decode cX5_safe 15 = .ok (.ireturn, 1) := by decide +kernel
theorem dX5_safe_16 : decode cX5_safe 16 = .ok (.aload_n 0, 1) := by decide +kernel
theorem dX5_safe_17 : decode cX5_safe 17 = .ok (.iload_n 2, 1) := by decide +kernel
theorem dX5_safe_18 : decode cX5_safe 18 = .ok (.putfield 55, 3) := by decide +kernel
theorem dX5_safe_21 : decode cX5_safe 21 = .ok (.aload_n 0, 1) := by decide +kernel
theorem dX5_safe_22 : decode cX5_safe 22 = .ok (.sipush 300, 3) := by decide +kernel
theorem dX5_safe_25 : decode cX5_safe 25 = .ok (.putfield 182, 3) := by decide +kernel
theorem dX5_safe_28 : decode cX5_safe 28 = .ok (.aload_n 0, 1) := by decide +kernel
theorem dX5_safe_29 : decode cX5_safe 29 = .ok (.iload_n 1, 1) := by decide +kernel
theorem dX5_safe_30 : decode cX5_safe 30 = .ok (.iload_n 2, 1) := by decide +kernel
theorem dX5_safe_31 : decode cX5_safe 31 = .ok (.invokevirtual 194, 3) := by decide +kernel
theorem dX5_safe_34 : decode cX5_safe 34 = .ok (.aload_n 0, 1) := by decide +kernel
theorem dX5_safe_35 : decode cX5_safe 35 = .ok (.getfield 48, 3) := by decide +kernel
theorem dX5_safe_38 : decode cX5_safe 38 = .ok (.iload_n 2, 1) := by decide +kernel
theorem dX5_safe_39 : decode cX5_safe 39 = .ok (.baload, 1) := by decide +kernel
theorem dX5_safe_40 : decode cX5_safe 40 = .ok (.ifCond .eq 36, 3) := by decide +kernel
theorem dX5_safe_43 : decode cX5_safe 43 = .ok (.aload_n 0, 1) := by decide +kernel
theorem dX5_safe_44 : decode cX5_safe 44 = .ok (.getfield 182, 3) := by decide +kernel
theorem dX5_safe_47 : decode cX5_safe 47 = .ok (.ifCond .lt 29, 3) := by decide +kernel
theorem dX5_safe_50 : decode cX5_safe 50 = .ok (.aload_n 0, 1) := by decide +kernel
theorem dX5_safe_51 : decode cX5_safe 51 = .ok (.dup, 1) := by decide +kernel
theorem dX5_safe_52 : decode cX5_safe 52 = .ok (.getfield 182, 3) := by decide +kernel
theorem dX5_safe_55 : decode cX5_safe 55 = .ok (.iconst 1, 1) := by decide +kernel
theorem dX5_safe_56 : decode cX5_safe 56 = .ok (.isub, 1) := by decide +kernel
theorem dX5_safe_57 : decode cX5_safe 57 = .ok (.putfield 182, 3) := by decide +kernel
theorem dX5_safe_60 : decode cX5_safe 60 = .ok (.aload_n 0, 1) := by decide +kernel
theorem dX5_safe_61 : decode cX5_safe 61 = .ok (.getfield 182, 3) := by decide +kernel
theorem dX5_safe_64 : decode cX5_safe 64 = .ok (.ifCond .lt (-30), 3) := by decide +kernel
theorem dX5_safe_67 : decode cX5_safe 67 = .ok (.aload_n 0, 1) := by decide +kernel
theorem dX5_safe_68 : decode cX5_safe 68 = .ok (.iload_n 1, 1) := by decide +kernel
theorem dX5_safe_69 : decode cX5_safe 69 = .ok (.iload_n 2, 1) := by decide +kernel
theorem dX5_safe_70 : decode cX5_safe 70 = .ok (.invokevirtual 194, 3) := by decide +kernel
theorem dX5_safe_73 : decode cX5_safe 73 = .ok (.goto (-39), 3) := by decide +kernel
theorem dX5_safe_76 : decode cX5_safe 76 = .ok (.aload_n 0, 1) := by decide +kernel
theorem dX5_safe_77 : decode cX5_safe 77 = .ok (.iconst (-1), 1) := by decide +kernel
theorem dX5_safe_78 : decode cX5_safe 78 = .ok (.putfield 55, 3) := by decide +kernel
theorem dX5_safe_81 : decode cX5_safe 81 = .ok (.aload_n 0, 1) := by decide +kernel
theorem dX5_safe_82 : decode cX5_safe 82 = .ok (.getfield 182, 3) := by decide +kernel
theorem dX5_safe_85 : decode cX5_safe 85 = .ok (.ireturn, 1) := by decide +kernel

section QD
variable {G : mG} {d n c : Nat} {σ : mS}
theorem v_remembers {g : Nat} (hg : g < 6) : mV G mX5_remembers (d + 1) [.ref 116, .int (nI g)] σ none (upR σ 130 (va_cpy (σ 117) (σ 130) (40 + 70 * g) 0 70)) := by
  refine mV_of fun Q hQ => ?_
  have hl : ∀ e, e ≤ 70 → mF G mX5_remembers (d + 1) 2 [some (.ref 116), some (.int (nI g)), some (.int (nI e))] [] (upR σ 130 (va_cpy (σ 117) (σ 130) (40 + 70 * g) 0 e)) Q := by
    refine loopUp 70 (fun e he ih => ?_)
    refine F_iload_n dX5_remembers_2 rfl ?_
    refine F_bipush (v := nI 70) dX5_remembers_3 rfl ?_
    refine F_icmp_geN (tgt := 26) dX5_remembers_5 rfl (by omega) (by omega) (fun c5 => ?_) (fun c5 => ?_)
    · refine F_vret dX5_remembers_26 rfl ?_
      have e1 : e = 70 := by omega
      subst e1
      exact hQ
    · refine F_aload_n dX5_remembers_8 rfl ?_
      refine F_getr dX5_remembers_9 rfl rfl (by first | assumption | rfl) rfl ?_
      refine F_iload_n dX5_remembers_12 rfl ?_
      refine F_aload_n dX5_remembers_13 rfl ?_
      refine F_iload_n dX5_remembers_14 rfl ?_
      refine F_iload_n dX5_remembers_15 rfl ?_
      refine F_cV2i (v_kindOf (d := d) hg (by omega)) dX5_remembers_16 rfl rfl (by decide) (by first | assumption | rfl) rfl rfl rfl (by decide) (Nat.le_of_ble_eq_true rfl) (by omega) ?_
      refine F_iast dX5_remembers_19 (by first | assumption | rfl) (by decide) (by omega) ?_
      refine F_iincN dX5_remembers_20 rfl ?_
      refine F_goto (tgt := 2) dX5_remembers_23 rfl ?_
      refine F_sg (up_cpy _ _ _ _ (by omega) rfl) (ih (by omega))
  refine F_iconst (v := nI 0) dX5_remembers_0 rfl ?_
  refine F_istore_n dX5_remembers_1 (Nat.le_of_ble_eq_true rfl) ?_
  refine F_sg (cpy_0 _ _ _ _ _).symm (hl 0 (by omega))

theorem v_comesBack {g : Nat} (hg : g < 6) : mV G mX5_comesBack d [.ref 116, .int (nI g)] σ none (upR σ 117 (plR (σ 117) g (σ 130))) := by
  refine mV_of fun Q hQ => ?_
  have hl : ∀ e, e ≤ 70 → mF G mX5_comesBack d 2 [some (.ref 116), some (.int (nI g)), some (.int (nI e))] [] (upR σ 117 (va_cpy (σ 130) (σ 117) 0 (40 + 70 * g) e)) Q := by
    refine loopUp 70 (fun e he ih => ?_)
    refine F_iload_n dX5_comesBack_2 rfl ?_
    refine F_bipush (v := nI 70) dX5_comesBack_3 rfl ?_
    refine F_icmp_geN (tgt := 34) dX5_comesBack_5 rfl (by omega) (by omega) (fun c5 => ?_) (fun c5 => ?_)
    · refine F_vret dX5_comesBack_34 rfl ?_
      have e1 : e = 70 := by omega
      subst e1
      refine Qn hQ ?_
      congr 1
      funext x
      simp only [va_cpy, plR]
      split
      · congr 1; omega
      · rfl
    · refine F_aload_n dX5_comesBack_8 rfl ?_
      refine F_getr dX5_comesBack_9 rfl rfl (by first | assumption | rfl) rfl ?_
      refine F_bipush (v := nI 40) dX5_comesBack_12 rfl ?_
      refine F_bipush (v := nI 70) dX5_comesBack_14 rfl ?_
      refine F_iload_n dX5_comesBack_16 rfl ?_
      refine F_imulN dX5_comesBack_17 ?_
      refine F_iaddN dX5_comesBack_18 ?_
      refine F_iload_n dX5_comesBack_19 rfl ?_
      refine F_iaddN dX5_comesBack_20 ?_
      refine F_aload_n dX5_comesBack_21 rfl ?_
      refine F_getr dX5_comesBack_22 rfl rfl (by first | assumption | rfl) rfl ?_
      refine F_iload_n dX5_comesBack_25 rfl ?_
      refine F_iald dX5_comesBack_26 (by first | assumption | rfl) (by decide) (by omega) ?_
      refine F_iast dX5_comesBack_27 (by first | assumption | rfl) (by decide) (by omega) ?_
      refine F_iincN dX5_comesBack_28 rfl ?_
      refine F_goto (tgt := 2) dX5_comesBack_31 rfl ?_
      refine F_sg (up_cpy _ _ _ _ (by omega) (by rw [Nat.zero_add]; rfl)) (ih (by omega))
  refine F_iconst (v := nI 0) dX5_comesBack_0 rfl ?_
  refine F_istore_n dX5_comesBack_1 (Nat.le_of_ble_eq_true rfl) ?_
  refine F_sg (cpy_0 _ _ _ _ _).symm (hl 0 (by omega))

theorem b_swapA (hq : QR σ n c) {g e a b : Int32} (h : (grB (nI n) g && dB e && dB a && dB b) = false) : Ask G mX4_swap [.ref 3, .int g, .int e, .int a, .int b] (-1000000000) σ := by
  have hn := hq.1.2.1
  have h23 := hq.1.1.2.2.1
  have hn6 := hq.1.1.1
  refine ⟨σ, mV_of fun Q hQ => ?_, Fr.rfl hq⟩
  refine F_aload_n dX4_swap_0 rfl ?_
  refine F_getr dX4_swap_1 rfl rfl (by first | assumption | rfl) rfl ?_
  refine F_iload_n dX4_swap_4 rfl ?_
  refine F_cV1i (v_hasGroup (d := 10) isTold_4 _) dX4_swap_5 rfl rfl (by decide) (by first | assumption | rfl) rfl rfl rfl (by decide) (Nat.le_of_ble_eq_true rfl) (by omega) ?_
  refine F_if_eqB (tgt := 33) dX4_swap_8 rfl (fun c8 => ?_) (fun c8 => ?_)
  · refine F_ldc dX4_swap_33 rfl rfl ?_
    refine F_iret dX4_swap_35 rfl ?_
    exact hQ
  · refine F_iload_n dX4_swap_11 rfl ?_
    refine F_cS1i (v_bIsDay (d := 10) _) dX4_swap_12 rfl rfl rfl (by decide) (Nat.le_of_ble_eq_true rfl) (by omega) ?_
    refine F_if_eqB (tgt := 33) dX4_swap_15 rfl (fun c15 => ?_) (fun c15 => ?_)
    · refine F_ldc dX4_swap_33 rfl rfl ?_
      refine F_iret dX4_swap_35 rfl ?_
      exact hQ
    · refine F_iload_n dX4_swap_18 rfl ?_
      refine F_cS1i (v_bIsDay (d := 10) _) dX4_swap_19 rfl rfl rfl (by decide) (Nat.le_of_ble_eq_true rfl) (by omega) ?_
      refine F_if_eqB (tgt := 33) dX4_swap_22 rfl (fun c22 => ?_) (fun c22 => ?_)
      · refine F_ldc dX4_swap_33 rfl rfl ?_
        refine F_iret dX4_swap_35 rfl ?_
        exact hQ
      · refine F_iload dX4_swap_25 rfl ?_
        refine F_cS1i (v_bIsDay (d := 10) _) dX4_swap_27 rfl rfl rfl (by decide) (Nat.le_of_ble_eq_true rfl) (by omega) ?_
        refine F_if_neB (tgt := 36) dX4_swap_30 rfl (fun c30 => ?_) (fun c30 => ?_)
        · exfalso
          have c8 : grB (σ 4 0) g = true := c8
          rw [hn] at c8
          rw [c8, c15, c22, c30] at h
          cases h
        · refine F_ldc dX4_swap_33 rfl rfl ?_
          refine F_iret dX4_swap_35 rfl ?_
          exact hQ

theorem m_swapA (hq : QR σ n c) {g e a b : Int32} (h : (grB (nI n) g && dB e && dB a && dB b) = false) : Ask G mX5_swap [.ref 116, .int g, .int e, .int a, .int b] (-1000000000) σ := by
  have hn := hq.1.2.1
  have h23 := hq.1.1.2.2.1
  have hn6 := hq.1.1.1
  have hq1 := (Fr.thrown hq (nI 0)).qr hq
  refine ⟨(up σ 116 0 (nI 0)), mV_of fun Q hQ => ?_, Fr.thrown hq _⟩
  refine F_aload_n dX5_swap_0 rfl ?_
  refine F_iconst (v := nI 0) dX5_swap_1 rfl ?_
  refine F_put dX5_swap_2 rfl rfl (by first | assumption | rfl) rfl rfl rfl rfl ?_
  refine F_aload_n dX5_swap_5 rfl ?_
  refine F_iload_n dX5_swap_6 rfl ?_
  refine F_iload_n dX5_swap_7 rfl ?_
  refine F_cV2i (v_isOne (d := 5) _ _ (n := n) h23 (by omega)) dX5_swap_8 rfl rfl (by decide) (by first | assumption | rfl) rfl rfl rfl (by decide) (Nat.le_of_ble_eq_true rfl) (by omega) ?_
  refine F_if_eqB (tgt := 29) dX5_swap_11 rfl (fun c11 => ?_) (fun c11 => ?_)
  · refine F_ldc dX5_swap_29 rfl rfl ?_
    refine F_iret dX5_swap_31 rfl ?_
    exact hQ
  · refine F_iload_n dX5_swap_14 rfl ?_
    refine F_cS1i (v_isDay (d := 5) _) dX5_swap_15 rfl rfl rfl (by decide) (Nat.le_of_ble_eq_true rfl) (by omega) ?_
    refine F_if_eqB (tgt := 29) dX5_swap_18 rfl (fun c18 => ?_) (fun c18 => ?_)
    · refine F_ldc dX5_swap_29 rfl rfl ?_
      refine F_iret dX5_swap_31 rfl ?_
      exact hQ
    · refine F_iload dX5_swap_21 rfl ?_
      refine F_cS1i (v_isDay (d := 5) _) dX5_swap_23 rfl rfl rfl (by decide) (Nat.le_of_ble_eq_true rfl) (by omega) ?_
      refine F_if_neB (tgt := 32) dX5_swap_26 rfl (fun c26 => ?_) (fun c26 => ?_)
      · exfalso
        rw [show (up σ 116 0 (nI 0)) 117 23 = nI n from h23] at c11
        rw [c11, c18, c26] at h
        cases h
      · refine F_ldc dX5_swap_29 rfl rfl ?_
        refine F_iret dX5_swap_31 rfl ?_
        exact hQ

theorem b_swapB (hq : QR σ n c) {g e a b : Nat} (hg : g < n) (he : e < 70) (ha : a < 70) (hb : b < 70) : Ask G mX4_swap [.ref 3, .int (nI g), .int (nI e), .int (nI a), .int (nI b)] (sForm (pQ (plR (σ 117) g (upd (upd (fun k => σ 117 (40 + 70 * g + k)) a ((fun k => σ 117 (40 + 70 * g + k)) b)) b ((fun k => σ 117 (40 + 70 * g + k)) a))) g c (-1)) e - sForm (pQ (σ 117) g c (-1)) e) σ := by
  have hn := hq.1.2.1
  have h23 := hq.1.1.2.2.1
  have hn6 := hq.1.1.1
  obtain ⟨τ, hv, hL, hC, far⟩ := b_asTold (G := G) hq hg he
  have hqt := (q_frB (n := n) (c := c) (Or.inl rfl) hC far).qr hq
  have hk0 := hq.1.1.row hg
  have hL0 := hL
  rw [← plR_self (σ 117) g] at hL0
  have hp1 := hL0.put (a := a) (v := σ 117 (40 + 70 * g + b)) (m := 0) hq.1.1 hg hk0 ha (by omega) (by omega)
  have hk1 : okR (upd (fun k => σ 117 (40 + 70 * g + k)) a ((fun k => σ 117 (40 + 70 * g + k)) b)) := hk0.up1 (hk0 b hb)
  have hp2 := hp1.put (a := b) (v := σ 117 (40 + 70 * g + a)) (m := 0) hq.1.1 hg hk1 hb (by omega) (by omega)
  have hk2 : okR (upd (upd (fun k => σ 117 (40 + 70 * g + k)) a ((fun k => σ 117 (40 + 70 * g + k)) b)) b ((fun k => σ 117 (40 + 70 * g + k)) a)) := hk1.up1 (hk0 a ha)
  obtain ⟨τ3, hv3, hL3, far3⟩ := q_live (G := G) (d := 7) (N := e + 1) (y := nI e) (hq.1.1.pl hg hk2) hg hp2 (by omega) (by omega) (pred_s _ he)
  have f3 : ∀ b, b < 29 ∨ 39 < b → τ3 b = τ b := fun z hz => by rw [far3 z (by omega), up_n _ _ _ (by omega), up_n _ _ _ (by omega)]
  have f33 : τ3 33 = τ 33 := by rw [far3 33 (by omega), up_n _ _ _ (by omega), up_n _ _ _ (by omega)]
  refine ⟨τ3, mV_of fun Q hQ => ?_, (q_frB (n := n) (c := c) (Or.inl rfl) hC far).trans (q_frL hC hL3 f3 f33)⟩
  refine F_aload_n dX4_swap_0 rfl ?_
  refine F_getr dX4_swap_1 rfl rfl (by first | assumption | rfl) rfl ?_
  refine F_iload_n dX4_swap_4 rfl ?_
  refine F_cV1i (v_hasGroup (d := 10) isTold_4 _) dX4_swap_5 rfl rfl (by decide) (by first | assumption | rfl) rfl rfl rfl (by decide) (Nat.le_of_ble_eq_true rfl) (by omega) ?_
  refine F_if_eqB (tgt := 33) dX4_swap_8 rfl (fun c8 => ?_) (fun c8 => ?_)
  · have c8 : grB (σ 4 0) (nI g) = false := c8
    rw [hn, grB_nI hg (by omega)] at c8
    cases c8
  · refine F_iload_n dX4_swap_11 rfl ?_
    refine F_cS1i (v_bIsDay (d := 10) _) dX4_swap_12 rfl rfl rfl (by decide) (Nat.le_of_ble_eq_true rfl) (by omega) ?_
    refine F_if_eqB (tgt := 33) dX4_swap_15 rfl (fun c15 => ?_) (fun c15 => ?_)
    · rw [dB_nI he] at c15
      cases c15
    · refine F_iload_n dX4_swap_18 rfl ?_
      refine F_cS1i (v_bIsDay (d := 10) _) dX4_swap_19 rfl rfl rfl (by decide) (Nat.le_of_ble_eq_true rfl) (by omega) ?_
      refine F_if_eqB (tgt := 33) dX4_swap_22 rfl (fun c22 => ?_) (fun c22 => ?_)
      · rw [dB_nI ha] at c22
        cases c22
      · refine F_iload dX4_swap_25 rfl ?_
        refine F_cS1i (v_bIsDay (d := 10) _) dX4_swap_27 rfl rfl rfl (by decide) (Nat.le_of_ble_eq_true rfl) (by omega) ?_
        refine F_if_neB (tgt := 36) dX4_swap_30 rfl (fun c30 => ?_) (fun c30 => ?_)
        · refine F_aload_n dX4_swap_36 rfl ?_
          refine F_iload_n dX4_swap_37 rfl ?_
          refine F_iload_n dX4_swap_38 rfl ?_
          refine F_cV2i (hv) dX4_swap_39 rfl rfl (by decide) (by first | assumption | rfl) rfl rfl rfl (by decide) (Nat.le_of_ble_eq_true rfl) (by omega) ?_
          refine F_istore dX4_swap_42 (Nat.le_of_ble_eq_true rfl) ?_
          refine F_aload_n dX4_swap_44 rfl ?_
          refine F_getr dX4_swap_45 rfl rfl (by first | assumption | rfl) rfl ?_
          refine F_getr dX4_swap_48 rfl rfl (by first | assumption | rfl) rfl ?_
          refine F_iload_n dX4_swap_51 rfl ?_
          refine F_ialdE (v := σ 117 (40 + 70 * g + a)) dX4_swap_52 (by first | assumption | rfl) (by decide) (by omega) (hL.2.1 a ha) ?_
          refine F_istore dX4_swap_53 (Nat.le_of_ble_eq_true rfl) ?_
          refine F_aload_n dX4_swap_55 rfl ?_
          refine F_getr dX4_swap_56 rfl rfl (by first | assumption | rfl) rfl ?_
          refine F_getr dX4_swap_59 rfl rfl (by first | assumption | rfl) rfl ?_
          refine F_iload_n dX4_swap_62 rfl ?_
          refine F_aload_n dX4_swap_63 rfl ?_
          refine F_getr dX4_swap_64 rfl rfl (by first | assumption | rfl) rfl ?_
          refine F_getr dX4_swap_67 rfl rfl (by first | assumption | rfl) rfl ?_
          refine F_iload dX4_swap_70 rfl ?_
          refine F_ialdE (v := σ 117 (40 + 70 * g + b)) dX4_swap_72 (by first | assumption | rfl) (by decide) (by omega) (hL.2.1 b hb) ?_
          refine F_iast dX4_swap_73 (by first | assumption | rfl) (by decide) (by omega) ?_
          refine F_aload_n dX4_swap_74 rfl ?_
          refine F_getr dX4_swap_75 rfl rfl (by first | assumption | rfl) rfl ?_
          refine F_getr dX4_swap_78 rfl rfl (by first | assumption | rfl) rfl ?_
          refine F_iload dX4_swap_81 rfl ?_
          refine F_iload dX4_swap_83 rfl ?_
          refine F_iast dX4_swap_85 (by first | assumption | rfl) (by decide) (by omega) ?_
          refine F_aload_n dX4_swap_86 rfl ?_
          refine F_getr dX4_swap_87 rfl rfl (by first | assumption | rfl) rfl ?_
          refine F_iconst (v := nI 0) dX4_swap_90 rfl ?_
          refine F_iload_n dX4_swap_91 rfl ?_
          refine F_cV2v (hv3) dX4_swap_92 rfl rfl (by decide) (by first | assumption | rfl) rfl rfl rfl (by decide) (Nat.le_of_ble_eq_true rfl) (by omega) ?_
          refine F_aload_n dX4_swap_95 rfl ?_
          refine F_getr dX4_swap_96 rfl rfl (by first | assumption | rfl) rfl ?_
          refine F_iload_n dX4_swap_99 rfl ?_
          refine F_cV1i (q_formOf (d := 5) isCourse_29 hL3 (Nat.lt_succ_self e) (by omega)) dX4_swap_100 rfl rfl (by decide) (by first | assumption | rfl) rfl rfl rfl (by decide) (Nat.le_of_ble_eq_true rfl) (by omega) ?_
          refine F_iload dX4_swap_103 rfl ?_
          refine F_isub dX4_swap_105 ?_
          refine F_iret dX4_swap_106 rfl ?_
          exact hQ
        · rw [dB_nI hb] at c30
          cases c30

theorem m_swapB (hq : QR σ n c) {g e a b : Nat} (hg : g < n) (he : e < 70) (ha : a < 70) (hb : b < 70) : Ask G mX5_swap [.ref 116, .int (nI g), .int (nI e), .int (nI a), .int (nI b)] (sForm (pQ (plR (σ 117) g (upd (upd (fun k => σ 117 (40 + 70 * g + k)) a ((fun k => σ 117 (40 + 70 * g + k)) b)) b ((fun k => σ 117 (40 + 70 * g + k)) a))) g c (-1)) e - sForm (pQ (σ 117) g c (-1)) e) σ := by
  have hn := hq.1.2.1
  have h23 := hq.1.1.2.2.1
  have hn6 := hq.1.1.1
  have hq1 := (Fr.thrown hq (nI 0)).qr hq
  obtain ⟨τ, hv, hG, h7, hf⟩ := q_formR (G := G) (d := 5) (to := e) hq1 hg (by omega)
  have h7a : τ 117 = σ 117 := h7
  have hqt := hf.qr hq1
  have hk0 := hq.1.1.row hg
  have hk1 : okR (upd (fun k => σ 117 (40 + 70 * g + k)) a ((fun k => σ 117 (40 + 70 * g + k)) b)) := hk0.up1 (hk0 b hb)
  have hk2 : okR (upd (upd (fun k => σ 117 (40 + 70 * g + k)) a ((fun k => σ 117 (40 + 70 * g + k)) b)) b ((fun k => σ 117 (40 + 70 * g + k)) a)) := hk1.up1 (hk0 a ha)
  have hw : ∀ k, k < 70 → (va_cpy (τ 117) (τ 130) (40 + 70 * g) 0 70) k = σ 117 (40 + 70 * g + k) := fun k hk => by
    simp only [va_cpy]
    rw [if_pos (by omega), h7a]; congr 1
  have e7 : upd (upd (τ 117) (40 + 70 * g + a) (σ 117 (40 + 70 * g + b))) (40 + 70 * g + b) (σ 117 (40 + 70 * g + a)) = (plR (σ 117) g (upd (upd (fun k => σ 117 (40 + 70 * g + k)) a ((fun k => σ 117 (40 + 70 * g + k)) b)) b ((fun k => σ 117 (40 + 70 * g + k)) a))) := by
    rw [h7a]
    have e := plR_self (σ 117) g
    have e1 := plR_upd (σ 117) g (fun k => σ 117 (40 + 70 * g + k)) ((fun k => σ 117 (40 + 70 * g + k)) b) ha
    rw [e] at e1
    rw [e1, plR_upd _ _ _ _ hb]
  have hb7 : okB (upd (upd (τ 117) (40 + 70 * g + a) (σ 117 (40 + 70 * g + b))) (40 + 70 * g + b) (σ 117 (40 + 70 * g + a))) n c := by rw [e7]; exact hq.1.1.pl hg hk2
  obtain ⟨τ2, hv2, hG2, far2⟩ := q_form (G := G) (d := 5) (σ := up (up (upR τ 130 (va_cpy (τ 117) (τ 130) (40 + 70 * g) 0 70)) 117 (40 + 70 * g + a) (σ 117 (40 + 70 * g + b))) 117 (40 + 70 * g + b) (σ 117 (40 + 70 * g + a))) (n := n) (c := c) (g := g) (to := e) hb7 hqt.2.2.1 hqt.2.2.2.1 hg he
  have hv2 : mV G mX5_formOf 8 [.ref 116, .int (nI g), .int (nI e)] (up (up (upR τ 130 (va_cpy (τ 117) (τ 130) (40 + 70 * g) 0 70)) 117 (40 + 70 * g + a) (σ 117 (40 + 70 * g + b))) 117 (40 + 70 * g + b) (σ 117 (40 + 70 * g + a))) (some (.int (sForm (pQ (plR (σ 117) g (upd (upd (fun k => σ 117 (40 + 70 * g + k)) a ((fun k => σ 117 (40 + 70 * g + k)) b)) b ((fun k => σ 117 (40 + 70 * g + k)) a))) g c (-1)) e))) τ2 := by
    have e23 : τ 116 23 = -1 := hqt.2.1
    rw [← e7, ← e23]; exact hv2
  have e17 : τ2 117 = (plR (σ 117) g (upd (upd (fun k => σ 117 (40 + 70 * g + k)) a ((fun k => σ 117 (40 + 70 * g + k)) b)) b ((fun k => σ 117 (40 + 70 * g + k)) a))) := (far2 117 (by omega)).trans e7
  have e130 : τ2 130 = (va_cpy (τ 117) (τ 130) (40 + 70 * g) 0 70) := far2 130 (by omega)
  have e116 : τ2 116 = τ 116 := far2 116 (by omega)
  have eb : plR (τ2 117) g (τ2 130) = τ 117 := by
    rw [e17, e130, h7a]
    exact plR_back (σ 117) g _ _ (fun k hk => by have := hw k hk; rw [h7a] at this; exact this)
  have hfz : Fr τ (upR τ2 117 (plR (τ2 117) g (τ2 130))) := q_frX hqt.2 (fun z hz h6 => by
      by_cases e : z = 117
      · subst e; rw [upR_s]; exact eb
      · rw [upR_n _ _ e, far2 z (by omega), up_n _ _ _ e, up_n _ _ _ e, upR_n _ _ (by omega)]) (by show τ2 116 4 = _; rw [e116]) (by show τ2 116 6 = _; rw [e116]) (by show τ2 116 7 = _; rw [e116]) (by show τ2 116 23 = _; rw [e116]; exact hqt.2.1) (by show τ2 116 24 = _; rw [e116]; exact hqt.2.2.1) (hG2.1 0 (by omega))
  refine ⟨(upR τ2 117 (plR (τ2 117) g (τ2 130))), mV_of fun Q hQ => ?_, ((Fr.thrown hq (nI 0)).trans hf).trans hfz⟩
  refine F_aload_n dX5_swap_0 rfl ?_
  refine F_iconst (v := nI 0) dX5_swap_1 rfl ?_
  refine F_put dX5_swap_2 rfl rfl (by first | assumption | rfl) rfl rfl rfl rfl ?_
  refine F_aload_n dX5_swap_5 rfl ?_
  refine F_iload_n dX5_swap_6 rfl ?_
  refine F_iload_n dX5_swap_7 rfl ?_
  refine F_cV2i (v_isOne (d := 5) _ _ (n := n) h23 (by omega)) dX5_swap_8 rfl rfl (by decide) (by first | assumption | rfl) rfl rfl rfl (by decide) (Nat.le_of_ble_eq_true rfl) (by omega) ?_
  refine F_if_eqB (tgt := 29) dX5_swap_11 rfl (fun c11 => ?_) (fun c11 => ?_)
  · rw [show (up σ 116 0 (nI 0)) 117 23 = nI n from h23, grB_nI hg (by omega), dB_nI he] at c11
    cases c11
  · refine F_iload_n dX5_swap_14 rfl ?_
    refine F_cS1i (v_isDay (d := 5) _) dX5_swap_15 rfl rfl rfl (by decide) (Nat.le_of_ble_eq_true rfl) (by omega) ?_
    refine F_if_eqB (tgt := 29) dX5_swap_18 rfl (fun c18 => ?_) (fun c18 => ?_)
    · rw [dB_nI ha] at c18
      cases c18
    · refine F_iload dX5_swap_21 rfl ?_
      refine F_cS1i (v_isDay (d := 5) _) dX5_swap_23 rfl rfl rfl (by decide) (Nat.le_of_ble_eq_true rfl) (by omega) ?_
      refine F_if_neB (tgt := 32) dX5_swap_26 rfl (fun c26 => ?_) (fun c26 => ?_)
      · refine F_aload_n dX5_swap_32 rfl ?_
        refine F_iload_n dX5_swap_33 rfl ?_
        refine F_iload_n dX5_swap_34 rfl ?_
        refine F_cV2i (hv) dX5_swap_35 rfl rfl (by decide) (by first | assumption | rfl) rfl rfl rfl (by decide) (Nat.le_of_ble_eq_true rfl) (by omega) ?_
        refine F_istore dX5_swap_38 (Nat.le_of_ble_eq_true rfl) ?_
        refine F_aload_n dX5_swap_40 rfl ?_
        refine F_iload_n dX5_swap_41 rfl ?_
        refine F_cV1v (v_remembers (d := 5) (by omega)) dX5_swap_42 rfl rfl (by decide) (by first | assumption | rfl) rfl rfl rfl (by decide) (Nat.le_of_ble_eq_true rfl) (by omega) ?_
        refine F_aload_n dX5_swap_45 rfl ?_
        refine F_getr dX5_swap_46 rfl rfl (by first | assumption | rfl) rfl ?_
        refine F_bipush (v := nI 40) dX5_swap_49 rfl ?_
        refine F_bipush (v := nI 70) dX5_swap_51 rfl ?_
        refine F_iload_n dX5_swap_53 rfl ?_
        refine F_imulN dX5_swap_54 ?_
        refine F_iaddN dX5_swap_55 ?_
        refine F_iload_n dX5_swap_56 rfl ?_
        refine F_iaddN dX5_swap_57 ?_
        refine F_aload_n dX5_swap_58 rfl ?_
        refine F_getr dX5_swap_59 rfl rfl (by first | assumption | rfl) rfl ?_
        refine F_iload dX5_swap_62 rfl ?_
        refine F_ialdE (v := σ 117 (40 + 70 * g + b)) dX5_swap_64 (by first | assumption | rfl) (by decide) (by omega) (hw b hb) ?_
        refine F_iast dX5_swap_65 (by first | assumption | rfl) (by decide) (by omega) ?_
        refine F_aload_n dX5_swap_66 rfl ?_
        refine F_getr dX5_swap_67 rfl rfl (by first | assumption | rfl) rfl ?_
        refine F_bipush (v := nI 40) dX5_swap_70 rfl ?_
        refine F_bipush (v := nI 70) dX5_swap_72 rfl ?_
        refine F_iload_n dX5_swap_74 rfl ?_
        refine F_imulN dX5_swap_75 ?_
        refine F_iaddN dX5_swap_76 ?_
        refine F_iload dX5_swap_77 rfl ?_
        refine F_iaddN dX5_swap_79 ?_
        refine F_aload_n dX5_swap_80 rfl ?_
        refine F_getr dX5_swap_81 rfl rfl (by first | assumption | rfl) rfl ?_
        refine F_iload_n dX5_swap_84 rfl ?_
        refine F_ialdE (v := σ 117 (40 + 70 * g + a)) dX5_swap_85 (by first | assumption | rfl) (by decide) (by omega) (hw a ha) ?_
        refine F_iast dX5_swap_86 (by first | assumption | rfl) (by decide) (by omega) ?_
        refine F_aload_n dX5_swap_87 rfl ?_
        refine F_iload_n dX5_swap_88 rfl ?_
        refine F_iload_n dX5_swap_89 rfl ?_
        refine F_cV2i (hv2) dX5_swap_90 rfl rfl (by decide) (by first | assumption | rfl) rfl rfl rfl (by decide) (Nat.le_of_ble_eq_true rfl) (by omega) ?_
        refine F_istore dX5_swap_93 (Nat.le_of_ble_eq_true rfl) ?_
        refine F_aload_n dX5_swap_95 rfl ?_
        refine F_iload_n dX5_swap_96 rfl ?_
        refine F_cV1v (v_comesBack (d := 5) (by omega)) dX5_swap_97 rfl rfl (by decide) (by first | assumption | rfl) rfl rfl rfl (by decide) (Nat.le_of_ble_eq_true rfl) (by omega) ?_
        refine F_iload dX5_swap_100 rfl ?_
        refine F_iload dX5_swap_102 rfl ?_
        refine F_isub dX5_swap_104 ?_
        refine F_iret dX5_swap_105 rfl ?_
        exact hQ
      · rw [dB_nI hb] at c26
        cases c26

theorem op_swap (h : Rel σ) (g e a b : Int32) : Same G mX4_swap mX5_swap [.int g, .int e, .int a, .int b] σ := by
  refine Same.of h fun n c hq => ?_
  by_cases hA : (grB (nI n) g && dB e && dB a && dB b) = true
  · have hx := Bool.and_eq_true_iff.mp hA
    have hy := Bool.and_eq_true_iff.mp hx.1
    obtain ⟨i, j, hi, hj, e1, e2⟩ := gd_n hy.1 hq.1.1.1
    obtain ⟨l, hl, e3⟩ := dB_n hy.2
    obtain ⟨m, hm, e4⟩ := dB_n hx.2
    subst e1; subst e2; subst e3; subst e4
    exact ⟨_, b_swapB hq hi hj hl hm, fun σ2 h7 hq2 => by rw [← h7]; exact m_swapB hq2 hi hj hl hm⟩
  · have hA := Bool.not_eq_true _ ▸ hA
    exact ⟨_, b_swapA hq hA, fun σ2 h7 hq2 => m_swapA hq2 hA⟩
/-- at rest on the m days ahead of day e -/
def rsK (K : Nat → Int32) (e : Nat) : Nat → Nat → Int32
  | 0 => K
  | m + 1 => upd (rsK K e m) (e - (m + 1)) (nI 0)
theorem rsK_ok {K : Nat → Int32} (h : okR K) (e : Nat) : ∀ m, okR (rsK K e m) := by
  intro m
  induction m with
  | zero => exact h
  | succ m ih => exact ih.up1 ⟨0, by omega, rfl⟩
def tpF (f : Nat → Int32) (g c e m : Nat) : Int32 := sForm (pQ (plR f g (rsK (fun k => f (40 + 70 * g + k)) e m)) g c (-1)) e
theorem tpF_0 (f : Nat → Int32) (g c e : Nat) : tpF f g c e 0 = sForm (pQ f g c (-1)) e := by
  unfold tpF
  simp only [rsK]
  rw [plR_self]
theorem min14 {e : Nat} (h : e < 70) : (if nI e < nI 14 then nI e else nI 14) = nI (min 14 e) := by
  by_cases h1 : e < 14
  · rw [if_pos ((nI_lt_iff (by omega) (by omega)).mpr h1), show min 14 e = e by omega]
  · rw [if_neg (fun z => h1 ((nI_lt_iff (by omega) (by omega)).mp z)), show min 14 e = 14 by omega]
theorem b_taperA (hq : QR σ n c) {g e : Int32} (h : (grB (nI n) g && dB e) = false) : Ask G mX4_taper [.ref 3, .int g, .int e] (-1) σ := by
  have hn := hq.1.2.1
  have h23 := hq.1.1.2.2.1
  have hn6 := hq.1.1.1
  refine ⟨σ, mV_of fun Q hQ => ?_, Fr.rfl hq⟩
  refine F_aload_n dX4_taper_0 rfl ?_
  refine F_getr dX4_taper_1 rfl rfl (by first | assumption | rfl) rfl ?_
  refine F_iload_n dX4_taper_4 rfl ?_
  refine F_cV1i (v_hasGroup (d := 10) isTold_4 _) dX4_taper_5 rfl rfl (by decide) (by first | assumption | rfl) rfl rfl rfl (by decide) (Nat.le_of_ble_eq_true rfl) (by omega) ?_
  refine F_if_eqB (tgt := 18) dX4_taper_8 rfl (fun c8 => ?_) (fun c8 => ?_)
  · refine F_iconst (v := (-1)) dX4_taper_18 rfl ?_
    refine F_iret dX4_taper_19 rfl ?_
    exact hQ
  · refine F_iload_n dX4_taper_11 rfl ?_
    refine F_cS1i (v_bIsDay (d := 10) _) dX4_taper_12 rfl rfl rfl (by decide) (Nat.le_of_ble_eq_true rfl) (by omega) ?_
    refine F_if_neB (tgt := 20) dX4_taper_15 rfl (fun c15 => ?_) (fun c15 => ?_)
    · exfalso
      have c8 : grB (σ 4 0) g = true := c8
      rw [hn] at c8
      rw [c8, c15] at h
      cases h
    · refine F_iconst (v := (-1)) dX4_taper_18 rfl ?_
      refine F_iret dX4_taper_19 rfl ?_
      exact hQ

theorem m_taperA (hq : QR σ n c) {g e : Int32} (h : (grB (nI n) g && dB e) = false) : Ask G mX5_taper [.ref 116, .int g, .int e] (-1) σ := by
  have hn := hq.1.2.1
  have h23 := hq.1.1.2.2.1
  have hn6 := hq.1.1.1
  have hq1 := (Fr.thrown hq (nI 0)).qr hq
  refine ⟨(up σ 116 0 (nI 0)), mV_of fun Q hQ => ?_, Fr.thrown hq _⟩
  refine F_aload_n dX5_taper_0 rfl ?_
  refine F_iconst (v := nI 0) dX5_taper_1 rfl ?_
  refine F_put dX5_taper_2 rfl rfl (by first | assumption | rfl) rfl rfl rfl rfl ?_
  refine F_aload_n dX5_taper_5 rfl ?_
  refine F_iload_n dX5_taper_6 rfl ?_
  refine F_iload_n dX5_taper_7 rfl ?_
  refine F_cV2i (v_isOne (d := 5) _ _ (n := n) h23 (by omega)) dX5_taper_8 rfl rfl (by decide) (by first | assumption | rfl) rfl rfl rfl (by decide) (Nat.le_of_ble_eq_true rfl) (by omega) ?_
  refine F_if_neB (tgt := 16) dX5_taper_11 rfl (fun c11 => ?_) (fun c11 => ?_)
  · rw [show (up σ 116 0 (nI 0)) 117 23 = nI n from h23, h] at c11
    cases c11
  · refine F_iconst (v := (-1)) dX5_taper_14 rfl ?_
    refine F_iret dX5_taper_15 rfl ?_
    exact hQ

theorem l_btaper (hq : QR σ n c) {g e : Nat} (hg : g < n) (he : e < 70) : ∀ q m τ, m + q = min 14 e → Fw τ 29 (plR (σ 117) g (rsK (fun k => σ 117 (40 + 70 * g + k)) e m)) g c (-1) (e + 1) → RC τ → ∃ υ, Fr τ υ ∧ ∀ Q : Option Value → mS → Prop, Q (some (.int (nI (pkN (tpF (σ 117) g c e) 0 (min 14 e + 1))))) υ → mF G mX4_taper 12 57 [some (.ref 3), some (.int (nI g)), some (.int (nI e)), some (.int (nI (pkN (tpF (σ 117) g c e) 0 (m + 1)))), some (.int (tpF (σ 117) g c e (pkN (tpF (σ 117) g c e) 0 (m + 1)))), some (.int (nI (min 14 e))), some (.int (nI (m + 1)))] [] τ Q := by
  intro q
  induction q with
  | zero =>
    intro m τ hm hL hC
    refine ⟨τ, ⟨fun a ha => rfl, rfl, rfl, rfl, hC⟩, fun Q hQ => ?_⟩
    have e1 : m = min 14 e := by omega
    have hle := pkN_le (tpF (σ 117) g c e) 0 (m + 1)
    refine F_iload dX4_taper_57 rfl ?_
    refine F_iload dX4_taper_59 rfl ?_
    refine F_icmp_gtN (tgt := 121) dX4_taper_61 rfl (by omega) (by omega) (fun c61 => ?_) (fun c61 => ?_)
    · refine F_iload_n dX4_taper_121 rfl ?_
      refine F_iret dX4_taper_122 rfl ?_
      rw [e1]
      exact hQ
    · exact absurd c61 (by omega)
  | succ q ih =>
    intro m τ hm hL hC
    have hk := rsK_ok (hq.1.1.row hg) e m
    have hle := pkN_le (tpF (σ 117) g c e) 0 (m + 1)
    have hp := hL.put (a := e - (m + 1)) (v := nI 0) (m := e - (m + 1)) hq.1.1 hg hk (by omega) (by omega) (by omega)
    obtain ⟨τ2, hv2, hL2, far2⟩ := q_live (G := G) (d := 7) (N := e + 1) (y := nI e) (hq.1.1.pl hg (rsK_ok (hq.1.1.row hg) e (m + 1))) hg hp (by omega) (by omega) (pred_s _ he)
    have f2 : ∀ b, b < 29 ∨ 39 < b → τ2 b = τ b := fun z hz => by rw [far2 z (by omega), up_n _ _ _ (by omega)]
    have hf2 : Fr τ τ2 := q_frL hC hL2 f2 (by rw [far2 33 (by omega), up_n _ _ _ (by omega)])
    obtain ⟨υ, hf3, h3⟩ := ih (m + 1) τ2 (by omega) hL2 hf2.2.2.2.2
    refine ⟨υ, hf2.trans hf3, fun Q hQ => ?_⟩
    have h3 := h3 Q hQ
    have hfo : mV G mX0_formOf 5 [.ref 29, .int (nI e)] τ2 (some (.int (tpF (σ 117) g c e (m + 1)))) τ2 := q_formOf (G := G) (d := 5) isCourse_29 hL2 (Nat.lt_succ_self e) (by omega)
    have ek : pkN (tpF (σ 117) g c e) 0 (m + 2) = if tpF (σ 117) g c e (pkN (tpF (σ 117) g c e) 0 (m + 1)) < tpF (σ 117) g c e (0 + (m + 1)) then 0 + (m + 1) else (pkN (tpF (σ 117) g c e) 0 (m + 1)) := rfl
    rw [Nat.zero_add] at ek
    refine F_iload dX4_taper_57 rfl ?_
    refine F_iload dX4_taper_59 rfl ?_
    refine F_icmp_gtN (tgt := 121) dX4_taper_61 rfl (by omega) (by omega) (fun c61 => ?_) (fun c61 => ?_)
    · exact absurd c61 (by omega)
    · refine F_aload_n dX4_taper_64 rfl ?_
      refine F_getr dX4_taper_65 rfl rfl (by first | assumption | rfl) rfl ?_
      refine F_getr dX4_taper_68 rfl rfl (by first | assumption | rfl) rfl ?_
      refine F_iload_n dX4_taper_71 rfl ?_
      refine F_iload dX4_taper_72 rfl ?_
      refine F_isubN dX4_taper_74 (by omega) ?_
      refine F_iconst (v := nI 0) dX4_taper_75 rfl ?_
      refine F_iast dX4_taper_76 (by first | assumption | rfl) (by decide) (by omega) ?_
      refine F_aload_n dX4_taper_77 rfl ?_
      refine F_getr dX4_taper_78 rfl rfl (by first | assumption | rfl) rfl ?_
      refine F_iload_n dX4_taper_81 rfl ?_
      refine F_iload dX4_taper_82 rfl ?_
      refine F_isubN dX4_taper_84 (by omega) ?_
      refine F_iload_n dX4_taper_85 rfl ?_
      refine F_cV2v (hv2) dX4_taper_86 rfl rfl (by decide) (by first | assumption | rfl) rfl rfl rfl (by decide) (Nat.le_of_ble_eq_true rfl) (by omega) ?_
      refine F_aload_n dX4_taper_89 rfl ?_
      refine F_getr dX4_taper_90 rfl rfl (by first | assumption | rfl) rfl ?_
      refine F_iload_n dX4_taper_93 rfl ?_
      refine F_cV1i (hfo) dX4_taper_94 rfl rfl (by decide) (by first | assumption | rfl) rfl rfl rfl (by decide) (Nat.le_of_ble_eq_true rfl) (by omega) ?_
      refine F_iload dX4_taper_97 rfl ?_
      refine F_icmp_le (tgt := 115) dX4_taper_99 rfl (fun c99 => ?_) (fun c99 => ?_)
      · refine F_iincN dX4_taper_115 rfl ?_
        refine F_goto (tgt := 57) dX4_taper_118 rfl ?_
        first
          | (rw [if_pos (Int32.not_le.mp c99)] at ek
             rw [ek] at h3
             exact h3)
          | (rw [if_neg (Int32.not_lt.mpr c99)] at ek
             rw [ek] at h3
             exact h3)
      · refine F_aload_n dX4_taper_102 rfl ?_
        refine F_getr dX4_taper_103 rfl rfl (by first | assumption | rfl) rfl ?_
        refine F_iload_n dX4_taper_106 rfl ?_
        refine F_cV1i (hfo) dX4_taper_107 rfl rfl (by decide) (by first | assumption | rfl) rfl rfl rfl (by decide) (Nat.le_of_ble_eq_true rfl) (by omega) ?_
        refine F_istore dX4_taper_110 (Nat.le_of_ble_eq_true rfl) ?_
        refine F_iload dX4_taper_112 rfl ?_
        refine F_istore_n dX4_taper_114 (Nat.le_of_ble_eq_true rfl) ?_
        refine F_iincN dX4_taper_115 rfl ?_
        refine F_goto (tgt := 57) dX4_taper_118 rfl ?_
        first
          | (rw [if_pos (Int32.not_le.mp c99)] at ek
             rw [ek] at h3
             exact h3)
          | (rw [if_neg (Int32.not_lt.mpr c99)] at ek
             rw [ek] at h3
             exact h3)

theorem b_taperB (hq : QR σ n c) {g e : Nat} (hg : g < n) (he : e < 70) : Ask G mX4_taper [.ref 3, .int (nI g), .int (nI e)] (nI (pkN (tpF (σ 117) g c e) 0 (min 14 e + 1))) σ := by
  have hn := hq.1.2.1
  have h23 := hq.1.1.2.2.1
  have hn6 := hq.1.1.1
  obtain ⟨τ, hv, hL, hC, far⟩ := q_follow (G := G) (d := 7) (a := 29) (N := e + 1) (Or.inl rfl) hq hg (by omega) (-1) (pred_s _ (by omega))
  have hL0 := hL
  rw [← plR_self (σ 117) g] at hL0
  obtain ⟨υ, hf3, h3⟩ := l_btaper (G := G) hq hg he (min 14 e) 0 τ (by omega) hL0 hC
  refine ⟨υ, mV_of fun Q hQ => ?_, (q_frB (n := n) (c := c) (Or.inl rfl) hC far).trans hf3⟩
  refine F_aload_n dX4_taper_0 rfl ?_
  refine F_getr dX4_taper_1 rfl rfl (by first | assumption | rfl) rfl ?_
  refine F_iload_n dX4_taper_4 rfl ?_
  refine F_cV1i (v_hasGroup (d := 10) isTold_4 _) dX4_taper_5 rfl rfl (by decide) (by first | assumption | rfl) rfl rfl rfl (by decide) (Nat.le_of_ble_eq_true rfl) (by omega) ?_
  refine F_if_eqB (tgt := 18) dX4_taper_8 rfl (fun c8 => ?_) (fun c8 => ?_)
  · have c8 : grB (σ 4 0) (nI g) = false := c8
    rw [hn, grB_nI hg (by omega)] at c8
    cases c8
  · refine F_iload_n dX4_taper_11 rfl ?_
    refine F_cS1i (v_bIsDay (d := 10) _) dX4_taper_12 rfl rfl rfl (by decide) (Nat.le_of_ble_eq_true rfl) (by omega) ?_
    refine F_if_neB (tgt := 20) dX4_taper_15 rfl (fun c15 => ?_) (fun c15 => ?_)
    · refine F_aload_n dX4_taper_20 rfl ?_
      refine F_getr dX4_taper_21 rfl rfl (by first | assumption | rfl) rfl ?_
      refine F_aload_n dX4_taper_24 rfl ?_
      refine F_getr dX4_taper_25 rfl rfl (by first | assumption | rfl) rfl ?_
      refine F_iload_n dX4_taper_28 rfl ?_
      refine F_iconst (v := (-1)) dX4_taper_29 rfl ?_
      refine F_iload_n dX4_taper_30 rfl ?_
      refine F_cV_riii_v (hv) dX4_taper_31 rfl rfl (by decide) (by first | assumption | rfl) rfl rfl rfl (by decide) (Nat.le_of_ble_eq_true rfl) (by omega) ?_
      refine F_iconst (v := nI 0) dX4_taper_34 rfl ?_
      refine F_istore_n dX4_taper_35 (Nat.le_of_ble_eq_true rfl) ?_
      refine F_aload_n dX4_taper_36 rfl ?_
      refine F_getr dX4_taper_37 rfl rfl (by first | assumption | rfl) rfl ?_
      refine F_iload_n dX4_taper_40 rfl ?_
      refine F_cV1i (q_formOf (d := 5) isCourse_29 hL (Nat.lt_succ_self e) (by omega)) dX4_taper_41 rfl rfl (by decide) (by first | assumption | rfl) rfl rfl rfl (by decide) (Nat.le_of_ble_eq_true rfl) (by omega) ?_
      refine F_istore dX4_taper_44 (Nat.le_of_ble_eq_true rfl) ?_
      refine F_bipush (v := nI 14) dX4_taper_46 rfl ?_
      refine F_iload_n dX4_taper_48 rfl ?_
      refine F_min dX4_taper_49 rfl rfl (Nat.le_of_ble_eq_true rfl) ?_
      refine F_top (y := nI (min 14 e)) (min14 he) ?_
      refine F_istore dX4_taper_52 (Nat.le_of_ble_eq_true rfl) ?_
      refine F_iconst (v := nI 1) dX4_taper_54 rfl ?_
      refine F_istore dX4_taper_55 (Nat.le_of_ble_eq_true rfl) ?_
      have h3 := h3 Q hQ
      rw [pkN_1, tpF_0] at h3
      exact h3
    · rw [dB_nI he] at c15
      cases c15

theorem l_mtaper (hb : okB (σ 117) n c) {g e : Nat} (hg : g < n) (he : e < 70) : ∀ q m τ l6, m + q = min 14 e → τ 117 = (plR (σ 117) g (rsK (fun k => σ 117 (40 + 70 * g + k)) e m)) → (∀ k, k < 70 → τ 130 k = σ 117 (40 + 70 * g + k)) → RC τ → ∃ υ, Fr (upR τ 117 (σ 117)) υ ∧ ∀ Q : Option Value → mS → Prop, Q (some (.int (nI (pkN (tpF (σ 117) g c e) 0 (min 14 e + 1))))) υ → mF G mX5_taper 12 34 [some (.ref 116), some (.int (nI g)), some (.int (nI e)), some (.int (nI (pkN (tpF (σ 117) g c e) 0 (m + 1)))), some (.int (tpF (σ 117) g c e (pkN (tpF (σ 117) g c e) 0 (m + 1)))), some (.int (nI (m + 1))), l6] [] τ Q := by
  intro q
  have hn6 := hb.1
  induction q with
  | zero =>
    intro m τ l6 hm h7 hw hC
    have e1 : m = min 14 e := by omega
    have hle := pkN_le (tpF (σ 117) g c e) 0 (m + 1)
    have eb : plR (τ 117) g (τ 130) = σ 117 := by rw [h7]; exact plR_back (σ 117) g _ _ hw
    refine ⟨upR τ 117 (plR (τ 117) g (τ 130)), ⟨fun a ha => by rw [eb], rfl, rfl, rfl, hC⟩, fun Q hQ => ?_⟩
    refine F_iload dX5_taper_34 rfl ?_
    refine F_bipush (v := nI 14) dX5_taper_36 rfl ?_
    refine F_icmp_gtN (tgt := 96) dX5_taper_38 rfl (by omega) (by omega) (fun c38 => ?_) (fun c38 => ?_)
    · refine F_aload_n dX5_taper_96 rfl ?_
      refine F_iload_n dX5_taper_97 rfl ?_
      refine F_cV1v (v_comesBack (d := 5) (by omega)) dX5_taper_98 rfl rfl (by decide) (by first | assumption | rfl) rfl rfl rfl (by decide) (Nat.le_of_ble_eq_true rfl) (by omega) ?_
      refine F_iload_n dX5_taper_101 rfl ?_
      refine F_iret dX5_taper_102 rfl ?_
      rw [e1]
      exact hQ
    · refine F_iload dX5_taper_41 rfl ?_
      refine F_iload_n dX5_taper_43 rfl ?_
      refine F_icmp_gtN (tgt := 96) dX5_taper_44 rfl (by omega) (by omega) (fun c44 => ?_) (fun c44 => ?_)
      · refine F_aload_n dX5_taper_96 rfl ?_
        refine F_iload_n dX5_taper_97 rfl ?_
        refine F_cV1v (v_comesBack (d := 5) (by omega)) dX5_taper_98 rfl rfl (by decide) (by first | assumption | rfl) rfl rfl rfl (by decide) (Nat.le_of_ble_eq_true rfl) (by omega) ?_
        refine F_iload_n dX5_taper_101 rfl ?_
        refine F_iret dX5_taper_102 rfl ?_
        rw [e1]
        exact hQ
      · exact absurd c44 (by omega)
  | succ q ih =>
    intro m τ l6 hm h7 hw hC
    have hk := rsK_ok (hb.row hg) e (m + 1)
    have hle := pkN_le (tpF (σ 117) g c e) 0 (m + 1)
    have e7 : upd (τ 117) (40 + 70 * g + e - (m + 1)) (nI 0) = (plR (σ 117) g (rsK (fun k => σ 117 (40 + 70 * g + k)) e (m + 1))) := by
      rw [h7, show 40 + 70 * g + e - (m + 1) = 40 + 70 * g + (e - (m + 1)) by omega]
      exact plR_upd _ _ _ _ (by omega)
    have hb7 : okB (upd (τ 117) (40 + 70 * g + e - (m + 1)) (nI 0)) n c := by rw [e7]; exact hb.pl hg hk
    obtain ⟨τ2, hv2, hG2, far2⟩ := q_form (G := G) (d := 5) (σ := up τ 117 (40 + 70 * g + e - (m + 1)) (nI 0)) (n := n) (c := c) (g := g) (to := e) hb7 hC.2.1 hC.2.2.1 hg he
    have hv2 : mV G mX5_formOf 8 [.ref 116, .int (nI g), .int (nI e)] (up τ 117 (40 + 70 * g + e - (m + 1)) (nI 0)) (some (.int (tpF (σ 117) g c e (m + 1)))) τ2 := by
      have e23 : τ 116 23 = -1 := hC.1
      unfold tpF
      rw [← e7, ← e23]; exact hv2
    have f2 : ∀ z, z < 124 ∨ 129 < z → z ≠ 117 → τ2 z = τ z := fun z hz h6 => by rw [far2 z hz, up_n _ _ _ h6]
    have hC2 : RC τ2 := by
      obtain ⟨c1, c2, c3, c4, c5⟩ := hC
      refine ⟨by rw [f2 116 (by omega) (by omega)]; exact c1, by rw [f2 116 (by omega) (by omega)]; exact c2, hG2.1 0 (by omega), ?_, ?_⟩
      · rw [f2 37 (by omega) (by omega), f2 38 (by omega) (by omega), f2 33 (by omega) (by omega)]; exact c4
      · rw [f2 48 (by omega) (by omega), f2 49 (by omega) (by omega), f2 44 (by omega) (by omega)]; exact c5
    obtain ⟨υ, hf3, h3⟩ := ih (m + 1) τ2 (some (.int (tpF (σ 117) g c e (m + 1)))) (by omega) ((far2 117 (by omega)).trans e7) (fun k hk => by rw [f2 130 (by omega) (by omega)]; exact hw k hk) hC2
    have hf4 : Fr (upR τ 117 (σ 117)) (upR τ2 117 (σ 117)) := q_frX hC (fun z hz h6 => by
      by_cases e : z = 117
      · subst e; rw [upR_s, upR_s]
      · rw [upR_n _ _ e, upR_n _ _ e, f2 z (by omega) e]) (by show τ2 116 4 = τ 116 4; rw [f2 116 (by omega) (by omega)]) (by show τ2 116 6 = τ 116 6; rw [f2 116 (by omega) (by omega)]) (by show τ2 116 7 = τ 116 7; rw [f2 116 (by omega) (by omega)]) hC2.1 hC2.2.1 hC2.2.2.1
    refine ⟨υ, hf4.trans hf3, fun Q hQ => ?_⟩
    have h3 := h3 Q hQ
    have ek : pkN (tpF (σ 117) g c e) 0 (m + 2) = if tpF (σ 117) g c e (pkN (tpF (σ 117) g c e) 0 (m + 1)) < tpF (σ 117) g c e (0 + (m + 1)) then 0 + (m + 1) else (pkN (tpF (σ 117) g c e) 0 (m + 1)) := rfl
    rw [Nat.zero_add] at ek
    refine F_iload dX5_taper_34 rfl ?_
    refine F_bipush (v := nI 14) dX5_taper_36 rfl ?_
    refine F_icmp_gtN (tgt := 96) dX5_taper_38 rfl (by omega) (by omega) (fun c38 => ?_) (fun c38 => ?_)
    · exact absurd c38 (by omega)
    · refine F_iload dX5_taper_41 rfl ?_
      refine F_iload_n dX5_taper_43 rfl ?_
      refine F_icmp_gtN (tgt := 96) dX5_taper_44 rfl (by omega) (by omega) (fun c44 => ?_) (fun c44 => ?_)
      · exact absurd c44 (by omega)
      · refine F_aload_n dX5_taper_47 rfl ?_
        refine F_getr dX5_taper_48 rfl rfl (by first | assumption | rfl) rfl ?_
        refine F_bipush (v := nI 40) dX5_taper_51 rfl ?_
        refine F_bipush (v := nI 70) dX5_taper_53 rfl ?_
        refine F_iload_n dX5_taper_55 rfl ?_
        refine F_imulN dX5_taper_56 ?_
        refine F_iaddN dX5_taper_57 ?_
        refine F_iload_n dX5_taper_58 rfl ?_
        refine F_iaddN dX5_taper_59 ?_
        refine F_iload dX5_taper_60 rfl ?_
        refine F_isubN dX5_taper_62 (by omega) ?_
        refine F_iconst (v := nI 0) dX5_taper_63 rfl ?_
        refine F_iast dX5_taper_64 (by first | assumption | rfl) (by decide) (by omega) ?_
        refine F_aload_n dX5_taper_65 rfl ?_
        refine F_iload_n dX5_taper_66 rfl ?_
        refine F_iload_n dX5_taper_67 rfl ?_
        refine F_cV2i (hv2) dX5_taper_68 rfl rfl (by decide) (by first | assumption | rfl) rfl rfl rfl (by decide) (Nat.le_of_ble_eq_true rfl) (by omega) ?_
        refine F_istore dX5_taper_71 (Nat.le_of_ble_eq_true rfl) ?_
        refine F_iload dX5_taper_73 rfl ?_
        refine F_iload dX5_taper_75 rfl ?_
        refine F_icmp_gt (tgt := 83) dX5_taper_77 rfl (fun c77 => ?_) (fun c77 => ?_)
        · refine F_iload dX5_taper_83 rfl ?_
          refine F_istore_n dX5_taper_85 (Nat.le_of_ble_eq_true rfl) ?_
          refine F_iload dX5_taper_86 rfl ?_
          refine F_istore dX5_taper_88 (Nat.le_of_ble_eq_true rfl) ?_
          refine F_iincN dX5_taper_90 rfl ?_
          refine F_goto (tgt := 34) dX5_taper_93 rfl ?_
          first
            | (rw [if_pos c77] at ek
               rw [ek] at h3
               exact h3)
            | (rw [if_neg c77] at ek
               rw [ek] at h3
               exact h3)
        · refine F_goto (tgt := 90) dX5_taper_80 rfl ?_
          refine F_iincN dX5_taper_90 rfl ?_
          refine F_goto (tgt := 34) dX5_taper_93 rfl ?_
          first
            | (rw [if_pos c77] at ek
               rw [ek] at h3
               exact h3)
            | (rw [if_neg c77] at ek
               rw [ek] at h3
               exact h3)

theorem m_taperB (hq : QR σ n c) {g e : Nat} (hg : g < n) (he : e < 70) : Ask G mX5_taper [.ref 116, .int (nI g), .int (nI e)] (nI (pkN (tpF (σ 117) g c e) 0 (min 14 e + 1))) σ := by
  have hn := hq.1.2.1
  have h23 := hq.1.1.2.2.1
  have hn6 := hq.1.1.1
  have hq1 := (Fr.thrown hq (nI 0)).qr hq
  have hqr : QR (upR (up σ 116 0 (nI 0)) 130 (va_cpy (σ 117) (σ 130) (40 + 70 * g) 0 70)) n c := hq1
  obtain ⟨τ9, hv9, hG9, far9⟩ := q_form (G := G) (d := 5) (σ := upR (up σ 116 0 (nI 0)) 130 (va_cpy (σ 117) (σ 130) (40 + 70 * g) 0 70)) (n := n) (c := c) (g := g) (to := e) hqr.1.1 hqr.2.2.1 hqr.2.2.2.1 hg he
  have hv9 : mV G mX5_formOf 8 [.ref 116, .int (nI g), .int (nI e)] (upR (up σ 116 0 (nI 0)) 130 (va_cpy (σ 117) (σ 130) (40 + 70 * g) 0 70)) (some (.int (sForm (pQ (σ 117) g c (-1)) e))) τ9 := by
    have e23 : σ 116 23 = -1 := hq.2.1
    rw [← e23]; exact hv9
  have hf9 : Fr σ τ9 := q_frX (τ1 := σ) hq.2 (fun z hz h6 => by rw [far9 z (by omega), upR_n _ _ (by omega), up_n _ _ _ h6]) (by rw [far9 116 (by omega)]; rfl) (by rw [far9 116 (by omega)]; rfl) (by rw [far9 116 (by omega)]; rfl) (by rw [far9 116 (by omega)]; exact hq.2.1) (by rw [far9 116 (by omega)]; exact hq.2.2.1) (hG9.1 0 (by omega))
  have h97 : τ9 117 = σ 117 := hf9.1 117 (by omega)
  have h9w : ∀ k, k < 70 → τ9 130 k = σ 117 (40 + 70 * g + k) := fun k hk => by
    rw [far9 130 (by omega)]
    show (va_cpy (σ 117) (σ 130) (40 + 70 * g) 0 70) k = _
    simp only [va_cpy]
    rw [if_pos (by omega)]; congr 1
  obtain ⟨υ, hf3, h3⟩ := l_mtaper (G := G) (σ := σ) hq.1.1 hg he (min 14 e) 0 τ9 none (by omega) (by rw [h97]; exact (plR_self _ _).symm) h9w hf9.2.2.2.2
  have hu : upR τ9 117 (σ 117) = τ9 := by rw [← h97]; exact upR_self τ9 117
  rw [hu] at hf3
  refine ⟨υ, mV_of fun Q hQ => ?_, hf9.trans hf3⟩
  refine F_aload_n dX5_taper_0 rfl ?_
  refine F_iconst (v := nI 0) dX5_taper_1 rfl ?_
  refine F_put dX5_taper_2 rfl rfl (by first | assumption | rfl) rfl rfl rfl rfl ?_
  refine F_aload_n dX5_taper_5 rfl ?_
  refine F_iload_n dX5_taper_6 rfl ?_
  refine F_iload_n dX5_taper_7 rfl ?_
  refine F_cV2i (v_isOne (d := 5) _ _ (n := n) h23 (by omega)) dX5_taper_8 rfl rfl (by decide) (by first | assumption | rfl) rfl rfl rfl (by decide) (Nat.le_of_ble_eq_true rfl) (by omega) ?_
  refine F_if_neB (tgt := 16) dX5_taper_11 rfl (fun c11 => ?_) (fun c11 => ?_)
  · refine F_aload_n dX5_taper_16 rfl ?_
    refine F_iload_n dX5_taper_17 rfl ?_
    refine F_cV1v (v_remembers (d := 5) (by omega)) dX5_taper_18 rfl rfl (by decide) (by first | assumption | rfl) rfl rfl rfl (by decide) (Nat.le_of_ble_eq_true rfl) (by omega) ?_
    refine F_iconst (v := nI 0) dX5_taper_21 rfl ?_
    refine F_istore_n dX5_taper_22 (Nat.le_of_ble_eq_true rfl) ?_
    refine F_aload_n dX5_taper_23 rfl ?_
    refine F_iload_n dX5_taper_24 rfl ?_
    refine F_iload_n dX5_taper_25 rfl ?_
    refine F_cV2i (hv9) dX5_taper_26 rfl rfl (by decide) (by first | assumption | rfl) rfl rfl rfl (by decide) (Nat.le_of_ble_eq_true rfl) (by omega) ?_
    refine F_istore dX5_taper_29 (Nat.le_of_ble_eq_true rfl) ?_
    refine F_iconst (v := nI 1) dX5_taper_31 rfl ?_
    refine F_istore dX5_taper_32 (Nat.le_of_ble_eq_true rfl) ?_
    have h3 := h3 Q hQ
    rw [pkN_1, tpF_0] at h3
    exact h3
  · rw [show (up σ 116 0 (nI 0)) 117 23 = nI n from h23, grB_nI hg (by omega), dB_nI he] at c11
    cases c11

theorem op_taper (h : Rel σ) (g e : Int32) : Same G mX4_taper mX5_taper [.int g, .int e] σ := by
  refine Same.of h fun n c hq => ?_
  by_cases hA : (grB (nI n) g && dB e) = true
  · obtain ⟨i, j, hi, hj, e1, e2⟩ := gd_n hA hq.1.1.1
    subst e1; subst e2
    exact ⟨_, b_taperB hq hi hj, fun σ2 h7 hq2 => by rw [← h7]; exact m_taperB hq2 hi hj⟩
  · have hA := Bool.not_eq_true _ ▸ hA
    exact ⟨_, b_taperA hq hA, fun σ2 h7 hq2 => m_taperA hq2 hA⟩
end QD
