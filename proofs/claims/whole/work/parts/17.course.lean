/-! ===== Course: its methods ===== -/
theorem dX0_follow_0 : decode cX0_follow 0 = .ok (.aload_n 1, 1) := by decide +kernel
theorem dX0_follow_1 : decode cX0_follow 1 = .ok (.getfield 43, 3) := by decide +kernel
theorem dX0_follow_4 : decode cX0_follow 4 = .ok (.iconst 0, 1) := by decide +kernel
theorem dX0_follow_5 : decode cX0_follow 5 = .ok (.aload_n 0, 1) := by decide +kernel
theorem dX0_follow_6 : decode cX0_follow 6 = .ok (.getfield 9, 3) := by decide +kernel
theorem dX0_follow_9 : decode cX0_follow 9 = .ok (.iconst 0, 1) := by decide +kernel
theorem dX0_follow_10 : decode cX0_follow 10 = .ok (.bipush 8, 2) := by decide +kernel
theorem dX0_follow_12 : decode cX0_follow 12 = .ok (.invokestatic 46, 3) := by decide +kernel
theorem dX0_follow_15 : decode cX0_follow 15 = .ok (.aload_n 1, 1) := by decide +kernel
theorem dX0_follow_16 : decode cX0_follow 16 = .ok (.getfield 52, 3) := by decide +kernel
theorem dX0_follow_19 : decode cX0_follow 19 = .ok (.iconst 0, 1) := by decide +kernel
theorem dX0_follow_20 : decode cX0_follow 20 = .ok (.aload_n 0, 1) := by decide +kernel
theorem dX0_follow_21 : decode cX0_follow 21 = .ok (.getfield 15, 3) := by decide +kernel
theorem dX0_follow_24 : decode cX0_follow 24 = .ok (.iconst 0, 1) := by decide +kernel
theorem dX0_follow_25 : decode cX0_follow 25 = .ok (.bipush 6, 2) := by decide +kernel
theorem dX0_follow_27 : decode cX0_follow 27 = .ok (.invokestatic 46, 3) := by decide +kernel
theorem dX0_follow_30 : decode cX0_follow 30 = .ok (.aload_n 1, 1) := by decide +kernel
theorem dX0_follow_31 : decode cX0_follow 31 = .ok (.getfield 53, 3) := by decide +kernel
theorem dX0_follow_34 : decode cX0_follow 34 = .ok (.iload_n 2, 1) := by decide +kernel
theorem dX0_follow_35 : decode cX0_follow 35 = .ok (.bipush 70, 2) := by decide +kernel
theorem dX0_follow_37 : decode cX0_follow 37 = .ok (.imul, 1) := by decide +kernel
theorem dX0_follow_38 : decode cX0_follow 38 = .ok (.aload_n 0, 1) := by decide +kernel
theorem dX0_follow_39 : decode cX0_follow 39 = .ok (.getfield 18, 3) := by decide +kernel
theorem dX0_follow_42 : decode cX0_follow 42 = .ok (.iconst 0, 1) := by decide +kernel
theorem dX0_follow_43 : decode cX0_follow 43 = .ok (.bipush 70, 2) := by decide +kernel
theorem dX0_follow_45 : decode cX0_follow 45 = .ok (.invokestatic 46, 3) := by decide +kernel
theorem dX0_follow_48 : decode cX0_follow 48 = .ok (.iconst 0, 1) := by decide +kernel
theorem dX0_follow_49 : decode cX0_follow 49 = .ok (.istore 5, 2) := by decide +kernel
theorem dX0_follow_51 : decode cX0_follow 51 = .ok (.iload 5, 2) := by decide +kernel
theorem dX0_follow_53 : decode cX0_follow 53 = .ok (.bipush 70, 2) := by decide +kernel
theorem dX0_follow_55 : decode cX0_follow 55 = .ok (.if_icmp .ge 17, 3) := by decide +kernel
theorem dX0_follow_58 : decode cX0_follow 58 = .ok (.aload_n 0, 1) := by decide +kernel
theorem dX0_follow_59 : decode cX0_follow 59 = .ok (.getfield 21, 3) := by decide +kernel
theorem dX0_follow_62 : decode cX0_follow 62 = .ok (.iload 5, 2) := by decide +kernel
theorem dX0_follow_64 : decode cX0_follow 64 = .ok (.iconst 0, 1) := by decide +kernel
theorem dX0_follow_65 : decode cX0_follow 65 = .ok (.bastore, 1) := by decide +kernel
theorem dX0_follow_66 : decode cX0_follow 66 = .ok (.iinc 5 1, 3) := by decide +kernel
theorem dX0_follow_69 : decode cX0_follow 69 = .ok (.goto (-18), 3) := by decide +kernel
theorem dX0_follow_72 : decode cX0_follow 72 = .ok (.iconst 0, 1) := by decide +kernel
theorem dX0_follow_73 : decode cX0_follow 73 = .ok (.istore 5, 2) := by decide +kernel
theorem dX0_follow_75 : decode cX0_follow 75 = .ok (.iload 5, 2) := by decide +kernel
theorem dX0_follow_77 : decode cX0_follow 77 = .ok (.aload_n 1, 1) := by decide +kernel
theorem dX0_follow_78 : decode cX0_follow 78 = .ok (.getfield 54, 3) := by decide +kernel
theorem dX0_follow_81 : decode cX0_follow 81 = .ok (.if_icmp .ge 33, 3) := by decide +kernel
theorem dX0_follow_84 : decode cX0_follow 84 = .ok (.iload 5, 2) := by decide +kernel
theorem dX0_follow_86 : decode cX0_follow 86 = .ok (.iload_n 3, 1) := by decide +kernel
theorem dX0_follow_87 : decode cX0_follow 87 = .ok (.if_icmp .eq 21, 3) := by decide +kernel
theorem dX0_follow_90 : decode cX0_follow 90 = .ok (.aload_n 0, 1) := by decide +kernel
theorem dX0_follow_91 : decode cX0_follow 91 = .ok (.aload_n 1, 1) := by decide +kernel
theorem dX0_follow_92 : decode cX0_follow 92 = .ok (.getfield 58, 3) := by decide +kernel
theorem dX0_follow_95 : decode cX0_follow 95 = .ok (.iload 5, 2) := by decide +kernel
theorem dX0_follow_97 : decode cX0_follow 97 = .ok (.iaload, 1) := by decide +kernel
theorem dX0_follow_98 : decode cX0_follow 98 = .ok (.aload_n 1, 1) := by decide +kernel
theorem dX0_follow_99 : decode cX0_follow 99 = .ok (.getfield 61, 3) := by decide +kernel
theorem dX0_follow_102 : decode cX0_follow 102 = .ok (.iload 5, 2) := by decide +kernel
theorem dX0_follow_104 : decode cX0_follow 104 = .ok (.iaload, 1) := by decide +kernel
theorem dX0_follow_105 : decode cX0_follow 105 = .ok (.invokevirtual 64, 3) := by decide +kernel
theorem dX0_follow_108 : decode cX0_follow 108 = .ok (.iinc 5 1, 3) := by decide +kernel
theorem dX0_follow_111 : decode cX0_follow 111 = .ok (.goto (-36), 3) := by decide +kernel
theorem dX0_follow_114 : decode cX0_follow 114 = .ok (.aload_n 0, 1) := by decide +kernel
theorem dX0_follow_115 : decode cX0_follow 115 = .ok (.getfield 28, 3) := by decide +kernel
theorem dX0_follow_118 : decode cX0_follow 118 = .ok (.iconst 0, 1) := by decide +kernel
theorem dX0_follow_119 : decode cX0_follow 119 = .ok (.aload_n 1, 1) := by decide +kernel
theorem dX0_follow_120 : decode cX0_follow 120 = .ok (.getfield 68, 3) := by decide +kernel
theorem dX0_follow_123 : decode cX0_follow 123 = .ok (.iload_n 2, 1) := by decide +kernel
theorem dX0_follow_124 : decode cX0_follow 124 = .ok (.iaload, 1) := by decide +kernel
theorem dX0_follow_125 : decode cX0_follow 125 = .ok (.iastore, 1) := by decide +kernel
theorem dX0_follow_126 : decode cX0_follow 126 = .ok (.aload_n 0, 1) := by decide +kernel
theorem dX0_follow_127 : decode cX0_follow 127 = .ok (.getfield 31, 3) := by decide +kernel
theorem dX0_follow_130 : decode cX0_follow 130 = .ok (.iconst 0, 1) := by decide +kernel
theorem dX0_follow_131 : decode cX0_follow 131 = .ok (.aload_n 1, 1) := by decide +kernel
theorem dX0_follow_132 : decode cX0_follow 132 = .ok (.getfield 71, 3) := by decide +kernel
theorem dX0_follow_135 : decode cX0_follow 135 = .ok (.iload_n 2, 1) := by decide +kernel
theorem dX0_follow_136 : decode cX0_follow 136 = .ok (.iaload, 1) := by decide +kernel
theorem dX0_follow_137 : decode cX0_follow 137 = .ok (.iastore, 1) := by decide +kernel
theorem dX0_follow_138 : decode cX0_follow 138 = .ok (.aload_n 0, 1) := by decide +kernel
theorem dX0_follow_139 : decode cX0_follow 139 = .ok (.iconst 0, 1) := by decide +kernel
theorem dX0_follow_140 : decode cX0_follow 140 = .ok (.iload 4, 2) := by decide +kernel
theorem dX0_follow_142 : decode cX0_follow 142 = .ok (.invokevirtual 74, 3) := by decide +kernel
theorem dX0_follow_145 : decode cX0_follow 145 = .ok (.return_, 1) := by decide +kernel
theorem dX0_pitch_0 : decode cX0_pitch 0 = .ok (.iload_n 1, 1) := by decide +kernel
theorem dX0_pitch_1 : decode cX0_pitch 1 = .ok (.istore_n 3, 1) := by decide +kernel
theorem dX0_pitch_2 : decode cX0_pitch 2 = .ok (.iload_n 3, 1) := by decide +kernel
theorem dX0_pitch_3 : decode cX0_pitch 3 = .ok (.iload_n 2, 1) := by decide +kernel
theorem dX0_pitch_4 : decode cX0_pitch 4 = .ok (.if_icmp .gt 16, 3) := by decide +kernel
theorem dX0_pitch_7 : decode cX0_pitch 7 = .ok (.aload_n 0, 1) := by decide +kernel
theorem dX0_pitch_8 : decode cX0_pitch 8 = .ok (.getfield 21, 3) := by decide +kernel
theorem dX0_pitch_11 : decode cX0_pitch 11 = .ok (.iload_n 3, 1) := by decide +kernel
theorem dX0_pitch_12 : decode cX0_pitch 12 = .ok (.iconst 1, 1) := by decide +kernel
theorem dX0_pitch_13 : decode cX0_pitch 13 = .ok (.bastore, 1) := by decide +kernel
theorem dX0_pitch_14 : decode cX0_pitch 14 = .ok (.iinc 3 1, 3) := by decide +kernel
theorem dX0_pitch_17 : decode cX0_pitch 17 = .ok (.goto (-15), 3) := by decide +kernel
theorem dX0_pitch_20 : decode cX0_pitch 20 = .ok (.return_, 1) := by decide +kernel
theorem dX0_live_0 : decode cX0_live 0 = .ok (.iload_n 1, 1) := by decide +kernel
theorem dX0_live_1 : decode cX0_live 1 = .ok (.istore_n 3, 1) := by decide +kernel
theorem dX0_live_2 : decode cX0_live 2 = .ok (.iload_n 3, 1) := by decide +kernel
theorem dX0_live_3 : decode cX0_live 3 = .ok (.iload_n 2, 1) := by decide +kernel
theorem dX0_live_4 : decode cX0_live 4 = .ok (.if_icmp .gt 25, 3) := by decide +kernel
theorem dX0_live_7 : decode cX0_live 7 = .ok (.aload_n 0, 1) := by decide +kernel
theorem dX0_live_8 : decode cX0_live 8 = .ok (.iload_n 3, 1) := by decide +kernel
theorem dX0_live_9 : decode cX0_live 9 = .ok (.aload_n 0, 1) := by decide +kernel
theorem dX0_live_10 : decode cX0_live 10 = .ok (.getfield 15, 3) := by decide +kernel
theorem dX0_live_13 : decode cX0_live 13 = .ok (.aload_n 0, 1) := by decide +kernel
theorem dX0_live_14 : decode cX0_live 14 = .ok (.getfield 18, 3) := by decide +kernel
theorem dX0_live_17 : decode cX0_live 17 = .ok (.iload_n 3, 1) := by decide +kernel
theorem dX0_live_18 : decode cX0_live 18 = .ok (.iaload, 1) := by decide +kernel
theorem dX0_live_19 : decode cX0_live 19 = .ok (.iaload, 1) := by decide +kernel
theorem dX0_live_20 : decode cX0_live 20 = .ok (.invokevirtual 77, 3) := by decide +kernel
theorem dX0_live_23 : decode cX0_live 23 = .ok (.iinc 3 1, 3) := by decide +kernel
theorem dX0_live_26 : decode cX0_live 26 = .ok (.goto (-24), 3) := by decide +kernel
theorem dX0_live_29 : decode cX0_live 29 = .ok (.return_, 1) := by decide +kernel
theorem dX0_liveDay_0 : decode cX0_liveDay 0 = .ok (.aload_n 0, 1) := by decide +kernel
theorem dX0_liveDay_1 : decode cX0_liveDay 1 = .ok (.iload_n 1, 1) := by decide +kernel
theorem dX0_liveDay_2 : decode cX0_liveDay 2 = .ok (.invokevirtual 80, 3) := by decide +kernel
theorem dX0_liveDay_5 : decode cX0_liveDay 5 = .ok (.ifCond .eq 7, 3) := by decide +kernel
theorem dX0_liveDay_8 : decode cX0_liveDay 8 = .ok (.iconst 0, 1) := by decide +kernel
theorem dX0_liveDay_9 : decode cX0_liveDay 9 = .ok (.goto 9, 3) := by decide +kernel
theorem dX0_liveDay_12 : decode cX0_liveDay 12 = .ok (.aload_n 0, 1) := by decide +kernel
theorem dX0_liveDay_13 : decode cX0_liveDay 13 = .ok (.iload_n 1, 1) := by decide +kernel
theorem dX0_liveDay_14 : decode cX0_liveDay 14 = .ok (.iload_n 2, 1) := by decide +kernel
theorem dX0_liveDay_15 : decode cX0_liveDay 15 = .ok (.invokevirtual 84, 3) := by decide +kernel
theorem dX0_liveDay_18 : decode cX0_liveDay 18 = .ok (.istore_n 3, 1) := by decide +kernel
theorem dX0_liveDay_19 : decode cX0_liveDay 19 = .ok (.aload_n 0, 1) := by decide +kernel
theorem dX0_liveDay_20 : decode cX0_liveDay 20 = .ok (.getfield 25, 3) := by decide +kernel
theorem dX0_liveDay_23 : decode cX0_liveDay 23 = .ok (.iload_n 1, 1) := by decide +kernel
theorem dX0_liveDay_24 : decode cX0_liveDay 24 = .ok (.iload_n 3, 1) := by decide +kernel
theorem dX0_liveDay_25 : decode cX0_liveDay 25 = .ok (.iastore, 1) := by decide +kernel
theorem dX0_liveDay_26 : decode cX0_liveDay 26 = .ok (.aload_n 0, 1) := by decide +kernel
theorem dX0_liveDay_27 : decode cX0_liveDay 27 = .ok (.getfield 34, 3) := by decide +kernel
theorem dX0_liveDay_30 : decode cX0_liveDay 30 = .ok (.iload_n 1, 1) := by decide +kernel
theorem dX0_liveDay_31 : decode cX0_liveDay 31 = .ok (.iconst 1, 1) := by decide +kernel
theorem dX0_liveDay_32 : decode cX0_liveDay 32 = .ok (.iadd, 1) := by decide +kernel
theorem dX0_liveDay_33 : decode cX0_liveDay 33 = .ok (.aload_n 0, 1) := by decide +kernel
theorem dX0_liveDay_34 : decode cX0_liveDay 34 = .ok (.getfield 34, 3) := by decide +kernel
theorem dX0_liveDay_37 : decode cX0_liveDay 37 = .ok (.iload_n 1, 1) := by decide +kernel
theorem dX0_liveDay_38 : decode cX0_liveDay 38 = .ok (.iaload, 1) := by decide +kernel
theorem dX0_liveDay_39 : decode cX0_liveDay 39 = .ok (.iload_n 3, 1) := by decide +kernel
theorem dX0_liveDay_40 : decode cX0_liveDay 40 = .ok (.iadd, 1) := by decide +kernel
theorem dX0_liveDay_41 : decode cX0_liveDay 41 = .ok (.iastore, 1) := by decide +kernel
theorem dX0_liveDay_42 : decode cX0_liveDay 42 = .ok (.aload_n 0, 1) := by decide +kernel
theorem dX0_liveDay_43 : decode cX0_liveDay 43 = .ok (.getfield 28, 3) := by decide +kernel
theorem dX0_liveDay_46 : decode cX0_liveDay 46 = .ok (.iload_n 1, 1) := by decide +kernel
theorem dX0_liveDay_47 : decode cX0_liveDay 47 = .ok (.iconst 1, 1) := by decide +kernel
theorem dX0_liveDay_48 : decode cX0_liveDay 48 = .ok (.iadd, 1) := by decide +kernel
theorem dX0_liveDay_49 : decode cX0_liveDay 49 = .ok (.aload_n 0, 1) := by decide +kernel
theorem dX0_liveDay_50 : decode cX0_liveDay 50 = .ok (.getfield 28, 3) := by decide +kernel
theorem dX0_liveDay_53 : decode cX0_liveDay 53 = .ok (.iload_n 1, 1) := by decide +kernel
theorem dX0_liveDay_54 : decode cX0_liveDay 54 = .ok (.iaload, 1) := by decide +kernel
theorem dX0_liveDay_55 : decode cX0_liveDay 55 = .ok (.aload_n 0, 1) := by decide +kernel
theorem dX0_liveDay_56 : decode cX0_liveDay 56 = .ok (.getfield 9, 3) := by decide +kernel
theorem dX0_liveDay_59 : decode cX0_liveDay 59 = .ok (.iconst 0, 1) := by decide +kernel
theorem dX0_liveDay_60 : decode cX0_liveDay 60 = .ok (.iaload, 1) := by decide +kernel
theorem dX0_liveDay_61 : decode cX0_liveDay 61 = .ok (.invokestatic 88, 3) := by decide +kernel
theorem dX0_liveDay_64 : decode cX0_liveDay 64 = .ok (.bipush 10, 2) := by decide +kernel
theorem dX0_liveDay_66 : decode cX0_liveDay 66 = .ok (.iload_n 3, 1) := by decide +kernel
theorem dX0_liveDay_67 : decode cX0_liveDay 67 = .ok (.imul, 1) := by decide +kernel
theorem dX0_liveDay_68 : decode cX0_liveDay 68 = .ok (.iadd, 1) := by decide +kernel
theorem dX0_liveDay_69 : decode cX0_liveDay 69 = .ok (.iastore, 1) := by decide +kernel
theorem dX0_liveDay_70 : decode cX0_liveDay 70 = .ok (.aload_n 0, 1) := by decide +kernel
theorem dX0_liveDay_71 : decode cX0_liveDay 71 = .ok (.getfield 31, 3) := by decide +kernel
theorem dX0_liveDay_74 : decode cX0_liveDay 74 = .ok (.iload_n 1, 1) := by decide +kernel
theorem dX0_liveDay_75 : decode cX0_liveDay 75 = .ok (.iconst 1, 1) := by decide +kernel
theorem dX0_liveDay_76 : decode cX0_liveDay 76 = .ok (.iadd, 1) := by decide +kernel
theorem dX0_liveDay_77 : decode cX0_liveDay 77 = .ok (.aload_n 0, 1) := by decide +kernel
theorem dX0_liveDay_78 : decode cX0_liveDay 78 = .ok (.getfield 31, 3) := by decide +kernel
theorem dX0_liveDay_81 : decode cX0_liveDay 81 = .ok (.iload_n 1, 1) := by decide +kernel
theorem dX0_liveDay_82 : decode cX0_liveDay 82 = .ok (.iaload, 1) := by decide +kernel
theorem dX0_liveDay_83 : decode cX0_liveDay 83 = .ok (.aload_n 0, 1) := by decide +kernel
theorem dX0_liveDay_84 : decode cX0_liveDay 84 = .ok (.getfield 9, 3) := by decide +kernel
theorem dX0_liveDay_87 : decode cX0_liveDay 87 = .ok (.iconst 1, 1) := by decide +kernel
theorem dX0_liveDay_88 : decode cX0_liveDay 88 = .ok (.iaload, 1) := by decide +kernel
theorem dX0_liveDay_89 : decode cX0_liveDay 89 = .ok (.invokestatic 88, 3) := by decide +kernel
theorem dX0_liveDay_92 : decode cX0_liveDay 92 = .ok (.bipush 10, 2) := by decide +kernel
theorem dX0_liveDay_94 : decode cX0_liveDay 94 = .ok (.iload_n 3, 1) := by decide +kernel
theorem dX0_liveDay_95 : decode cX0_liveDay 95 = .ok (.imul, 1) := by decide +kernel
theorem dX0_liveDay_96 : decode cX0_liveDay 96 = .ok (.iadd, 1) := by decide +kernel
theorem dX0_liveDay_97 : decode cX0_liveDay 97 = .ok (.iastore, 1) := by decide +kernel
theorem dX0_liveDay_98 : decode cX0_liveDay 98 = .ok (.aload_n 0, 1) := by decide +kernel
theorem dX0_liveDay_99 : decode cX0_liveDay 99 = .ok (.getfield 40, 3) := by decide +kernel
theorem dX0_liveDay_102 : decode cX0_liveDay 102 = .ok (.iload_n 1, 1) := by decide +kernel
theorem dX0_liveDay_103 : decode cX0_liveDay 103 = .ok (.aload_n 0, 1) := by decide +kernel
theorem dX0_liveDay_104 : decode cX0_liveDay 104 = .ok (.iload_n 1, 1) := by decide +kernel
theorem dX0_liveDay_105 : decode cX0_liveDay 105 = .ok (.invokevirtual 80, 3) := by decide +kernel
theorem dX0_liveDay_108 : decode cX0_liveDay 108 = .ok (.ifCond .ne 15, 3) := by decide +kernel
theorem dX0_liveDay_111 : decode cX0_liveDay 111 = .ok (.aload_n 0, 1) := by decide +kernel
theorem dX0_liveDay_112 : decode cX0_liveDay 112 = .ok (.iload_n 1, 1) := by decide +kernel
theorem dX0_liveDay_113 : decode cX0_liveDay 113 = .ok (.invokevirtual 91, 3) := by decide +kernel
theorem dX0_liveDay_116 : decode cX0_liveDay 116 = .ok (.ifCond .eq 7, 3) := by decide +kernel
theorem dX0_liveDay_119 : decode cX0_liveDay 119 = .ok (.iconst 1, 1) := by decide +kernel
theorem dX0_liveDay_120 : decode cX0_liveDay 120 = .ok (.goto 4, 3) := by decide +kernel
theorem dX0_liveDay_123 : decode cX0_liveDay 123 = .ok (.iconst 0, 1) := by decide +kernel
theorem dX0_liveDay_124 : decode cX0_liveDay 124 = .ok (.bastore, 1) := by decide +kernel
theorem dX0_liveDay_125 : decode cX0_liveDay 125 = .ok (.aload_n 0, 1) := by decide +kernel
theorem dX0_liveDay_126 : decode cX0_liveDay 126 = .ok (.getfield 37, 3) := by decide +kernel
theorem dX0_liveDay_129 : decode cX0_liveDay 129 = .ok (.iload_n 1, 1) := by decide +kernel
theorem dX0_liveDay_130 : decode cX0_liveDay 130 = .ok (.iconst 1, 1) := by decide +kernel
theorem dX0_liveDay_131 : decode cX0_liveDay 131 = .ok (.iadd, 1) := by decide +kernel
theorem dX0_liveDay_132 : decode cX0_liveDay 132 = .ok (.aload_n 0, 1) := by decide +kernel
theorem dX0_liveDay_133 : decode cX0_liveDay 133 = .ok (.getfield 40, 3) := by decide +kernel
theorem dX0_liveDay_136 : decode cX0_liveDay 136 = .ok (.iload_n 1, 1) := by decide +kernel
theorem dX0_liveDay_137 : decode cX0_liveDay 137 = .ok (.baload, 1) := by decide +kernel
theorem dX0_liveDay_138 : decode cX0_liveDay 138 = .ok (.ifCond .eq 16, 3) := by decide +kernel
theorem dX0_liveDay_141 : decode cX0_liveDay 141 = .ok (.iload_n 1, 1) := by decide +kernel
theorem dX0_liveDay_142 : decode cX0_liveDay 142 = .ok (.iconst 1, 1) := by decide +kernel
theorem dX0_liveDay_143 : decode cX0_liveDay 143 = .ok (.iadd, 1) := by decide +kernel
theorem dX0_liveDay_144 : decode cX0_liveDay 144 = .ok (.aload_n 0, 1) := by decide +kernel
theorem dX0_liveDay_145 : decode cX0_liveDay 145 = .ok (.getfield 9, 3) := by decide +kernel
theorem dX0_liveDay_148 : decode cX0_liveDay 148 = .ok (.iconst 5, 1) := by decide +kernel
theorem dX0_liveDay_149 : decode cX0_liveDay 149 = .ok (.iaload, 1) := by decide +kernel
theorem dX0_liveDay_150 : decode cX0_liveDay 150 = .ok (.iadd, 1) := by decide +kernel
theorem dX0_liveDay_151 : decode cX0_liveDay 151 = .ok (.goto 9, 3) := by decide +kernel
theorem dX0_liveDay_154 : decode cX0_liveDay 154 = .ok (.aload_n 0, 1) := by decide +kernel
theorem dX0_liveDay_155 : decode cX0_liveDay 155 = .ok (.getfield 37, 3) := by decide +kernel
theorem dX0_liveDay_158 : decode cX0_liveDay 158 = .ok (.iload_n 1, 1) := by decide +kernel
theorem dX0_liveDay_159 : decode cX0_liveDay 159 = .ok (.iaload, 1) := by decide +kernel
theorem dX0_liveDay_160 : decode cX0_liveDay 160 = .ok (.iastore, 1) := by decide +kernel
theorem dX0_liveDay_161 : decode cX0_liveDay 161 = .ok (.return_, 1) := by decide +kernel
theorem dX0_held_0 : decode cX0_held 0 = .ok (.aload_n 0, 1) := by decide +kernel
theorem dX0_held_1 : decode cX0_held 1 = .ok (.getfield 21, 3) := by decide +kernel
theorem dX0_held_4 : decode cX0_held 4 = .ok (.iload_n 1, 1) := by decide +kernel
theorem dX0_held_5 : decode cX0_held 5 = .ok (.baload, 1) := by decide +kernel
theorem dX0_held_6 : decode cX0_held 6 = .ok (.ifCond .eq 18, 3) := by decide +kernel
theorem dX0_held_9 : decode cX0_held 9 = .ok (.iload_n 2, 1) := by decide +kernel
theorem dX0_held_10 : decode cX0_held 10 = .ok (.aload_n 0, 1) := by decide +kernel
theorem dX0_held_11 : decode cX0_held 11 = .ok (.getfield 9, 3) := by decide +kernel
theorem dX0_held_14 : decode cX0_held 14 = .ok (.bipush 7, 2) := by decide +kernel
theorem dX0_held_16 : decode cX0_held 16 = .ok (.iaload, 1) := by decide +kernel
theorem dX0_held_17 : decode cX0_held 17 = .ok (.imul, 1) := by decide +kernel
theorem dX0_held_18 : decode cX0_held 18 = .ok (.bipush 100, 2) := by decide +kernel
theorem dX0_held_20 : decode cX0_held 20 = .ok (.idiv, 1) := by decide +kernel
theorem dX0_held_21 : decode cX0_held 21 = .ok (.goto 4, 3) := by decide +kernel
theorem dX0_held_24 : decode cX0_held 24 = .ok (.iload_n 2, 1) := by decide +kernel
theorem dX0_held_25 : decode cX0_held 25 = .ok (.istore_n 3, 1) := by decide +kernel
theorem dX0_held_26 : decode cX0_held 26 = .ok (.aload_n 0, 1) := by decide +kernel
theorem dX0_held_27 : decode cX0_held 27 = .ok (.getfield 34, 3) := by decide +kernel
theorem dX0_held_30 : decode cX0_held 30 = .ok (.iload_n 1, 1) := by decide +kernel
theorem dX0_held_31 : decode cX0_held 31 = .ok (.iaload, 1) := by decide +kernel
theorem dX0_held_32 : decode cX0_held 32 = .ok (.aload_n 0, 1) := by decide +kernel
theorem dX0_held_33 : decode cX0_held 33 = .ok (.getfield 34, 3) := by decide +kernel
theorem dX0_held_36 : decode cX0_held 36 = .ok (.iload_n 1, 1) := by decide +kernel
theorem dX0_held_37 : decode cX0_held 37 = .ok (.iload_n 1, 1) := by decide +kernel
theorem dX0_held_38 : decode cX0_held 38 = .ok (.bipush 7, 2) := by decide +kernel
theorem dX0_held_40 : decode cX0_held 40 = .ok (.irem, 1) := by decide +kernel
theorem dX0_held_41 : decode cX0_held 41 = .ok (.isub, 1) := by decide +kernel
theorem dX0_held_42 : decode cX0_held 42 = .ok (.iaload, 1) := by decide +kernel
theorem dX0_held_43 : decode cX0_held 43 = .ok (.isub, 1) := by decide +kernel
theorem dX0_held_44 : decode cX0_held 44 = .ok (.istore 4, 2) := by decide +kernel
theorem dX0_held_46 : decode cX0_held 46 = .ok (.iload_n 3, 1) := by decide +kernel
theorem dX0_held_47 : decode cX0_held 47 = .ok (.aload_n 0, 1) := by decide +kernel
theorem dX0_held_48 : decode cX0_held 48 = .ok (.getfield 9, 3) := by decide +kernel
theorem dX0_held_51 : decode cX0_held 51 = .ok (.bipush 6, 2) := by decide +kernel
theorem dX0_held_53 : decode cX0_held 53 = .ok (.iaload, 1) := by decide +kernel
theorem dX0_held_54 : decode cX0_held 54 = .ok (.iload 4, 2) := by decide +kernel
theorem dX0_held_56 : decode cX0_held 56 = .ok (.isub, 1) := by decide +kernel
theorem dX0_held_57 : decode cX0_held 57 = .ok (.invokestatic 94, 3) := by decide +kernel
theorem dX0_held_60 : decode cX0_held 60 = .ok (.ireturn, 1) := by decide +kernel
theorem dX0_decayed_0 : decode cX0_decayed 0 = .ok (.iload_n 1, 1) := by decide +kernel
theorem dX0_decayed_1 : decode cX0_decayed 1 = .ok (.ifCond .ne 7, 3) := by decide +kernel
theorem dX0_decayed_4 : decode cX0_decayed 4 = .ok (.iload_n 0, 1) := by decide +kernel
theorem dX0_decayed_5 : decode cX0_decayed 5 = .ok (.goto 8, 3) := by decide +kernel
theorem dX0_decayed_8 : decode cX0_decayed 8 = .ok (.iload_n 0, 1) := by decide +kernel
theorem dX0_decayed_9 : decode cX0_decayed 9 = .ok (.iload_n 0, 1) := by decide +kernel
theorem dX0_decayed_10 : decode cX0_decayed 10 = .ok (.iload_n 1, 1) := by decide +kernel
theorem dX0_decayed_11 : decode cX0_decayed 11 = .ok (.idiv, 1) := by decide +kernel
theorem dX0_decayed_12 : decode cX0_decayed 12 = .ok (.isub, 1) := by decide +kernel
theorem dX0_decayed_13 : decode cX0_decayed 13 = .ok (.ireturn, 1) := by decide +kernel
theorem dX0_isHurt_0 : decode cX0_isHurt 0 = .ok (.iload_n 1, 1) := by decide +kernel
theorem dX0_isHurt_1 : decode cX0_isHurt 1 = .ok (.aload_n 0, 1) := by decide +kernel
theorem dX0_isHurt_2 : decode cX0_isHurt 2 = .ok (.getfield 37, 3) := by decide +kernel
theorem dX0_isHurt_5 : decode cX0_isHurt 5 = .ok (.iload_n 1, 1) := by decide +kernel
theorem dX0_isHurt_6 : decode cX0_isHurt 6 = .ok (.iaload, 1) := by decide +kernel
theorem dX0_isHurt_7 : decode cX0_isHurt 7 = .ok (.if_icmp .ge 7, 3) := by decide +kernel
theorem dX0_isHurt_10 : decode cX0_isHurt 10 = .ok (.iconst 1, 1) := by decide +kernel
theorem dX0_isHurt_11 : decode cX0_isHurt 11 = .ok (.goto 4, 3) := by decide +kernel
theorem dX0_isHurt_14 : decode cX0_isHurt 14 = .ok (.iconst 0, 1) := by decide +kernel
theorem dX0_isHurt_15 : decode cX0_isHurt 15 = .ok (.ireturn, 1) := by decide +kernel
theorem dX0_isTooMuch_0 : decode cX0_isTooMuch 0 = .ok (.iload_n 1, 1) := by decide +kernel
theorem dX0_isTooMuch_1 : decode cX0_isTooMuch 1 = .ok (.bipush 20, 2) := by decide +kernel
theorem dX0_isTooMuch_3 : decode cX0_isTooMuch 3 = .ok (.if_icmp .lt 31, 3) := by decide +kernel
theorem dX0_isTooMuch_6 : decode cX0_isTooMuch 6 = .ok (.aload_n 0, 1) := by decide +kernel
theorem dX0_isTooMuch_7 : decode cX0_isTooMuch 7 = .ok (.iload_n 1, 1) := by decide +kernel
theorem dX0_isTooMuch_8 : decode cX0_isTooMuch 8 = .ok (.invokevirtual 99, 3) := by decide +kernel
theorem dX0_isTooMuch_11 : decode cX0_isTooMuch 11 = .ok (.sipush 400, 3) := by decide +kernel
theorem dX0_isTooMuch_14 : decode cX0_isTooMuch 14 = .ok (.imul, 1) := by decide +kernel
theorem dX0_isTooMuch_15 : decode cX0_isTooMuch 15 = .ok (.aload_n 0, 1) := by decide +kernel
theorem dX0_isTooMuch_16 : decode cX0_isTooMuch 16 = .ok (.getfield 9, 3) := by decide +kernel
theorem dX0_isTooMuch_19 : decode cX0_isTooMuch 19 = .ok (.iconst 4, 1) := by decide +kernel
theorem dX0_isTooMuch_20 : decode cX0_isTooMuch 20 = .ok (.iaload, 1) := by decide +kernel
theorem dX0_isTooMuch_21 : decode cX0_isTooMuch 21 = .ok (.aload_n 0, 1) := by decide +kernel
theorem dX0_isTooMuch_22 : decode cX0_isTooMuch 22 = .ok (.iload_n 1, 1) := by decide +kernel
theorem dX0_isTooMuch_23 : decode cX0_isTooMuch 23 = .ok (.invokevirtual 103, 3) := by decide +kernel
theorem dX0_isTooMuch_26 : decode cX0_isTooMuch 26 = .ok (.imul, 1) := by decide +kernel
theorem dX0_isTooMuch_27 : decode cX0_isTooMuch 27 = .ok (.if_icmp .le 7, 3) := by decide +kernel
theorem dX0_isTooMuch_30 : decode cX0_isTooMuch 30 = .ok (.iconst 1, 1) := by decide +kernel
theorem dX0_isTooMuch_31 : decode cX0_isTooMuch 31 = .ok (.goto 4, 3) := by decide +kernel
theorem dX0_isTooMuch_34 : decode cX0_isTooMuch 34 = .ok (.iconst 0, 1) := by decide +kernel
theorem dX0_isTooMuch_35 : decode cX0_isTooMuch 35 = .ok (.ireturn, 1) := by decide +kernel
theorem dX0_acute_0 : decode cX0_acute 0 = .ok (.aload_n 0, 1) := by decide +kernel
theorem dX0_acute_1 : decode cX0_acute 1 = .ok (.getfield 34, 3) := by decide +kernel
theorem dX0_acute_4 : decode cX0_acute 4 = .ok (.iload_n 1, 1) := by decide +kernel
theorem dX0_acute_5 : decode cX0_acute 5 = .ok (.iconst 1, 1) := by decide +kernel
theorem dX0_acute_6 : decode cX0_acute 6 = .ok (.iadd, 1) := by decide +kernel
theorem dX0_acute_7 : decode cX0_acute 7 = .ok (.iaload, 1) := by decide +kernel
theorem dX0_acute_8 : decode cX0_acute 8 = .ok (.aload_n 0, 1) := by decide +kernel
theorem dX0_acute_9 : decode cX0_acute 9 = .ok (.getfield 34, 3) := by decide +kernel
theorem dX0_acute_12 : decode cX0_acute 12 = .ok (.iconst 0, 1) := by decide +kernel
theorem dX0_acute_13 : decode cX0_acute 13 = .ok (.iload_n 1, 1) := by decide +kernel
theorem dX0_acute_14 : decode cX0_acute 14 = .ok (.iconst 1, 1) := by decide +kernel
theorem dX0_acute_15 : decode cX0_acute 15 = .ok (.iadd, 1) := by decide +kernel
theorem dX0_acute_16 : decode cX0_acute 16 = .ok (.bipush 7, 2) := by decide +kernel
theorem dX0_acute_18 : decode cX0_acute 18 = .ok (.isub, 1) := by decide +kernel
theorem dX0_acute_19 : decode cX0_acute 19 = .ok (.invokestatic 106, 3) := by decide +kernel
theorem dX0_acute_22 : decode cX0_acute 22 = .ok (.iaload, 1) := by decide +kernel
theorem dX0_acute_23 : decode cX0_acute 23 = .ok (.isub, 1) := by decide +kernel
theorem dX0_acute_24 : decode cX0_acute 24 = .ok (.ireturn, 1) := by decide +kernel
theorem dX0_chronic_0 : decode cX0_chronic 0 = .ok (.aload_n 0, 1) := by decide +kernel
theorem dX0_chronic_1 : decode cX0_chronic 1 = .ok (.getfield 34, 3) := by decide +kernel
theorem dX0_chronic_4 : decode cX0_chronic 4 = .ok (.iload_n 1, 1) := by decide +kernel
theorem dX0_chronic_5 : decode cX0_chronic 5 = .ok (.iconst 1, 1) := by decide +kernel
theorem dX0_chronic_6 : decode cX0_chronic 6 = .ok (.iadd, 1) := by decide +kernel
theorem dX0_chronic_7 : decode cX0_chronic 7 = .ok (.iaload, 1) := by decide +kernel
theorem dX0_chronic_8 : decode cX0_chronic 8 = .ok (.aload_n 0, 1) := by decide +kernel
theorem dX0_chronic_9 : decode cX0_chronic 9 = .ok (.getfield 34, 3) := by decide +kernel
theorem dX0_chronic_12 : decode cX0_chronic 12 = .ok (.iconst 0, 1) := by decide +kernel
theorem dX0_chronic_13 : decode cX0_chronic 13 = .ok (.iload_n 1, 1) := by decide +kernel
theorem dX0_chronic_14 : decode cX0_chronic 14 = .ok (.iconst 1, 1) := by decide +kernel
theorem dX0_chronic_15 : decode cX0_chronic 15 = .ok (.iadd, 1) := by decide +kernel
theorem dX0_chronic_16 : decode cX0_chronic 16 = .ok (.bipush 28, 2) := by decide +kernel
theorem dX0_chronic_18 : decode cX0_chronic 18 = .ok (.isub, 1) := by decide +kernel
theorem dX0_chronic_19 : decode cX0_chronic 19 = .ok (.invokestatic 106, 3) := by decide +kernel
theorem dX0_chronic_22 : decode cX0_chronic 22 = .ok (.iaload, 1) := by decide +kernel
theorem dX0_chronic_23 : decode cX0_chronic 23 = .ok (.isub, 1) := by decide +kernel
theorem dX0_chronic_24 : decode cX0_chronic 24 = .ok (.ireturn, 1) := by decide +kernel
theorem dX0_formOf_0 : decode cX0_formOf 0 = .ok (.aload_n 0, 1) := by decide +kernel
theorem dX0_formOf_1 : decode cX0_formOf 1 = .ok (.getfield 9, 3) := by decide +kernel
theorem dX0_formOf_4 : decode cX0_formOf 4 = .ok (.iconst 2, 1) := by decide +kernel
theorem dX0_formOf_5 : decode cX0_formOf 5 = .ok (.iaload, 1) := by decide +kernel
theorem dX0_formOf_6 : decode cX0_formOf 6 = .ok (.aload_n 0, 1) := by decide +kernel
theorem dX0_formOf_7 : decode cX0_formOf 7 = .ok (.getfield 28, 3) := by decide +kernel
theorem dX0_formOf_10 : decode cX0_formOf 10 = .ok (.iload_n 1, 1) := by decide +kernel
theorem dX0_formOf_11 : decode cX0_formOf 11 = .ok (.iconst 1, 1) := by decide +kernel
theorem dX0_formOf_12 : decode cX0_formOf 12 = .ok (.iadd, 1) := by decide +kernel
theorem dX0_formOf_13 : decode cX0_formOf 13 = .ok (.iaload, 1) := by decide +kernel
theorem dX0_formOf_14 : decode cX0_formOf 14 = .ok (.imul, 1) := by decide +kernel
theorem dX0_formOf_15 : decode cX0_formOf 15 = .ok (.aload_n 0, 1) := by decide +kernel
theorem dX0_formOf_16 : decode cX0_formOf 16 = .ok (.getfield 9, 3) := by decide +kernel
theorem dX0_formOf_19 : decode cX0_formOf 19 = .ok (.iconst 3, 1) := by decide +kernel
theorem dX0_formOf_20 : decode cX0_formOf 20 = .ok (.iaload, 1) := by decide +kernel
theorem dX0_formOf_21 : decode cX0_formOf 21 = .ok (.aload_n 0, 1) := by decide +kernel
theorem dX0_formOf_22 : decode cX0_formOf 22 = .ok (.getfield 31, 3) := by decide +kernel
theorem dX0_formOf_25 : decode cX0_formOf 25 = .ok (.iload_n 1, 1) := by decide +kernel
theorem dX0_formOf_26 : decode cX0_formOf 26 = .ok (.iconst 1, 1) := by decide +kernel
theorem dX0_formOf_27 : decode cX0_formOf 27 = .ok (.iadd, 1) := by decide +kernel
theorem dX0_formOf_28 : decode cX0_formOf 28 = .ok (.iaload, 1) := by decide +kernel
theorem dX0_formOf_29 : decode cX0_formOf 29 = .ok (.imul, 1) := by decide +kernel
theorem dX0_formOf_30 : decode cX0_formOf 30 = .ok (.isub, 1) := by decide +kernel
theorem dX0_formOf_31 : decode cX0_formOf 31 = .ok (.ireturn, 1) := by decide +kernel
theorem dX0_tryRows_0 : decode cX0_tryRows 0 = .ok (.iload_n 1, 1) := by decide +kernel
theorem dX0_tryRows_1 : decode cX0_tryRows 1 = .ok (.iload_n 2, 1) := by decide +kernel
theorem dX0_tryRows_2 : decode cX0_tryRows 2 = .ok (.isub, 1) := by decide +kernel
theorem dX0_tryRows_3 : decode cX0_tryRows 3 = .ok (.istore 4, 2) := by decide +kernel
theorem dX0_tryRows_5 : decode cX0_tryRows 5 = .ok (.iload_n 2, 1) := by decide +kernel
theorem dX0_tryRows_6 : decode cX0_tryRows 6 = .ok (.ifCond .gt 16, 3) := by decide +kernel
theorem dX0_tryRows_9 : decode cX0_tryRows 9 = .ok (.aload_n 0, 1) := by decide +kernel
theorem dX0_tryRows_10 : decode cX0_tryRows 10 = .ok (.iload_n 1, 1) := by decide +kernel
theorem dX0_tryRows_11 : decode cX0_tryRows 11 = .ok (.iload_n 1, 1) := by decide +kernel
theorem dX0_tryRows_12 : decode cX0_tryRows 12 = .ok (.invokevirtual 74, 3) := by decide +kernel
theorem dX0_tryRows_15 : decode cX0_tryRows 15 = .ok (.aload_n 0, 1) := by decide +kernel
theorem dX0_tryRows_16 : decode cX0_tryRows 16 = .ok (.iload_n 1, 1) := by decide +kernel
theorem dX0_tryRows_17 : decode cX0_tryRows 17 = .ok (.iload_n 3, 1) := by decide +kernel
theorem dX0_tryRows_18 : decode cX0_tryRows 18 = .ok (.invokevirtual 109, 3) := by decide +kernel
theorem dX0_tryRows_21 : decode cX0_tryRows 21 = .ok (.return_, 1) := by decide +kernel
theorem dX0_tryRows_22 : decode cX0_tryRows 22 = .ok (.iconst 0, 1) := by decide +kernel
theorem dX0_tryRows_23 : decode cX0_tryRows 23 = .ok (.istore 5, 2) := by decide +kernel
theorem dX0_tryRows_25 : decode cX0_tryRows 25 = .ok (.iload 5, 2) := by decide +kernel
theorem dX0_tryRows_27 : decode cX0_tryRows 27 = .ok (.bipush 6, 2) := by decide +kernel
theorem dX0_tryRows_29 : decode cX0_tryRows 29 = .ok (.if_icmp .ge 51, 3) := by decide +kernel
theorem dX0_tryRows_32 : decode cX0_tryRows 32 = .ok (.aload_n 0, 1) := by decide +kernel
theorem dX0_tryRows_33 : decode cX0_tryRows 33 = .ok (.getfield 18, 3) := by decide +kernel
theorem dX0_tryRows_36 : decode cX0_tryRows 36 = .ok (.iload 4, 2) := by decide +kernel
theorem dX0_tryRows_38 : decode cX0_tryRows 38 = .ok (.iload 5, 2) := by decide +kernel
theorem dX0_tryRows_40 : decode cX0_tryRows 40 = .ok (.iastore, 1) := by decide +kernel
theorem dX0_tryRows_41 : decode cX0_tryRows 41 = .ok (.aload_n 0, 1) := by decide +kernel
theorem dX0_tryRows_42 : decode cX0_tryRows 42 = .ok (.iload 4, 2) := by decide +kernel
theorem dX0_tryRows_44 : decode cX0_tryRows 44 = .ok (.iload 4, 2) := by decide +kernel
theorem dX0_tryRows_46 : decode cX0_tryRows 46 = .ok (.invokevirtual 74, 3) := by decide +kernel
theorem dX0_tryRows_49 : decode cX0_tryRows 49 = .ok (.aload_n 0, 1) := by decide +kernel
theorem dX0_tryRows_50 : decode cX0_tryRows 50 = .ok (.getfield 40, 3) := by decide +kernel
theorem dX0_tryRows_53 : decode cX0_tryRows 53 = .ok (.iload 4, 2) := by decide +kernel
theorem dX0_tryRows_55 : decode cX0_tryRows 55 = .ok (.baload, 1) := by decide +kernel
theorem dX0_tryRows_56 : decode cX0_tryRows 56 = .ok (.ifCond .ne 18, 3) := by decide +kernel
theorem dX0_tryRows_59 : decode cX0_tryRows 59 = .ok (.aload_n 0, 1) := by decide +kernel
theorem dX0_tryRows_60 : decode cX0_tryRows 60 = .ok (.iload_n 1, 1) := by decide +kernel
theorem dX0_tryRows_61 : decode cX0_tryRows 61 = .ok (.iload_n 2, 1) := by decide +kernel
theorem dX0_tryRows_62 : decode cX0_tryRows 62 = .ok (.iconst 1, 1) := by decide +kernel
theorem dX0_tryRows_63 : decode cX0_tryRows 63 = .ok (.isub, 1) := by decide +kernel
theorem dX0_tryRows_64 : decode cX0_tryRows 64 = .ok (.iload_n 3, 1) := by decide +kernel
theorem dX0_tryRows_65 : decode cX0_tryRows 65 = .ok (.bipush 10, 2) := by decide +kernel
theorem dX0_tryRows_67 : decode cX0_tryRows 67 = .ok (.imul, 1) := by decide +kernel
theorem dX0_tryRows_68 : decode cX0_tryRows 68 = .ok (.iload 5, 2) := by decide +kernel
theorem dX0_tryRows_70 : decode cX0_tryRows 70 = .ok (.iadd, 1) := by decide +kernel
theorem dX0_tryRows_71 : decode cX0_tryRows 71 = .ok (.invokevirtual 112, 3) := by decide +kernel
theorem dX0_tryRows_74 : decode cX0_tryRows 74 = .ok (.iinc 5 1, 3) := by decide +kernel
theorem dX0_tryRows_77 : decode cX0_tryRows 77 = .ok (.goto (-52), 3) := by decide +kernel
theorem dX0_tryRows_80 : decode cX0_tryRows 80 = .ok (.return_, 1) := by decide +kernel
theorem dX0_keepIfBetter_0 : decode cX0_keepIfBetter 0 = .ok (.aload_n 0, 1) := by decide +kernel
theorem dX0_keepIfBetter_1 : decode cX0_keepIfBetter 1 = .ok (.getfield 40, 3) := by decide +kernel
theorem dX0_keepIfBetter_4 : decode cX0_keepIfBetter 4 = .ok (.iload_n 1, 1) := by decide +kernel
theorem dX0_keepIfBetter_5 : decode cX0_keepIfBetter 5 = .ok (.baload, 1) := by decide +kernel
theorem dX0_keepIfBetter_6 : decode cX0_keepIfBetter 6 = .ok (.ifCond .ne 29, 3) := by decide +kernel
theorem dX0_keepIfBetter_9 : decode cX0_keepIfBetter 9 = .ok (.aload_n 0, 1) := by decide +kernel
theorem dX0_keepIfBetter_10 : decode cX0_keepIfBetter 10 = .ok (.iload_n 1, 1) := by decide +kernel
theorem dX0_keepIfBetter_11 : decode cX0_keepIfBetter 11 = .ok (.invokevirtual 116, 3) := by decide +kernel
theorem dX0_keepIfBetter_14 : decode cX0_keepIfBetter 14 = .ok (.aload_n 0, 1) := by decide +kernel
theorem dX0_keepIfBetter_15 : decode cX0_keepIfBetter 15 = .ok (.getfield 119, 3) := by decide +kernel
theorem dX0_keepIfBetter_18 : decode cX0_keepIfBetter 18 = .ok (.if_icmp .le 17, 3) := by decide +kernel
theorem dX0_keepIfBetter_21 : decode cX0_keepIfBetter 21 = .ok (.aload_n 0, 1) := by decide +kernel
theorem dX0_keepIfBetter_22 : decode cX0_keepIfBetter 22 = .ok (.aload_n 0, 1) := by decide +kernel
theorem dX0_keepIfBetter_23 : decode cX0_keepIfBetter 23 = .ok (.iload_n 1, 1) := by decide +kernel
theorem dX0_keepIfBetter_24 : decode cX0_keepIfBetter 24 = .ok (.invokevirtual 116, 3) := by decide +kernel
theorem dX0_keepIfBetter_27 : decode cX0_keepIfBetter 27 = .ok (.putfield 119, 3) := by decide +kernel
theorem dX0_keepIfBetter_30 : decode cX0_keepIfBetter 30 = .ok (.aload_n 0, 1) := by decide +kernel
theorem dX0_keepIfBetter_31 : decode cX0_keepIfBetter 31 = .ok (.iload_n 2, 1) := by decide +kernel
theorem dX0_keepIfBetter_32 : decode cX0_keepIfBetter 32 = .ok (.putfield 122, 3) := by decide +kernel
theorem dX0_keepIfBetter_35 : decode cX0_keepIfBetter 35 = .ok (.return_, 1) := by decide +kernel

def isCourse (c : Nat) : Prop := sh c = some (.inl (0, [some (c + 1), some (c + 2), some (c + 3), some (c + 4), some (c + 5), some (c + 6), some (c + 7), some (c + 8), some (c + 9), some (c + 10), none, none])) ∧ sh (c + 1) = some (.inr (.inl (0, 8))) ∧ sh (c + 2) = some (.inr (.inl (0, 6))) ∧ sh (c + 3) = some (.inr (.inl (0, 70))) ∧ sh (c + 4) = some (.inr (.inl (2, 70))) ∧ sh (c + 5) = some (.inr (.inl (0, 70))) ∧ sh (c + 6) = some (.inr (.inl (0, 71))) ∧ sh (c + 7) = some (.inr (.inl (0, 71))) ∧ sh (c + 8) = some (.inr (.inl (0, 71))) ∧ sh (c + 9) = some (.inr (.inl (0, 71))) ∧ sh (c + 10) = some (.inr (.inl (2, 70)))
theorem isCourse_29 : isCourse 29 := ⟨rfl, rfl, rfl, rfl, rfl, rfl, rfl, rfl, rfl, rfl, rfl⟩
theorem isCourse_40 : isCourse 40 := ⟨rfl, rfl, rfl, rfl, rfl, rfl, rfl, rfl, rfl, rfl, rfl⟩
/-- the first n days have been lived -/
def Lived (σ : mS) (c : Nat) (p : sP) (n : Nat) : Prop := (∀ k, k < 8 → σ (c + 1) k = p.1 k) ∧ (∀ k, k < 70 → σ (c + 4) k = bI (p.2.2.1 k)) ∧ (∀ k, k ≤ n → σ (c + 6) k = sFit p k ∧ σ (c + 7) k = sTir p k ∧ σ (c + 8) k = sSum p k ∧ σ (c + 9) k = nI (sHl p k)) ∧ ∀ k, k < n → σ (c + 5) k = sLoad p k ∧ σ (c + 10) k = bI (sInj p k)
theorem Lived.mono {σ : mS} {c n k : Nat} {p : sP} (h : Lived σ c p n) (hk : k ≤ n) : Lived σ c p k := ⟨h.1, h.2.1, fun j hj => h.2.2.1 j (by omega), fun j hj => h.2.2.2 j (by omega)⟩
theorem Lived.congr {σ : mS} {c n : Nat} {p q : sP} (h : Lived σ c p n) (hq : sEq p q n) (hc : ∀ k, k < 70 → p.2.2.1 k = q.2.2.1 k) : Lived σ c q n := by
  refine ⟨fun k hk => by rw [h.1 k hk, hq.1 k hk], fun k hk => by rw [h.2.1 k hk, hc k hk], fun k hk => ?_, fun k hk => ?_⟩
  · obtain ⟨h1, h2, h3, h4⟩ := h.2.2.1 k hk
    have e := hq.mono hk
    exact ⟨by rw [h1, e.fit], by rw [h2, e.tir], by rw [h3, e.sum], by rw [h4, e.hl]⟩
  · obtain ⟨h1, h2⟩ := h.2.2.2 k hk
    exact ⟨by rw [h1, hq.load hk], by rw [h2, hq.inj hk]⟩
theorem nar_b (b : Bool) : vp_nar .boolean (bI b) = bI b := by cases b <;> rfl
theorem nar_1 : vp_nar .boolean (nI 1) = bI true := rfl
theorem nar_0 : vp_nar .boolean (nI 0) = bI false := rfl
theorem max0 {n m : Nat} (hn : n < 2 ^ 31) (hm : m < 2 ^ 31) : (if nI 0 < nI n - nI m then nI n - nI m else nI 0) = nI (n - m) := by
  by_cases h : m ≤ n
  · rw [nI_sub h]
    by_cases h0 : 0 < n - m
    · rw [if_pos (nI_lt h0 (by omega))]
    · rw [show n - m = 0 by omega, if_neg (fun z => Int32.lt_irrefl z)]
  · rw [if_neg, show n - m = 0 by omega]
    have e : nI m - nI n = nI (m - n) := nI_sub (by omega)
    have e2 : nI n - nI m = -(nI (m - n)) := by rw [← e]; exact (Int32.neg_sub ..).symm
    rw [e2, Int32.lt_iff_toInt_lt, Int32.toInt_neg, nI_toInt (by decide), nI_toInt (by omega)]
    have h2 : (-(((m - n : Nat) : Int))).bmod (2 ^ 32) = -((m - n : Nat) : Int) := by
      rw [Int.bmod_eq_of_le (by omega) (by omega)]
    rw [h2]
    omega
section CO
variable {G : mG} {d c : Nat} {σ : mS}
theorem v_decayed (v e : Int32) : mV G mX0_decayed d [.int v, .int e] σ (some (.int (v - v / e))) σ := by
  refine mV_of fun Q hQ => ?_
  refine F_iload_n dX0_decayed_0 rfl ?_
  refine F_if_ne (tgt := 8) dX0_decayed_1 rfl (fun c1 => ?_) (fun c1 => ?_)
  · refine F_iload_n dX0_decayed_8 rfl ?_
    refine F_iload_n dX0_decayed_9 rfl ?_
    refine F_iload_n dX0_decayed_10 rfl ?_
    refine F_idiv dX0_decayed_11 c1 ?_
    refine F_isub dX0_decayed_12 ?_
    refine F_iret dX0_decayed_13 rfl ?_
    first | exact hQ | (rw [c1, Int32.div_zero, Int32.sub_zero] at hQ; exact hQ)
  · refine F_iload_n dX0_decayed_4 rfl ?_
    refine F_goto (tgt := 13) dX0_decayed_5 rfl ?_
    refine F_iret dX0_decayed_13 rfl ?_
    first | exact hQ | (rw [c1, Int32.div_zero, Int32.sub_zero] at hQ; exact hQ)

theorem v_isHurt (hc : isCourse c) {n h : Nat} (hn : n < 70) (hh : σ (c + 9) n = nI h) (hb : h < 2 ^ 31) : mV G mX0_isHurt d [.ref c, .int (nI n)] σ (some (.int (bI (decide (n < h))))) σ := by
  obtain ⟨s0, s1, s2, s3, s4, s5, s6, s7, s8, s9, s10⟩ := hc
  refine mV_of fun Q hQ => ?_
  refine F_iload_n dX0_isHurt_0 rfl ?_
  refine F_aload_n dX0_isHurt_1 rfl ?_
  refine F_getr dX0_isHurt_2 rfl rfl (by first | assumption | rfl) rfl ?_
  refine F_iload_n dX0_isHurt_5 rfl ?_
  refine F_ialdE (v := nI h) dX0_isHurt_6 (by first | assumption | rfl) (by decide) (by omega) hh ?_
  refine F_icmp_geN (tgt := 14) dX0_isHurt_7 rfl (by omega) (by omega) (fun c7 => ?_) (fun c7 => ?_)
  · refine F_iconst (v := nI 0) dX0_isHurt_14 rfl ?_
    refine F_zret dX0_isHurt_15 rfl (by first | exact Or.inl rfl | exact Or.inr rfl | exact bI_01 _) ?_
    first | exact Qb1 hQ (decide_eq_true (by omega)) | exact Qb0 hQ (decide_eq_false (by omega))
  · refine F_iconst (v := nI 1) dX0_isHurt_10 rfl ?_
    refine F_goto (tgt := 15) dX0_isHurt_11 rfl ?_
    refine F_zret dX0_isHurt_15 rfl (by first | exact Or.inl rfl | exact Or.inr rfl | exact bI_01 _) ?_
    first | exact Qb1 hQ (decide_eq_true (by omega)) | exact Qb0 hQ (decide_eq_false (by omega))

theorem v_acute (hc : isCourse c) {n : Nat} (hn : n < 70) : mV G mX0_acute d [.ref c, .int (nI n)] σ (some (.int (σ (c + 8) (n + 1) - σ (c + 8) (n + 1 - 7)))) σ := by
  obtain ⟨s0, s1, s2, s3, s4, s5, s6, s7, s8, s9, s10⟩ := hc
  refine mV_of fun Q hQ => ?_
  refine F_aload_n dX0_acute_0 rfl ?_
  refine F_getr dX0_acute_1 rfl rfl (by first | assumption | rfl) rfl ?_
  refine F_iload_n dX0_acute_4 rfl ?_
  refine F_iconst (v := nI 1) dX0_acute_5 rfl ?_
  refine F_iaddN dX0_acute_6 ?_
  refine F_iald dX0_acute_7 (by first | assumption | rfl) (by decide) (by omega) ?_
  refine F_aload_n dX0_acute_8 rfl ?_
  refine F_getr dX0_acute_9 rfl rfl (by first | assumption | rfl) rfl ?_
  refine F_iconst (v := nI 0) dX0_acute_12 rfl ?_
  refine F_iload_n dX0_acute_13 rfl ?_
  refine F_iconst (v := nI 1) dX0_acute_14 rfl ?_
  refine F_iaddN dX0_acute_15 ?_
  refine F_bipush (v := nI 7) dX0_acute_16 rfl ?_
  refine F_isub dX0_acute_18 ?_
  refine F_max dX0_acute_19 rfl rfl (Nat.le_of_ble_eq_true rfl) ?_
  refine F_top (y := nI (n + 1 - 7)) (max0 (by omega) (by decide)) ?_
  refine F_iald dX0_acute_22 (by first | assumption | rfl) (by decide) (by omega) ?_
  refine F_isub dX0_acute_23 ?_
  refine F_iret dX0_acute_24 rfl ?_
  exact hQ

theorem v_chronic (hc : isCourse c) {n : Nat} (hn : n < 70) : mV G mX0_chronic d [.ref c, .int (nI n)] σ (some (.int (σ (c + 8) (n + 1) - σ (c + 8) (n + 1 - 28)))) σ := by
  obtain ⟨s0, s1, s2, s3, s4, s5, s6, s7, s8, s9, s10⟩ := hc
  refine mV_of fun Q hQ => ?_
  refine F_aload_n dX0_chronic_0 rfl ?_
  refine F_getr dX0_chronic_1 rfl rfl (by first | assumption | rfl) rfl ?_
  refine F_iload_n dX0_chronic_4 rfl ?_
  refine F_iconst (v := nI 1) dX0_chronic_5 rfl ?_
  refine F_iaddN dX0_chronic_6 ?_
  refine F_iald dX0_chronic_7 (by first | assumption | rfl) (by decide) (by omega) ?_
  refine F_aload_n dX0_chronic_8 rfl ?_
  refine F_getr dX0_chronic_9 rfl rfl (by first | assumption | rfl) rfl ?_
  refine F_iconst (v := nI 0) dX0_chronic_12 rfl ?_
  refine F_iload_n dX0_chronic_13 rfl ?_
  refine F_iconst (v := nI 1) dX0_chronic_14 rfl ?_
  refine F_iaddN dX0_chronic_15 ?_
  refine F_bipush (v := nI 28) dX0_chronic_16 rfl ?_
  refine F_isub dX0_chronic_18 ?_
  refine F_max dX0_chronic_19 rfl rfl (Nat.le_of_ble_eq_true rfl) ?_
  refine F_top (y := nI (n + 1 - 28)) (max0 (by omega) (by decide)) ?_
  refine F_iald dX0_chronic_22 (by first | assumption | rfl) (by decide) (by omega) ?_
  refine F_isub dX0_chronic_23 ?_
  refine F_iret dX0_chronic_24 rfl ?_
  exact hQ

theorem v_isTooMuch (hc : isCourse c) {n : Nat} (hn : n < 70) : mV G mX0_isTooMuch (d + 1) [.ref c, .int (nI n)] σ (some (.int (bI (decide (20 ≤ n) && decide (σ (c + 1) 4 * (σ (c + 8) (n + 1) - σ (c + 8) (n + 1 - 28)) < (σ (c + 8) (n + 1) - σ (c + 8) (n + 1 - 7)) * nI 400))))) σ := by
  obtain ⟨s0, s1, s2, s3, s4, s5, s6, s7, s8, s9, s10⟩ := hc
  refine mV_of fun Q hQ => ?_
  have hc : isCourse c := ⟨s0, s1, s2, s3, s4, s5, s6, s7, s8, s9, s10⟩
  refine F_iload_n dX0_isTooMuch_0 rfl ?_
  refine F_bipush (v := nI 20) dX0_isTooMuch_1 rfl ?_
  refine F_icmp_ltN (tgt := 34) dX0_isTooMuch_3 rfl (by omega) (by omega) (fun c3 => ?_) (fun c3 => ?_)
  · refine F_iconst (v := nI 0) dX0_isTooMuch_34 rfl ?_
    refine F_zret dX0_isTooMuch_35 rfl (by first | exact Or.inl rfl | exact Or.inr rfl | exact bI_01 _) ?_
    clear s0 s1 s2 s3 s4 s5 s6 s7 s8 s9 s10
    first | exact Qb0 hQ (by rw [decide_eq_false (show ¬ 20 ≤ n by omega)]; rfl) | exact Qb0 hQ (by rw [decide_eq_false (Int32.not_lt.mpr c27), Bool.and_false]) | exact Qb1 hQ (by rw [decide_eq_true (show 20 ≤ n by omega), decide_eq_true (Int32.not_le.mp c27)]; rfl)
  · refine F_aload_n dX0_isTooMuch_6 rfl ?_
    refine F_iload_n dX0_isTooMuch_7 rfl ?_
    refine F_cV1i (v_acute (d := d) hc hn) dX0_isTooMuch_8 rfl rfl (by decide) (by first | assumption | rfl) rfl rfl rfl (by decide) (Nat.le_of_ble_eq_true rfl) (by omega) ?_
    refine F_sipush (v := nI 400) dX0_isTooMuch_11 rfl ?_
    refine F_imul dX0_isTooMuch_14 ?_
    refine F_aload_n dX0_isTooMuch_15 rfl ?_
    refine F_getr dX0_isTooMuch_16 rfl rfl (by first | assumption | rfl) rfl ?_
    refine F_iconst (v := nI 4) dX0_isTooMuch_19 rfl ?_
    refine F_iald dX0_isTooMuch_20 (by first | assumption | rfl) (by decide) (by omega) ?_
    refine F_aload_n dX0_isTooMuch_21 rfl ?_
    refine F_iload_n dX0_isTooMuch_22 rfl ?_
    refine F_cV1i (v_chronic (d := d) hc hn) dX0_isTooMuch_23 rfl rfl (by decide) (by first | assumption | rfl) rfl rfl rfl (by decide) (Nat.le_of_ble_eq_true rfl) (by omega) ?_
    refine F_imul dX0_isTooMuch_26 ?_
    refine F_icmp_le (tgt := 34) dX0_isTooMuch_27 rfl (fun c27 => ?_) (fun c27 => ?_)
    · refine F_iconst (v := nI 0) dX0_isTooMuch_34 rfl ?_
      refine F_zret dX0_isTooMuch_35 rfl (by first | exact Or.inl rfl | exact Or.inr rfl | exact bI_01 _) ?_
      clear s0 s1 s2 s3 s4 s5 s6 s7 s8 s9 s10
      first | exact Qb0 hQ (by rw [decide_eq_false (show ¬ 20 ≤ n by omega)]; rfl) | exact Qb0 hQ (by rw [decide_eq_false (Int32.not_lt.mpr c27), Bool.and_false]) | exact Qb1 hQ (by rw [decide_eq_true (show 20 ≤ n by omega), decide_eq_true (Int32.not_le.mp c27)]; rfl)
    · refine F_iconst (v := nI 1) dX0_isTooMuch_30 rfl ?_
      refine F_goto (tgt := 35) dX0_isTooMuch_31 rfl ?_
      refine F_zret dX0_isTooMuch_35 rfl (by first | exact Or.inl rfl | exact Or.inr rfl | exact bI_01 _) ?_
      clear s0 s1 s2 s3 s4 s5 s6 s7 s8 s9 s10
      first | exact Qb0 hQ (by rw [decide_eq_false (show ¬ 20 ≤ n by omega)]; rfl) | exact Qb0 hQ (by rw [decide_eq_false (Int32.not_lt.mpr c27), Bool.and_false]) | exact Qb1 hQ (by rw [decide_eq_true (show 20 ≤ n by omega), decide_eq_true (Int32.not_le.mp c27)]; rfl)

theorem v_formOf (hc : isCourse c) {n : Nat} (hn : n < 70) : mV G mX0_formOf d [.ref c, .int (nI n)] σ (some (.int (σ (c + 1) 2 * σ (c + 6) (n + 1) - σ (c + 1) 3 * σ (c + 7) (n + 1)))) σ := by
  obtain ⟨s0, s1, s2, s3, s4, s5, s6, s7, s8, s9, s10⟩ := hc
  refine mV_of fun Q hQ => ?_
  refine F_aload_n dX0_formOf_0 rfl ?_
  refine F_getr dX0_formOf_1 rfl rfl (by first | assumption | rfl) rfl ?_
  refine F_iconst (v := nI 2) dX0_formOf_4 rfl ?_
  refine F_iald dX0_formOf_5 (by first | assumption | rfl) (by decide) (by omega) ?_
  refine F_aload_n dX0_formOf_6 rfl ?_
  refine F_getr dX0_formOf_7 rfl rfl (by first | assumption | rfl) rfl ?_
  refine F_iload_n dX0_formOf_10 rfl ?_
  refine F_iconst (v := nI 1) dX0_formOf_11 rfl ?_
  refine F_iaddN dX0_formOf_12 ?_
  refine F_iald dX0_formOf_13 (by first | assumption | rfl) (by decide) (by omega) ?_
  refine F_imul dX0_formOf_14 ?_
  refine F_aload_n dX0_formOf_15 rfl ?_
  refine F_getr dX0_formOf_16 rfl rfl (by first | assumption | rfl) rfl ?_
  refine F_iconst (v := nI 3) dX0_formOf_19 rfl ?_
  refine F_iald dX0_formOf_20 (by first | assumption | rfl) (by decide) (by omega) ?_
  refine F_aload_n dX0_formOf_21 rfl ?_
  refine F_getr dX0_formOf_22 rfl rfl (by first | assumption | rfl) rfl ?_
  refine F_iload_n dX0_formOf_25 rfl ?_
  refine F_iconst (v := nI 1) dX0_formOf_26 rfl ?_
  refine F_iaddN dX0_formOf_27 ?_
  refine F_iald dX0_formOf_28 (by first | assumption | rfl) (by decide) (by omega) ?_
  refine F_imul dX0_formOf_29 ?_
  refine F_isub dX0_formOf_30 ?_
  refine F_iret dX0_formOf_31 rfl ?_
  exact hQ

theorem v_held (hc : isCourse c) {n : Nat} (hn : n < 70) (x : Int32) {b : Bool} (hb : σ (c + 4) n = bI b) : mV G mX0_held d [.ref c, .int (nI n), .int x] σ (some (.int (if σ (c + 1) 6 - (σ (c + 8) n - σ (c + 8) (n - n % 7)) < (if b = true then x * σ (c + 1) 7 / nI 100 else x) then σ (c + 1) 6 - (σ (c + 8) n - σ (c + 8) (n - n % 7)) else (if b = true then x * σ (c + 1) 7 / nI 100 else x)))) σ := by
  obtain ⟨s0, s1, s2, s3, s4, s5, s6, s7, s8, s9, s10⟩ := hc
  refine mV_of fun Q hQ => ?_
  refine F_aload_n dX0_held_0 rfl ?_
  refine F_getr dX0_held_1 rfl rfl (by first | assumption | rfl) rfl ?_
  refine F_iload_n dX0_held_4 rfl ?_
  refine F_zaldE (v := bI b) dX0_held_5 (by first | assumption | rfl) (by decide) (by omega) hb ?_
  refine F_if_eqB (tgt := 24) dX0_held_6 rfl (fun c6 => ?_) (fun c6 => ?_)
  · refine F_iload_n dX0_held_24 rfl ?_
    refine F_istore_n dX0_held_25 (Nat.le_of_ble_eq_true rfl) ?_
    refine F_aload_n dX0_held_26 rfl ?_
    refine F_getr dX0_held_27 rfl rfl (by first | assumption | rfl) rfl ?_
    refine F_iload_n dX0_held_30 rfl ?_
    refine F_iald dX0_held_31 (by first | assumption | rfl) (by decide) (by omega) ?_
    refine F_aload_n dX0_held_32 rfl ?_
    refine F_getr dX0_held_33 rfl rfl (by first | assumption | rfl) rfl ?_
    refine F_iload_n dX0_held_36 rfl ?_
    refine F_iload_n dX0_held_37 rfl ?_
    refine F_bipush (v := nI 7) dX0_held_38 rfl ?_
    refine F_irem dX0_held_40 (by decide) ?_
    refine F_top (nI_rem (by omega) (by decide)) ?_
    refine F_isubN dX0_held_41 (Nat.mod_le n 7) ?_
    refine F_iald dX0_held_42 (by first | assumption | rfl) (by decide) (by have := Nat.sub_le n (n % 7); omega) ?_
    refine F_isub dX0_held_43 ?_
    refine F_istore dX0_held_44 (Nat.le_of_ble_eq_true rfl) ?_
    refine F_iload_n dX0_held_46 rfl ?_
    refine F_aload_n dX0_held_47 rfl ?_
    refine F_getr dX0_held_48 rfl rfl (by first | assumption | rfl) rfl ?_
    refine F_bipush (v := nI 6) dX0_held_51 rfl ?_
    refine F_iald dX0_held_53 (by first | assumption | rfl) (by decide) (by omega) ?_
    refine F_iload dX0_held_54 rfl ?_
    refine F_isub dX0_held_56 ?_
    refine F_min dX0_held_57 rfl rfl (Nat.le_of_ble_eq_true rfl) ?_
    refine F_iret dX0_held_60 rfl ?_
    clear s0 s1 s2 s3 s4 s5 s6 s7 s8 s9 s10
    subst c6
    exact hQ
  · refine F_iload_n dX0_held_9 rfl ?_
    refine F_aload_n dX0_held_10 rfl ?_
    refine F_getr dX0_held_11 rfl rfl (by first | assumption | rfl) rfl ?_
    refine F_bipush (v := nI 7) dX0_held_14 rfl ?_
    refine F_iald dX0_held_16 (by first | assumption | rfl) (by decide) (by omega) ?_
    refine F_imul dX0_held_17 ?_
    refine F_bipush (v := nI 100) dX0_held_18 rfl ?_
    refine F_idiv dX0_held_20 (by decide) ?_
    refine F_goto (tgt := 25) dX0_held_21 rfl ?_
    refine F_istore_n dX0_held_25 (Nat.le_of_ble_eq_true rfl) ?_
    refine F_aload_n dX0_held_26 rfl ?_
    refine F_getr dX0_held_27 rfl rfl (by first | assumption | rfl) rfl ?_
    refine F_iload_n dX0_held_30 rfl ?_
    refine F_iald dX0_held_31 (by first | assumption | rfl) (by decide) (by omega) ?_
    refine F_aload_n dX0_held_32 rfl ?_
    refine F_getr dX0_held_33 rfl rfl (by first | assumption | rfl) rfl ?_
    refine F_iload_n dX0_held_36 rfl ?_
    refine F_iload_n dX0_held_37 rfl ?_
    refine F_bipush (v := nI 7) dX0_held_38 rfl ?_
    refine F_irem dX0_held_40 (by decide) ?_
    refine F_top (nI_rem (by omega) (by decide)) ?_
    refine F_isubN dX0_held_41 (Nat.mod_le n 7) ?_
    refine F_iald dX0_held_42 (by first | assumption | rfl) (by decide) (by have := Nat.sub_le n (n % 7); omega) ?_
    refine F_isub dX0_held_43 ?_
    refine F_istore dX0_held_44 (Nat.le_of_ble_eq_true rfl) ?_
    refine F_iload_n dX0_held_46 rfl ?_
    refine F_aload_n dX0_held_47 rfl ?_
    refine F_getr dX0_held_48 rfl rfl (by first | assumption | rfl) rfl ?_
    refine F_bipush (v := nI 6) dX0_held_51 rfl ?_
    refine F_iald dX0_held_53 (by first | assumption | rfl) (by decide) (by omega) ?_
    refine F_iload dX0_held_54 rfl ?_
    refine F_isub dX0_held_56 ?_
    refine F_min dX0_held_57 rfl rfl (Nat.le_of_ble_eq_true rfl) ?_
    refine F_iret dX0_held_60 rfl ?_
    clear s0 s1 s2 s3 s4 s5 s6 s7 s8 s9 s10
    subst c6
    exact hQ

/-- the memory behind one more day -/
def livS (σ : mS) (c n : Nat) (p : sP) : mS := up (up (up (up (up (up σ (c + 5) n (sLoad p n)) (c + 8) (n + 1) (sSum p (n + 1))) (c + 6) (n + 1) (sFit p (n + 1))) (c + 7) (n + 1) (sTir p (n + 1))) (c + 10) n (bI (sInj p n))) (c + 9) (n + 1) (nI (sHl p (n + 1)))
theorem livS_far (σ : mS) {c n a : Nat} (p : sP) (h : a < c + 5 ∨ c + 10 < a) : livS σ c n p a = σ a := by
  simp only [livS]
  rw [up_n _ _ _ (by omega), up_n _ _ _ (by omega), up_n _ _ _ (by omega), up_n _ _ _ (by omega), up_n _ _ _ (by omega), up_n _ _ _ (by omega)]
theorem Lived.next {p : sP} {n : Nat} (h : Lived σ c p n) : Lived (livS σ c n p) c p (n + 1) := by
  have r5 : livS σ c n p (c + 5) = upd (σ (c + 5)) n (sLoad p n) := by
    simp only [livS]
    rw [up_n _ _ _ (by omega), up_n _ _ _ (by omega), up_n _ _ _ (by omega), up_n _ _ _ (by omega), up_n _ _ _ (by omega)]
    simp [up, upR]
  have r8 : livS σ c n p (c + 8) = upd (σ (c + 8)) (n + 1) (sSum p (n + 1)) := by
    simp only [livS]
    rw [up_n _ _ _ (by omega), up_n _ _ _ (by omega), up_n _ _ _ (by omega), up_n _ _ _ (by omega)]
    simp [up, upR]
  have r6 : livS σ c n p (c + 6) = upd (σ (c + 6)) (n + 1) (sFit p (n + 1)) := by
    simp only [livS]
    rw [up_n _ _ _ (by omega), up_n _ _ _ (by omega), up_n _ _ _ (by omega)]
    simp [up, upR]
  have r7 : livS σ c n p (c + 7) = upd (σ (c + 7)) (n + 1) (sTir p (n + 1)) := by
    simp only [livS]
    rw [up_n _ _ _ (by omega), up_n _ _ _ (by omega)]
    simp [up, upR]
  have r10 : livS σ c n p (c + 10) = upd (σ (c + 10)) n (bI (sInj p n)) := by
    simp only [livS]
    rw [up_n _ _ _ (by omega)]
    simp [up, upR]
  have r9 : livS σ c n p (c + 9) = upd (σ (c + 9)) (n + 1) (nI (sHl p (n + 1))) := by
    simp [livS, up, upR]
  refine ⟨fun k hk => by rw [livS_far _ _ (by omega)]; exact h.1 k hk, fun k hk => by rw [livS_far _ _ (by omega)]; exact h.2.1 k hk, fun k hk => ?_, fun k hk => ?_⟩
  · rw [r6, r7, r8, r9]
    by_cases h1 : k = n + 1
    · subst h1; simp [upd]
    · obtain ⟨a1, a2, a3, a4⟩ := h.2.2.1 k (by omega)
      simp only [upd, if_neg h1]
      exact ⟨a1, a2, a3, a4⟩
  · rw [r5, r10]
    by_cases h1 : k = n
    · subst h1; simp [upd]
    · obtain ⟨a1, a2⟩ := h.2.2.2 k (by omega)
      simp only [upd, if_neg h1]
      exact ⟨a1, a2⟩
theorem l_live160 (hc : isCourse c) {n : Nat} {p : sP} (hn : n < 70) (hL : Lived σ c p n) (hs : sOk p.1) {Q : Option Value → mS → Prop} (hQ : Q none (livS σ c n p)) : mF G mX0_liveDay (d + 2) 160 [some (.ref c), some (.int (nI n)), some (.int (p.2.1 n)), some (.int (sLoad p n))] [.int (nI (sHl p (n + 1))), .int (nI (n + 1)), .ref (c + 9)] (up (up (up (up (up σ (c + 5) n (sLoad p n)) (c + 8) (n + 1) (sSum p (n + 1))) (c + 6) (n + 1) (sFit p (n + 1))) (c + 7) (n + 1) (sTir p (n + 1))) (c + 10) n (bI (sInj p n))) Q := by
  obtain ⟨s0, s1, s2, s3, s4, s5, s6, s7, s8, s9, s10⟩ := hc
  refine F_iast dX0_liveDay_160 (by first | assumption | rfl) (by decide) (by omega) ?_
  refine F_vret dX0_liveDay_161 rfl ?_
  exact hQ

theorem l_live125 (hc : isCourse c) {n : Nat} {p : sP} (hn : n < 70) (hL : Lived σ c p n) (hs : sOk p.1) {Q : Option Value → mS → Prop} (hQ : Q none (livS σ c n p)) : mF G mX0_liveDay (d + 2) 125 [some (.ref c), some (.int (nI n)), some (.int (p.2.1 n)), some (.int (sLoad p n))] [] (up (up (up (up (up σ (c + 5) n (sLoad p n)) (c + 8) (n + 1) (sSum p (n + 1))) (c + 6) (n + 1) (sFit p (n + 1))) (c + 7) (n + 1) (sTir p (n + 1))) (c + 10) n (bI (sInj p n))) Q := by
  have h160 := l_live160 (G := G) (d := d) hc hn hL hs hQ
  obtain ⟨hv, h1, h14, eh⟩ := sOk_n hs (k := 5) (a := 1) (b := 14) (by omega) (by decide +kernel) (by decide +kernel) (by decide) (by decide)
  obtain ⟨s0, s1, s2, s3, s4, s5, s6, s7, s8, s9, s10⟩ := hc
  refine F_aload_n dX0_liveDay_125 rfl ?_
  refine F_getr dX0_liveDay_126 rfl rfl (by first | assumption | rfl) rfl ?_
  refine F_iload_n dX0_liveDay_129 rfl ?_
  refine F_iconst (v := nI 1) dX0_liveDay_130 rfl ?_
  refine F_iaddN dX0_liveDay_131 ?_
  refine F_aload_n dX0_liveDay_132 rfl ?_
  refine F_getr dX0_liveDay_133 rfl rfl (by first | assumption | rfl) rfl ?_
  refine F_iload_n dX0_liveDay_136 rfl ?_
  refine F_zaldE (v := bI (sInj p n)) dX0_liveDay_137 (by first | assumption | rfl) (by decide) (by omega) (up_s _ _ _ _) ?_
  refine F_if_eqB (tgt := 154) dX0_liveDay_138 rfl (fun c138 => ?_) (fun c138 => ?_)
  · refine F_aload_n dX0_liveDay_154 rfl ?_
    refine F_getr dX0_liveDay_155 rfl rfl (by first | assumption | rfl) rfl ?_
    refine F_iload_n dX0_liveDay_158 rfl ?_
    refine F_ialdE (v := nI (sHl p n)) dX0_liveDay_159 (by first | assumption | rfl) (by decide) (by omega) (by rw [up_n _ _ _ (by omega), up_n _ _ _ (by omega), up_n _ _ _ (by omega), up_n _ _ _ (by omega), up_n _ _ _ (by omega)]; exact (hL.2.2.1 n (Nat.le_refl n)).2.2.2) ?_
    refine F_top (y := nI (sHl p (n + 1))) ?_ h160
    rw [sHl_s]
    first
      | (rw [if_pos c138, eh, nI_clamp (by omega)])
      | (rw [if_neg (by rw [c138]; decide)])
  · refine F_iload_n dX0_liveDay_141 rfl ?_
    refine F_iconst (v := nI 1) dX0_liveDay_142 rfl ?_
    refine F_iaddN dX0_liveDay_143 ?_
    refine F_aload_n dX0_liveDay_144 rfl ?_
    refine F_getr dX0_liveDay_145 rfl rfl (by first | assumption | rfl) rfl ?_
    refine F_iconst (v := nI 5) dX0_liveDay_148 rfl ?_
    refine F_ialdE (v := nI hv) dX0_liveDay_149 (by first | assumption | rfl) (by decide) (by omega) (by rw [up_n _ _ _ (by omega), up_n _ _ _ (by omega), up_n _ _ _ (by omega), up_n _ _ _ (by omega), up_n _ _ _ (by omega), hL.1 5 (by omega)]; exact eh) ?_
    refine F_iaddN dX0_liveDay_150 ?_
    refine F_goto (tgt := 160) dX0_liveDay_151 rfl ?_
    refine F_top (y := nI (sHl p (n + 1))) ?_ h160
    rw [sHl_s]
    first
      | (rw [if_pos c138, eh, nI_clamp (by omega)])
      | (rw [if_neg (by rw [c138]; decide)])

theorem l_live124 (hc : isCourse c) {n : Nat} {p : sP} (hn : n < 70) (hL : Lived σ c p n) (hs : sOk p.1) {Q : Option Value → mS → Prop} (hQ : Q none (livS σ c n p)) : mF G mX0_liveDay (d + 2) 124 [some (.ref c), some (.int (nI n)), some (.int (p.2.1 n)), some (.int (sLoad p n))] [.int (bI (sInj p n)), .int (nI n), .ref (c + 10)] (up (up (up (up σ (c + 5) n (sLoad p n)) (c + 8) (n + 1) (sSum p (n + 1))) (c + 6) (n + 1) (sFit p (n + 1))) (c + 7) (n + 1) (sTir p (n + 1))) Q := by
  have h125 := l_live125 (G := G) (d := d) hc hn hL hs hQ
  obtain ⟨s0, s1, s2, s3, s4, s5, s6, s7, s8, s9, s10⟩ := hc
  refine F_zast dX0_liveDay_124 (by first | assumption | rfl) (by decide) (by omega) ?_
  rw [nar_b]
  exact h125

theorem l_live18 (hc : isCourse c) {n : Nat} {p : sP} (hn : n < 70) (hL : Lived σ c p n) (hs : sOk p.1) {Q : Option Value → mS → Prop} (hQ : Q none (livS σ c n p)) : mF G mX0_liveDay (d + 2) 18 [some (.ref c), some (.int (nI n)), some (.int (p.2.1 n)), none] [.int (sLoad p n)] σ Q := by
  have h124 := l_live124 (G := G) (d := d) hc hn hL hs hQ
  obtain ⟨e6, e7, e8, e9⟩ := hL.2.2.1 n (Nat.le_refl n)
  have hhl := sHl_le p hs n
  have u9 : (up (up (up (up σ (c + 5) n (sLoad p n)) (c + 8) (n + 1) (sSum p (n + 1))) (c + 6) (n + 1) (sFit p (n + 1))) (c + 7) (n + 1) (sTir p (n + 1))) (c + 9) n = nI (sHl p n) := by rw [up_n _ _ _ (by omega), up_n _ _ _ (by omega), up_n _ _ _ (by omega), up_n _ _ _ (by omega)]; exact e9
  have u1 : ∀ k, k < 8 → (up (up (up (up σ (c + 5) n (sLoad p n)) (c + 8) (n + 1) (sSum p (n + 1))) (c + 6) (n + 1) (sFit p (n + 1))) (c + 7) (n + 1) (sTir p (n + 1))) (c + 1) k = p.1 k := fun k hk => by rw [up_n _ _ _ (by omega), up_n _ _ _ (by omega), up_n _ _ _ (by omega), up_n _ _ _ (by omega)]; exact hL.1 k hk
  have u8 : ∀ k, k ≤ n + 1 → (up (up (up (up σ (c + 5) n (sLoad p n)) (c + 8) (n + 1) (sSum p (n + 1))) (c + 6) (n + 1) (sFit p (n + 1))) (c + 7) (n + 1) (sTir p (n + 1))) (c + 8) k = sSum p k := fun k hk => by
    rw [up_n _ _ _ (by omega), up_n _ _ _ (by omega)]
    by_cases h1 : k = n + 1
    · subst h1; exact up_s _ _ _ _
    · rw [up_r _ _ _ h1, up_n _ _ _ (by omega)]; exact (hL.2.2.1 k (by omega)).2.2.1
  have hc0 := hc
  obtain ⟨s0, s1, s2, s3, s4, s5, s6, s7, s8, s9, s10⟩ := hc
  refine F_istore_n dX0_liveDay_18 (Nat.le_of_ble_eq_true rfl) ?_
  refine F_aload_n dX0_liveDay_19 rfl ?_
  refine F_getr dX0_liveDay_20 rfl rfl (by first | assumption | rfl) rfl ?_
  refine F_iload_n dX0_liveDay_23 rfl ?_
  refine F_iload_n dX0_liveDay_24 rfl ?_
  refine F_iast dX0_liveDay_25 (by first | assumption | rfl) (by decide) (by omega) ?_
  refine F_aload_n dX0_liveDay_26 rfl ?_
  refine F_getr dX0_liveDay_27 rfl rfl (by first | assumption | rfl) rfl ?_
  refine F_iload_n dX0_liveDay_30 rfl ?_
  refine F_iconst (v := nI 1) dX0_liveDay_31 rfl ?_
  refine F_iaddN dX0_liveDay_32 ?_
  refine F_aload_n dX0_liveDay_33 rfl ?_
  refine F_getr dX0_liveDay_34 rfl rfl (by first | assumption | rfl) rfl ?_
  refine F_iload_n dX0_liveDay_37 rfl ?_
  refine F_ialdE (v := sSum p n) dX0_liveDay_38 (by first | assumption | rfl) (by decide) (by omega) (by rw [up_n _ _ _ (by omega)]; exact e8) ?_
  refine F_iload_n dX0_liveDay_39 rfl ?_
  refine F_iadd dX0_liveDay_40 ?_
  refine F_top (sSum_s p n).symm ?_
  refine F_iast dX0_liveDay_41 (by first | assumption | rfl) (by decide) (by omega) ?_
  refine F_aload_n dX0_liveDay_42 rfl ?_
  refine F_getr dX0_liveDay_43 rfl rfl (by first | assumption | rfl) rfl ?_
  refine F_iload_n dX0_liveDay_46 rfl ?_
  refine F_iconst (v := nI 1) dX0_liveDay_47 rfl ?_
  refine F_iaddN dX0_liveDay_48 ?_
  refine F_aload_n dX0_liveDay_49 rfl ?_
  refine F_getr dX0_liveDay_50 rfl rfl (by first | assumption | rfl) rfl ?_
  refine F_iload_n dX0_liveDay_53 rfl ?_
  refine F_ialdE (v := sFit p n) dX0_liveDay_54 (by first | assumption | rfl) (by decide) (by omega) (by rw [up_n _ _ _ (by omega), up_n _ _ _ (by omega)]; exact e6) ?_
  refine F_aload_n dX0_liveDay_55 rfl ?_
  refine F_getr dX0_liveDay_56 rfl rfl (by first | assumption | rfl) rfl ?_
  refine F_iconst (v := nI 0) dX0_liveDay_59 rfl ?_
  refine F_ialdE (v := p.1 0) dX0_liveDay_60 (by first | assumption | rfl) (by decide) (by omega) (by rw [up_n _ _ _ (by omega), up_n _ _ _ (by omega)]; exact hL.1 0 (by omega)) ?_
  refine F_cS2i (v_decayed (d := d) _ _) dX0_liveDay_61 rfl rfl rfl (by decide) (Nat.le_of_ble_eq_true rfl) (by omega) ?_
  refine F_bipush (v := nI 10) dX0_liveDay_64 rfl ?_
  refine F_iload_n dX0_liveDay_66 rfl ?_
  refine F_imul dX0_liveDay_67 ?_
  refine F_iadd dX0_liveDay_68 ?_
  refine F_top (sFit_s p n).symm ?_
  refine F_iast dX0_liveDay_69 (by first | assumption | rfl) (by decide) (by omega) ?_
  refine F_aload_n dX0_liveDay_70 rfl ?_
  refine F_getr dX0_liveDay_71 rfl rfl (by first | assumption | rfl) rfl ?_
  refine F_iload_n dX0_liveDay_74 rfl ?_
  refine F_iconst (v := nI 1) dX0_liveDay_75 rfl ?_
  refine F_iaddN dX0_liveDay_76 ?_
  refine F_aload_n dX0_liveDay_77 rfl ?_
  refine F_getr dX0_liveDay_78 rfl rfl (by first | assumption | rfl) rfl ?_
  refine F_iload_n dX0_liveDay_81 rfl ?_
  refine F_ialdE (v := sTir p n) dX0_liveDay_82 (by first | assumption | rfl) (by decide) (by omega) (by rw [up_n _ _ _ (by omega), up_n _ _ _ (by omega), up_n _ _ _ (by omega)]; exact e7) ?_
  refine F_aload_n dX0_liveDay_83 rfl ?_
  refine F_getr dX0_liveDay_84 rfl rfl (by first | assumption | rfl) rfl ?_
  refine F_iconst (v := nI 1) dX0_liveDay_87 rfl ?_
  refine F_ialdE (v := p.1 1) dX0_liveDay_88 (by first | assumption | rfl) (by decide) (by omega) (by rw [up_n _ _ _ (by omega), up_n _ _ _ (by omega), up_n _ _ _ (by omega)]; exact hL.1 1 (by omega)) ?_
  refine F_cS2i (v_decayed (d := d) _ _) dX0_liveDay_89 rfl rfl rfl (by decide) (Nat.le_of_ble_eq_true rfl) (by omega) ?_
  refine F_bipush (v := nI 10) dX0_liveDay_92 rfl ?_
  refine F_iload_n dX0_liveDay_94 rfl ?_
  refine F_imul dX0_liveDay_95 ?_
  refine F_iadd dX0_liveDay_96 ?_
  refine F_top (sTir_s p n).symm ?_
  refine F_iast dX0_liveDay_97 (by first | assumption | rfl) (by decide) (by omega) ?_
  refine F_aload_n dX0_liveDay_98 rfl ?_
  refine F_getr dX0_liveDay_99 rfl rfl (by first | assumption | rfl) rfl ?_
  refine F_iload_n dX0_liveDay_102 rfl ?_
  refine F_aload_n dX0_liveDay_103 rfl ?_
  refine F_iload_n dX0_liveDay_104 rfl ?_
  refine F_cV1i (v_isHurt (d := d) hc0 hn u9 (by omega)) dX0_liveDay_105 rfl rfl (by decide) (by first | assumption | rfl) rfl rfl rfl (by decide) (Nat.le_of_ble_eq_true rfl) (by omega) ?_
  refine F_if_neB (tgt := 123) dX0_liveDay_108 rfl (fun c108 => ?_) (fun c108 => ?_)
  · refine F_iconst (v := nI 0) dX0_liveDay_123 rfl ?_
    refine F_top (y := bI (sInj p n)) ?_ h124
    have e : sInj p n = (!decide (n < sHl p n) && (decide (20 ≤ n) && decide (p.1 4 * (sSum p (n + 1) - sSum p (n + 1 - 28)) < (sSum p (n + 1) - sSum p (n + 1 - 7)) * nI 400))) := by simp only [sInj, sIj, Bool.and_assoc]
    rw [e, c108]
    first
      | (rw [u1 4 (by omega), u8 (n + 1) (by omega), u8 (n + 1 - 28) (by omega), u8 (n + 1 - 7) (by omega)] at c116
         rw [c116]
         rfl)
      | rfl
  · refine F_aload_n dX0_liveDay_111 rfl ?_
    refine F_iload_n dX0_liveDay_112 rfl ?_
    refine F_cV1i (v_isTooMuch (d := d) hc0 hn) dX0_liveDay_113 rfl rfl (by decide) (by first | assumption | rfl) rfl rfl rfl (by decide) (Nat.le_of_ble_eq_true rfl) (by omega) ?_
    refine F_if_eqB (tgt := 123) dX0_liveDay_116 rfl (fun c116 => ?_) (fun c116 => ?_)
    · refine F_iconst (v := nI 0) dX0_liveDay_123 rfl ?_
      refine F_top (y := bI (sInj p n)) ?_ h124
      have e : sInj p n = (!decide (n < sHl p n) && (decide (20 ≤ n) && decide (p.1 4 * (sSum p (n + 1) - sSum p (n + 1 - 28)) < (sSum p (n + 1) - sSum p (n + 1 - 7)) * nI 400))) := by simp only [sInj, sIj, Bool.and_assoc]
      rw [e, c108]
      first
        | (rw [u1 4 (by omega), u8 (n + 1) (by omega), u8 (n + 1 - 28) (by omega), u8 (n + 1 - 7) (by omega)] at c116
           rw [c116]
           rfl)
        | rfl
    · refine F_iconst (v := nI 1) dX0_liveDay_119 rfl ?_
      refine F_goto (tgt := 124) dX0_liveDay_120 rfl ?_
      refine F_top (y := bI (sInj p n)) ?_ h124
      have e : sInj p n = (!decide (n < sHl p n) && (decide (20 ≤ n) && decide (p.1 4 * (sSum p (n + 1) - sSum p (n + 1 - 28)) < (sSum p (n + 1) - sSum p (n + 1 - 7)) * nI 400))) := by simp only [sInj, sIj, Bool.and_assoc]
      rw [e, c108]
      first
        | (rw [u1 4 (by omega), u8 (n + 1) (by omega), u8 (n + 1 - 28) (by omega), u8 (n + 1 - 7) (by omega)] at c116
           rw [c116]
           rfl)
        | rfl

theorem v_liveDay (hc : isCourse c) {n : Nat} {p : sP} (hn : n < 70) (hL : Lived σ c p n) (hs : sOk p.1) : mV G mX0_liveDay (d + 2) [.ref c, .int (nI n), .int (p.2.1 n)] σ none (livS σ c n p) := by
  obtain ⟨s0, s1, s2, s3, s4, s5, s6, s7, s8, s9, s10⟩ := hc
  refine mV_of fun Q hQ => ?_
  have hc : isCourse c := ⟨s0, s1, s2, s3, s4, s5, s6, s7, s8, s9, s10⟩
  have h18 := l_live18 (G := G) (d := d) hc hn hL hs hQ
  have e9 := (hL.2.2.1 n (Nat.le_refl n)).2.2.2
  have hhl := sHl_le p hs n
  refine F_aload_n dX0_liveDay_0 rfl ?_
  refine F_iload_n dX0_liveDay_1 rfl ?_
  refine F_cV1i (v_isHurt (d := d) hc hn e9 (by omega)) dX0_liveDay_2 rfl rfl (by decide) (by first | assumption | rfl) rfl rfl rfl (by decide) (Nat.le_of_ble_eq_true rfl) (by omega) ?_
  refine F_if_eqB (tgt := 12) dX0_liveDay_5 rfl (fun c5 => ?_) (fun c5 => ?_)
  · refine F_aload_n dX0_liveDay_12 rfl ?_
    refine F_iload_n dX0_liveDay_13 rfl ?_
    refine F_iload_n dX0_liveDay_14 rfl ?_
    refine F_cV2i (v_held (d := d) hc hn _ (hL.2.1 n hn)) dX0_liveDay_15 rfl rfl (by decide) (by first | assumption | rfl) rfl rfl rfl (by decide) (Nat.le_of_ble_eq_true rfl) (by omega) ?_
    refine F_top (y := sLoad p n) ?_ h18
    simp only [sLoad, sLd]
    first
      | rw [if_pos (of_decide_eq_true c5)]
      | (rw [if_neg (of_decide_eq_false c5), hL.1 6 (by omega), hL.1 7 (by omega), (hL.2.2.1 n (Nat.le_refl n)).2.2.1, (hL.2.2.1 (n - n % 7) (Nat.sub_le _ _)).2.2.1])
  · refine F_iconst (v := nI 0) dX0_liveDay_8 rfl ?_
    refine F_goto (tgt := 18) dX0_liveDay_9 rfl ?_
    refine F_top (y := sLoad p n) ?_ h18
    simp only [sLoad, sLd]
    first
      | rw [if_pos (of_decide_eq_true c5)]
      | (rw [if_neg (of_decide_eq_false c5), hL.1 6 (by omega), hL.1 7 (by omega), (hL.2.2.1 n (Nat.le_refl n)).2.2.1, (hL.2.2.1 (n - n % 7) (Nat.sub_le _ _)).2.2.1])

end CO
