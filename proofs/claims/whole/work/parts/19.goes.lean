/-! ===== the reference: day by day ===== -/
theorem dX5_isCamp_0 : decode cX5_isCamp 0 = .ok (.iconst 0, 1) := by decide +kernel
theorem dX5_isCamp_1 : decode cX5_isCamp 1 = .ok (.istore_n 2, 1) := by decide +kernel
theorem dX5_isCamp_2 : decode cX5_isCamp 2 = .ok (.iload_n 2, 1) := by decide +kernel
theorem dX5_isCamp_3 : decode cX5_isCamp 3 = .ok (.aload_n 0, 1) := by decide +kernel
theorem dX5_isCamp_4 : decode cX5_isCamp 4 = .ok (.invokevirtual 86, 3) := by decide +kernel
theorem dX5_isCamp_7 : decode cX5_isCamp 7 = .ok (.if_icmp .ge 50, 3) := by decide +kernel
theorem dX5_isCamp_10 : decode cX5_isCamp 10 = .ok (.iload_n 2, 1) := by decide +kernel
theorem dX5_isCamp_11 : decode cX5_isCamp 11 = .ok (.aload_n 0, 1) := by decide +kernel
theorem dX5_isCamp_12 : decode cX5_isCamp 12 = .ok (.getfield 51, 3) := by decide +kernel
theorem dX5_isCamp_15 : decode cX5_isCamp 15 = .ok (.if_icmp .eq 36, 3) := by decide +kernel
theorem dX5_isCamp_18 : decode cX5_isCamp 18 = .ok (.iload_n 1, 1) := by decide +kernel
theorem dX5_isCamp_19 : decode cX5_isCamp 19 = .ok (.aload_n 0, 1) := by decide +kernel
theorem dX5_isCamp_20 : decode cX5_isCamp 20 = .ok (.getfield 7, 3) := by decide +kernel
theorem dX5_isCamp_23 : decode cX5_isCamp 23 = .ok (.bipush 15, 2) := by decide +kernel
theorem dX5_isCamp_25 : decode cX5_isCamp 25 = .ok (.iconst 2, 1) := by decide +kernel
theorem dX5_isCamp_26 : decode cX5_isCamp 26 = .ok (.iload_n 2, 1) := by decide +kernel
theorem dX5_isCamp_27 : decode cX5_isCamp 27 = .ok (.imul, 1) := by decide +kernel
theorem dX5_isCamp_28 : decode cX5_isCamp 28 = .ok (.iadd, 1) := by decide +kernel
theorem dX5_isCamp_29 : decode cX5_isCamp 29 = .ok (.iaload, 1) := by decide +kernel
theorem dX5_isCamp_30 : decode cX5_isCamp 30 = .ok (.aload_n 0, 1) := by decide +kernel
theorem dX5_isCamp_31 : decode cX5_isCamp 31 = .ok (.getfield 7, 3) := by decide +kernel
theorem dX5_isCamp_34 : decode cX5_isCamp 34 = .ok (.bipush 15, 2) := by decide +kernel
theorem dX5_isCamp_36 : decode cX5_isCamp 36 = .ok (.iconst 2, 1) := by decide +kernel
theorem dX5_isCamp_37 : decode cX5_isCamp 37 = .ok (.iload_n 2, 1) := by decide +kernel
theorem dX5_isCamp_38 : decode cX5_isCamp 38 = .ok (.imul, 1) := by decide +kernel
theorem dX5_isCamp_39 : decode cX5_isCamp 39 = .ok (.iadd, 1) := by decide +kernel
theorem dX5_isCamp_40 : decode cX5_isCamp 40 = .ok (.iconst 1, 1) := by decide +kernel
theorem dX5_isCamp_41 : decode cX5_isCamp 41 = .ok (.iadd, 1) := by decide +kernel
theorem dX5_isCamp_42 : decode cX5_isCamp 42 = .ok (.iaload, 1) := by decide +kernel
theorem dX5_isCamp_43 : decode cX5_isCamp 43 = .ok (.invokestatic 68, 3) := by decide +kernel
theorem dX5_isCamp_46 : decode cX5_isCamp 46 = .ok (.ifCond .eq 5, 3) := by decide +kernel
theorem dX5_isCamp_49 : decode cX5_isCamp 49 = .ok (.iconst 1, 1) := by decide +kernel
theorem dX5_isCamp_50 : decode cX5_isCamp 50 = .ok (.ireturn, 1) := by decide +kernel
theorem dX5_isCamp_51 : decode cX5_isCamp 51 = .ok (.iinc 2 1, 3) := by decide +kernel
theorem dX5_isCamp_54 : decode cX5_isCamp 54 = .ok (.goto (-52), 3) := by decide +kernel
theorem dX5_isCamp_57 : decode cX5_isCamp 57 = .ok (.iconst 0, 1) := by decide +kernel
theorem dX5_isCamp_58 : decode cX5_isCamp 58 = .ok (.ireturn, 1) := by decide +kernel
theorem dX5_acute_0 : decode cX5_acute 0 = .ok (.aload_n 0, 1) := by decide +kernel
theorem dX5_acute_1 : decode cX5_acute 1 = .ok (.getfield 41, 3) := by decide +kernel
theorem dX5_acute_4 : decode cX5_acute 4 = .ok (.iload_n 1, 1) := by decide +kernel
theorem dX5_acute_5 : decode cX5_acute 5 = .ok (.iconst 1, 1) := by decide +kernel
theorem dX5_acute_6 : decode cX5_acute 6 = .ok (.iadd, 1) := by decide +kernel
theorem dX5_acute_7 : decode cX5_acute 7 = .ok (.iaload, 1) := by decide +kernel
theorem dX5_acute_8 : decode cX5_acute 8 = .ok (.aload_n 0, 1) := by decide +kernel
theorem dX5_acute_9 : decode cX5_acute 9 = .ok (.getfield 41, 3) := by decide +kernel
theorem dX5_acute_12 : decode cX5_acute 12 = .ok (.iload_n 1, 1) := by decide +kernel
theorem dX5_acute_13 : decode cX5_acute 13 = .ok (.bipush 7, 2) := by decide +kernel
theorem dX5_acute_15 : decode cX5_acute 15 = .ok (.if_icmp .ge 7, 3) := by decide +kernel
theorem dX5_acute_18 : decode cX5_acute 18 = .ok (.iconst 0, 1) := by decide +kernel
theorem dX5_acute_19 : decode cX5_acute 19 = .ok (.goto 7, 3) := by decide +kernel
theorem dX5_acute_22 : decode cX5_acute 22 = .ok (.iload_n 1, 1) := by decide +kernel
theorem dX5_acute_23 : decode cX5_acute 23 = .ok (.bipush 6, 2) := by decide +kernel
theorem dX5_acute_25 : decode cX5_acute 25 = .ok (.isub, 1) := by decide +kernel
theorem dX5_acute_26 : decode cX5_acute 26 = .ok (.iaload, 1) := by decide +kernel
theorem dX5_acute_27 : decode cX5_acute 27 = .ok (.isub, 1) := by decide +kernel
theorem dX5_acute_28 : decode cX5_acute 28 = .ok (.ireturn, 1) := by decide +kernel
theorem dX5_chronic_0 : decode cX5_chronic 0 = .ok (.aload_n 0, 1) := by decide +kernel
theorem dX5_chronic_1 : decode cX5_chronic 1 = .ok (.getfield 41, 3) := by decide +kernel
theorem dX5_chronic_4 : decode cX5_chronic 4 = .ok (.iload_n 1, 1) := by decide +kernel
theorem dX5_chronic_5 : decode cX5_chronic 5 = .ok (.iconst 1, 1) := by decide +kernel
theorem dX5_chronic_6 : decode cX5_chronic 6 = .ok (.iadd, 1) := by decide +kernel
theorem dX5_chronic_7 : decode cX5_chronic 7 = .ok (.iaload, 1) := by decide +kernel
theorem dX5_chronic_8 : decode cX5_chronic 8 = .ok (.aload_n 0, 1) := by decide +kernel
theorem dX5_chronic_9 : decode cX5_chronic 9 = .ok (.getfield 41, 3) := by decide +kernel
theorem dX5_chronic_12 : decode cX5_chronic 12 = .ok (.iload_n 1, 1) := by decide +kernel
theorem dX5_chronic_13 : decode cX5_chronic 13 = .ok (.bipush 28, 2) := by decide +kernel
theorem dX5_chronic_15 : decode cX5_chronic 15 = .ok (.if_icmp .ge 7, 3) := by decide +kernel
theorem dX5_chronic_18 : decode cX5_chronic 18 = .ok (.iconst 0, 1) := by decide +kernel
theorem dX5_chronic_19 : decode cX5_chronic 19 = .ok (.goto 7, 3) := by decide +kernel
theorem dX5_chronic_22 : decode cX5_chronic 22 = .ok (.iload_n 1, 1) := by decide +kernel
theorem dX5_chronic_23 : decode cX5_chronic 23 = .ok (.bipush 27, 2) := by decide +kernel
theorem dX5_chronic_25 : decode cX5_chronic 25 = .ok (.isub, 1) := by decide +kernel
theorem dX5_chronic_26 : decode cX5_chronic 26 = .ok (.iaload, 1) := by decide +kernel
theorem dX5_chronic_27 : decode cX5_chronic 27 = .ok (.isub, 1) := by decide +kernel
theorem dX5_chronic_28 : decode cX5_chronic 28 = .ok (.ireturn, 1) := by decide +kernel
theorem dX5_goes_0 : decode cX5_goes 0 = .ok (.aload_n 0, 1) := by decide +kernel
theorem dX5_goes_1 : decode cX5_goes 1 = .ok (.getfield 7, 3) := by decide +kernel
theorem dX5_goes_4 : decode cX5_goes 4 = .ok (.bipush 24, 2) := by decide +kernel
theorem dX5_goes_6 : decode cX5_goes 6 = .ok (.iconst 2, 1) := by decide +kernel
theorem dX5_goes_7 : decode cX5_goes 7 = .ok (.iload_n 1, 1) := by decide +kernel
theorem dX5_goes_8 : decode cX5_goes 8 = .ok (.imul, 1) := by decide +kernel
theorem dX5_goes_9 : decode cX5_goes 9 = .ok (.iadd, 1) := by decide +kernel
theorem dX5_goes_10 : decode cX5_goes 10 = .ok (.iaload, 1) := by decide +kernel
theorem dX5_goes_11 : decode cX5_goes 11 = .ok (.istore_n 3, 1) := by decide +kernel
theorem dX5_goes_12 : decode cX5_goes 12 = .ok (.aload_n 0, 1) := by decide +kernel
theorem dX5_goes_13 : decode cX5_goes 13 = .ok (.getfield 7, 3) := by decide +kernel
theorem dX5_goes_16 : decode cX5_goes 16 = .ok (.bipush 24, 2) := by decide +kernel
theorem dX5_goes_18 : decode cX5_goes 18 = .ok (.iconst 2, 1) := by decide +kernel
theorem dX5_goes_19 : decode cX5_goes 19 = .ok (.iload_n 1, 1) := by decide +kernel
theorem dX5_goes_20 : decode cX5_goes 20 = .ok (.imul, 1) := by decide +kernel
theorem dX5_goes_21 : decode cX5_goes 21 = .ok (.iadd, 1) := by decide +kernel
theorem dX5_goes_22 : decode cX5_goes 22 = .ok (.iconst 1, 1) := by decide +kernel
theorem dX5_goes_23 : decode cX5_goes 23 = .ok (.iadd, 1) := by decide +kernel
theorem dX5_goes_24 : decode cX5_goes 24 = .ok (.iaload, 1) := by decide +kernel
theorem dX5_goes_25 : decode cX5_goes 25 = .ok (.istore 4, 2) := by decide +kernel
theorem dX5_goes_27 : decode cX5_goes 27 = .ok (.iconst (-1), 1) := by decide +kernel
theorem dX5_goes_28 : decode cX5_goes 28 = .ok (.istore 5, 2) := by decide +kernel
theorem dX5_goes_30 : decode cX5_goes 30 = .ok (.iconst 0, 1) := by decide +kernel
theorem dX5_goes_31 : decode cX5_goes 31 = .ok (.istore 6, 2) := by decide +kernel
theorem dX5_goes_33 : decode cX5_goes 33 = .ok (.iload 6, 2) := by decide +kernel
theorem dX5_goes_35 : decode cX5_goes 35 = .ok (.iload_n 2, 1) := by decide +kernel
theorem dX5_goes_36 : decode cX5_goes 36 = .ok (.if_icmp .gt 317, 3) := by decide +kernel
theorem dX5_goes_39 : decode cX5_goes 39 = .ok (.aload_n 0, 1) := by decide +kernel
theorem dX5_goes_40 : decode cX5_goes 40 = .ok (.getfield 44, 3) := by decide +kernel
theorem dX5_goes_43 : decode cX5_goes 43 = .ok (.iload 6, 2) := by decide +kernel
theorem dX5_goes_45 : decode cX5_goes 45 = .ok (.iload 6, 2) := by decide +kernel
theorem dX5_goes_47 : decode cX5_goes 47 = .ok (.iload 5, 2) := by decide +kernel
theorem dX5_goes_49 : decode cX5_goes 49 = .ok (.if_icmp .gt 7, 3) := by decide +kernel
theorem dX5_goes_52 : decode cX5_goes 52 = .ok (.iconst 1, 1) := by decide +kernel
theorem dX5_goes_53 : decode cX5_goes 53 = .ok (.goto 4, 3) := by decide +kernel
theorem dX5_goes_56 : decode cX5_goes 56 = .ok (.iconst 0, 1) := by decide +kernel
theorem dX5_goes_57 : decode cX5_goes 57 = .ok (.bastore, 1) := by decide +kernel
theorem dX5_goes_58 : decode cX5_goes 58 = .ok (.iload 6, 2) := by decide +kernel
theorem dX5_goes_60 : decode cX5_goes 60 = .ok (.aload_n 0, 1) := by decide +kernel
theorem dX5_goes_61 : decode cX5_goes 61 = .ok (.getfield 55, 3) := by decide +kernel
theorem dX5_goes_64 : decode cX5_goes 64 = .ok (.if_icmp .ne 10, 3) := by decide +kernel
theorem dX5_goes_67 : decode cX5_goes 67 = .ok (.aload_n 0, 1) := by decide +kernel
theorem dX5_goes_68 : decode cX5_goes 68 = .ok (.getfield 182, 3) := by decide +kernel
theorem dX5_goes_71 : decode cX5_goes 71 = .ok (.goto 17, 3) := by decide +kernel
theorem dX5_goes_74 : decode cX5_goes 74 = .ok (.aload_n 0, 1) := by decide +kernel
theorem dX5_goes_75 : decode cX5_goes 75 = .ok (.getfield 7, 3) := by decide +kernel
theorem dX5_goes_78 : decode cX5_goes 78 = .ok (.iconst 0, 1) := by decide +kernel
theorem dX5_goes_79 : decode cX5_goes 79 = .ok (.aload_n 0, 1) := by decide +kernel
theorem dX5_goes_80 : decode cX5_goes 80 = .ok (.iload_n 1, 1) := by decide +kernel
theorem dX5_goes_81 : decode cX5_goes 81 = .ok (.iload 6, 2) := by decide +kernel
theorem dX5_goes_83 : decode cX5_goes 83 = .ok (.invokevirtual 113, 3) := by decide +kernel
theorem dX5_goes_86 : decode cX5_goes 86 = .ok (.iadd, 1) := by decide +kernel
theorem dX5_goes_87 : decode cX5_goes 87 = .ok (.iaload, 1) := by decide +kernel
theorem dX5_goes_88 : decode cX5_goes 88 = .ok (.istore 7, 2) := by decide +kernel
theorem dX5_goes_90 : decode cX5_goes 90 = .ok (.aload_n 0, 1) := by decide +kernel
theorem dX5_goes_91 : decode cX5_goes 91 = .ok (.iload 6, 2) := by decide +kernel
theorem dX5_goes_93 : decode cX5_goes 93 = .ok (.invokevirtual 185, 3) := by decide +kernel
theorem dX5_goes_96 : decode cX5_goes 96 = .ok (.ifCond .eq 18, 3) := by decide +kernel
theorem dX5_goes_99 : decode cX5_goes 99 = .ok (.iload 7, 2) := by decide +kernel
theorem dX5_goes_101 : decode cX5_goes 101 = .ok (.aload_n 0, 1) := by decide +kernel
theorem dX5_goes_102 : decode cX5_goes 102 = .ok (.bipush 7, 2) := by decide +kernel
theorem dX5_goes_104 : decode cX5_goes 104 = .ok (.invokevirtual 99, 3) := by decide +kernel
theorem dX5_goes_107 : decode cX5_goes 107 = .ok (.imul, 1) := by decide +kernel
theorem dX5_goes_108 : decode cX5_goes 108 = .ok (.bipush 100, 2) := by decide +kernel
theorem dX5_goes_110 : decode cX5_goes 110 = .ok (.idiv, 1) := by decide +kernel
theorem dX5_goes_111 : decode cX5_goes 111 = .ok (.goto 5, 3) := by decide +kernel
theorem dX5_goes_114 : decode cX5_goes 114 = .ok (.iload 7, 2) := by decide +kernel
theorem dX5_goes_116 : decode cX5_goes 116 = .ok (.istore 7, 2) := by decide +kernel
theorem dX5_goes_118 : decode cX5_goes 118 = .ok (.aload_n 0, 1) := by decide +kernel
theorem dX5_goes_119 : decode cX5_goes 119 = .ok (.bipush 6, 2) := by decide +kernel
theorem dX5_goes_121 : decode cX5_goes 121 = .ok (.invokevirtual 99, 3) := by decide +kernel
theorem dX5_goes_124 : decode cX5_goes 124 = .ok (.aload_n 0, 1) := by decide +kernel
theorem dX5_goes_125 : decode cX5_goes 125 = .ok (.getfield 41, 3) := by decide +kernel
theorem dX5_goes_128 : decode cX5_goes 128 = .ok (.iload 6, 2) := by decide +kernel
theorem dX5_goes_130 : decode cX5_goes 130 = .ok (.iaload, 1) := by decide +kernel
theorem dX5_goes_131 : decode cX5_goes 131 = .ok (.aload_n 0, 1) := by decide +kernel
theorem dX5_goes_132 : decode cX5_goes 132 = .ok (.getfield 41, 3) := by decide +kernel
theorem dX5_goes_135 : decode cX5_goes 135 = .ok (.iload 6, 2) := by decide +kernel
theorem dX5_goes_137 : decode cX5_goes 137 = .ok (.bipush 7, 2) := by decide +kernel
theorem dX5_goes_139 : decode cX5_goes 139 = .ok (.idiv, 1) := by decide +kernel
theorem dX5_goes_140 : decode cX5_goes 140 = .ok (.bipush 7, 2) := by decide +kernel
theorem dX5_goes_142 : decode cX5_goes 142 = .ok (.imul, 1) := by decide +kernel
theorem dX5_goes_143 : decode cX5_goes 143 = .ok (.iaload, 1) := by decide +kernel
theorem dX5_goes_144 : decode cX5_goes 144 = .ok (.isub, 1) := by decide +kernel
theorem dX5_goes_145 : decode cX5_goes 145 = .ok (.isub, 1) := by decide +kernel
theorem dX5_goes_146 : decode cX5_goes 146 = .ok (.istore 8, 2) := by decide +kernel
theorem dX5_goes_148 : decode cX5_goes 148 = .ok (.iload 7, 2) := by decide +kernel
theorem dX5_goes_150 : decode cX5_goes 150 = .ok (.iload 8, 2) := by decide +kernel
theorem dX5_goes_152 : decode cX5_goes 152 = .ok (.if_icmp .le 8, 3) := by decide +kernel
theorem dX5_goes_155 : decode cX5_goes 155 = .ok (.iload 8, 2) := by decide +kernel
theorem dX5_goes_157 : decode cX5_goes 157 = .ok (.goto 5, 3) := by decide +kernel
theorem dX5_goes_160 : decode cX5_goes 160 = .ok (.iload 7, 2) := by decide +kernel
theorem dX5_goes_162 : decode cX5_goes 162 = .ok (.istore 7, 2) := by decide +kernel
theorem dX5_goes_164 : decode cX5_goes 164 = .ok (.aload_n 0, 1) := by decide +kernel
theorem dX5_goes_165 : decode cX5_goes 165 = .ok (.getfield 32, 3) := by decide +kernel
theorem dX5_goes_168 : decode cX5_goes 168 = .ok (.iload 6, 2) := by decide +kernel
theorem dX5_goes_170 : decode cX5_goes 170 = .ok (.aload_n 0, 1) := by decide +kernel
theorem dX5_goes_171 : decode cX5_goes 171 = .ok (.getfield 44, 3) := by decide +kernel
theorem dX5_goes_174 : decode cX5_goes 174 = .ok (.iload 6, 2) := by decide +kernel
theorem dX5_goes_176 : decode cX5_goes 176 = .ok (.baload, 1) := by decide +kernel
theorem dX5_goes_177 : decode cX5_goes 177 = .ok (.ifCond .eq 7, 3) := by decide +kernel
theorem dX5_goes_180 : decode cX5_goes 180 = .ok (.iconst 0, 1) := by decide +kernel
theorem dX5_goes_181 : decode cX5_goes 181 = .ok (.goto 5, 3) := by decide +kernel
theorem dX5_goes_184 : decode cX5_goes 184 = .ok (.iload 7, 2) := by decide +kernel
theorem dX5_goes_186 : decode cX5_goes 186 = .ok (.iastore, 1) := by decide +kernel
theorem dX5_goes_187 : decode cX5_goes 187 = .ok (.aload_n 0, 1) := by decide +kernel
theorem dX5_goes_188 : decode cX5_goes 188 = .ok (.getfield 41, 3) := by decide +kernel
theorem dX5_goes_191 : decode cX5_goes 191 = .ok (.iload 6, 2) := by decide +kernel
theorem dX5_goes_193 : decode cX5_goes 193 = .ok (.iconst 1, 1) := by decide +kernel
theorem dX5_goes_194 : decode cX5_goes 194 = .ok (.iadd, 1) := by decide +kernel
theorem dX5_goes_195 : decode cX5_goes 195 = .ok (.aload_n 0, 1) := by decide +kernel
theorem dX5_goes_196 : decode cX5_goes 196 = .ok (.getfield 41, 3) := by decide +kernel
theorem dX5_goes_199 : decode cX5_goes 199 = .ok (.iload 6, 2) := by decide +kernel
theorem dX5_goes_201 : decode cX5_goes 201 = .ok (.iaload, 1) := by decide +kernel
theorem dX5_goes_202 : decode cX5_goes 202 = .ok (.aload_n 0, 1) := by decide +kernel
theorem dX5_goes_203 : decode cX5_goes 203 = .ok (.getfield 32, 3) := by decide +kernel
theorem dX5_goes_206 : decode cX5_goes 206 = .ok (.iload 6, 2) := by decide +kernel
theorem dX5_goes_208 : decode cX5_goes 208 = .ok (.iaload, 1) := by decide +kernel
theorem dX5_goes_209 : decode cX5_goes 209 = .ok (.iadd, 1) := by decide +kernel
theorem dX5_goes_210 : decode cX5_goes 210 = .ok (.iastore, 1) := by decide +kernel
theorem dX5_goes_211 : decode cX5_goes 211 = .ok (.iload_n 3, 1) := by decide +kernel
theorem dX5_goes_212 : decode cX5_goes 212 = .ok (.bipush 10, 2) := by decide +kernel
theorem dX5_goes_214 : decode cX5_goes 214 = .ok (.aload_n 0, 1) := by decide +kernel
theorem dX5_goes_215 : decode cX5_goes 215 = .ok (.getfield 32, 3) := by decide +kernel
theorem dX5_goes_218 : decode cX5_goes 218 = .ok (.iload 6, 2) := by decide +kernel
theorem dX5_goes_220 : decode cX5_goes 220 = .ok (.iaload, 1) := by decide +kernel
theorem dX5_goes_221 : decode cX5_goes 221 = .ok (.imul, 1) := by decide +kernel
theorem dX5_goes_222 : decode cX5_goes 222 = .ok (.iload_n 3, 1) := by decide +kernel
theorem dX5_goes_223 : decode cX5_goes 223 = .ok (.aload_n 0, 1) := by decide +kernel
theorem dX5_goes_224 : decode cX5_goes 224 = .ok (.iconst 0, 1) := by decide +kernel
theorem dX5_goes_225 : decode cX5_goes 225 = .ok (.invokevirtual 99, 3) := by decide +kernel
theorem dX5_goes_228 : decode cX5_goes 228 = .ok (.idiv, 1) := by decide +kernel
theorem dX5_goes_229 : decode cX5_goes 229 = .ok (.isub, 1) := by decide +kernel
theorem dX5_goes_230 : decode cX5_goes 230 = .ok (.iadd, 1) := by decide +kernel
theorem dX5_goes_231 : decode cX5_goes 231 = .ok (.istore_n 3, 1) := by decide +kernel
theorem dX5_goes_232 : decode cX5_goes 232 = .ok (.iload 4, 2) := by decide +kernel
theorem dX5_goes_234 : decode cX5_goes 234 = .ok (.bipush 10, 2) := by decide +kernel
theorem dX5_goes_236 : decode cX5_goes 236 = .ok (.aload_n 0, 1) := by decide +kernel
theorem dX5_goes_237 : decode cX5_goes 237 = .ok (.getfield 32, 3) := by decide +kernel
theorem dX5_goes_240 : decode cX5_goes 240 = .ok (.iload 6, 2) := by decide +kernel
theorem dX5_goes_242 : decode cX5_goes 242 = .ok (.iaload, 1) := by decide +kernel
theorem dX5_goes_243 : decode cX5_goes 243 = .ok (.imul, 1) := by decide +kernel
theorem dX5_goes_244 : decode cX5_goes 244 = .ok (.iload 4, 2) := by decide +kernel
theorem dX5_goes_246 : decode cX5_goes 246 = .ok (.aload_n 0, 1) := by decide +kernel
theorem dX5_goes_247 : decode cX5_goes 247 = .ok (.iconst 1, 1) := by decide +kernel
theorem dX5_goes_248 : decode cX5_goes 248 = .ok (.invokevirtual 99, 3) := by decide +kernel
theorem dX5_goes_251 : decode cX5_goes 251 = .ok (.idiv, 1) := by decide +kernel
theorem dX5_goes_252 : decode cX5_goes 252 = .ok (.isub, 1) := by decide +kernel
theorem dX5_goes_253 : decode cX5_goes 253 = .ok (.iadd, 1) := by decide +kernel
theorem dX5_goes_254 : decode cX5_goes 254 = .ok (.istore 4, 2) := by decide +kernel
theorem dX5_goes_256 : decode cX5_goes 256 = .ok (.aload_n 0, 1) := by decide +kernel
theorem dX5_goes_257 : decode cX5_goes 257 = .ok (.getfield 35, 3) := by decide +kernel
theorem dX5_goes_260 : decode cX5_goes 260 = .ok (.iload 6, 2) := by decide +kernel
theorem dX5_goes_262 : decode cX5_goes 262 = .ok (.iload_n 3, 1) := by decide +kernel
theorem dX5_goes_263 : decode cX5_goes 263 = .ok (.iastore, 1) := by decide +kernel
theorem dX5_goes_264 : decode cX5_goes 264 = .ok (.aload_n 0, 1) := by decide +kernel
theorem dX5_goes_265 : decode cX5_goes 265 = .ok (.getfield 38, 3) := by decide +kernel
theorem dX5_goes_268 : decode cX5_goes 268 = .ok (.iload 6, 2) := by decide +kernel
theorem dX5_goes_270 : decode cX5_goes 270 = .ok (.iload 4, 2) := by decide +kernel
theorem dX5_goes_272 : decode cX5_goes 272 = .ok (.iastore, 1) := by decide +kernel
theorem dX5_goes_273 : decode cX5_goes 273 = .ok (.aload_n 0, 1) := by decide +kernel
theorem dX5_goes_274 : decode cX5_goes 274 = .ok (.getfield 48, 3) := by decide +kernel
theorem dX5_goes_277 : decode cX5_goes 277 = .ok (.iload 6, 2) := by decide +kernel
theorem dX5_goes_279 : decode cX5_goes 279 = .ok (.iload 6, 2) := by decide +kernel
theorem dX5_goes_281 : decode cX5_goes 281 = .ok (.bipush 20, 2) := by decide +kernel
theorem dX5_goes_283 : decode cX5_goes 283 = .ok (.if_icmp .lt 42, 3) := by decide +kernel
theorem dX5_goes_286 : decode cX5_goes 286 = .ok (.aload_n 0, 1) := by decide +kernel
theorem dX5_goes_287 : decode cX5_goes 287 = .ok (.getfield 44, 3) := by decide +kernel
theorem dX5_goes_290 : decode cX5_goes 290 = .ok (.iload 6, 2) := by decide +kernel
theorem dX5_goes_292 : decode cX5_goes 292 = .ok (.baload, 1) := by decide +kernel
theorem dX5_goes_293 : decode cX5_goes 293 = .ok (.ifCond .ne 32, 3) := by decide +kernel
theorem dX5_goes_296 : decode cX5_goes 296 = .ok (.aload_n 0, 1) := by decide +kernel
theorem dX5_goes_297 : decode cX5_goes 297 = .ok (.iload 6, 2) := by decide +kernel
theorem dX5_goes_299 : decode cX5_goes 299 = .ok (.invokevirtual 188, 3) := by decide +kernel
theorem dX5_goes_302 : decode cX5_goes 302 = .ok (.sipush 400, 3) := by decide +kernel
theorem dX5_goes_305 : decode cX5_goes 305 = .ok (.imul, 1) := by decide +kernel
theorem dX5_goes_306 : decode cX5_goes 306 = .ok (.aload_n 0, 1) := by decide +kernel
theorem dX5_goes_307 : decode cX5_goes 307 = .ok (.iconst 4, 1) := by decide +kernel
theorem dX5_goes_308 : decode cX5_goes 308 = .ok (.invokevirtual 99, 3) := by decide +kernel
theorem dX5_goes_311 : decode cX5_goes 311 = .ok (.aload_n 0, 1) := by decide +kernel
theorem dX5_goes_312 : decode cX5_goes 312 = .ok (.iload 6, 2) := by decide +kernel
theorem dX5_goes_314 : decode cX5_goes 314 = .ok (.invokevirtual 191, 3) := by decide +kernel
theorem dX5_goes_317 : decode cX5_goes 317 = .ok (.imul, 1) := by decide +kernel
theorem dX5_goes_318 : decode cX5_goes 318 = .ok (.if_icmp .le 7, 3) := by decide +kernel
theorem dX5_goes_321 : decode cX5_goes 321 = .ok (.iconst 1, 1) := by decide +kernel
theorem dX5_goes_322 : decode cX5_goes 322 = .ok (.goto 4, 3) := by decide +kernel
theorem dX5_goes_325 : decode cX5_goes 325 = .ok (.iconst 0, 1) := by decide +kernel
theorem dX5_goes_326 : decode cX5_goes 326 = .ok (.bastore, 1) := by decide +kernel
theorem dX5_goes_327 : decode cX5_goes 327 = .ok (.aload_n 0, 1) := by decide +kernel
theorem dX5_goes_328 : decode cX5_goes 328 = .ok (.getfield 48, 3) := by decide +kernel
theorem dX5_goes_331 : decode cX5_goes 331 = .ok (.iload 6, 2) := by decide +kernel
theorem dX5_goes_333 : decode cX5_goes 333 = .ok (.baload, 1) := by decide +kernel
theorem dX5_goes_334 : decode cX5_goes 334 = .ok (.ifCond .eq 13, 3) := by decide +kernel
theorem dX5_goes_337 : decode cX5_goes 337 = .ok (.iload 6, 2) := by decide +kernel
theorem dX5_goes_339 : decode cX5_goes 339 = .ok (.aload_n 0, 1) := by decide +kernel
theorem dX5_goes_340 : decode cX5_goes 340 = .ok (.iconst 5, 1) := by decide +kernel
theorem dX5_goes_341 : decode cX5_goes 341 = .ok (.invokevirtual 99, 3) := by decide +kernel
theorem dX5_goes_344 : decode cX5_goes 344 = .ok (.iadd, 1) := by decide +kernel
theorem dX5_goes_345 : decode cX5_goes 345 = .ok (.istore 5, 2) := by decide +kernel
theorem dX5_goes_347 : decode cX5_goes 347 = .ok (.iinc 6 1, 3) := by decide +kernel
theorem dX5_goes_350 : decode cX5_goes 350 = .ok (.goto (-317), 3) := by decide +kernel
theorem dX5_goes_353 : decode cX5_goes 353 = .ok (.return_, 1) := by decide +kernel
theorem dX5_formAt_0 : decode cX5_formAt 0 = .ok (.aload_n 0, 1) := by decide +kernel
theorem dX5_formAt_1 : decode cX5_formAt 1 = .ok (.iconst 2, 1) := by decide +kernel
theorem dX5_formAt_2 : decode cX5_formAt 2 = .ok (.invokevirtual 99, 3) := by decide +kernel
theorem dX5_formAt_5 : decode cX5_formAt 5 = .ok (.aload_n 0, 1) := by decide +kernel
theorem dX5_formAt_6 : decode cX5_formAt 6 = .ok (.getfield 35, 3) := by decide +kernel
theorem dX5_formAt_9 : decode cX5_formAt 9 = .ok (.iload_n 1, 1) := by decide +kernel
theorem dX5_formAt_10 : decode cX5_formAt 10 = .ok (.iaload, 1) := by decide +kernel
theorem dX5_formAt_11 : decode cX5_formAt 11 = .ok (.imul, 1) := by decide +kernel
theorem dX5_formAt_12 : decode cX5_formAt 12 = .ok (.aload_n 0, 1) := by decide +kernel
theorem dX5_formAt_13 : decode cX5_formAt 13 = .ok (.iconst 3, 1) := by decide +kernel
theorem dX5_formAt_14 : decode cX5_formAt 14 = .ok (.invokevirtual 99, 3) := by decide +kernel
theorem dX5_formAt_17 : decode cX5_formAt 17 = .ok (.aload_n 0, 1) := by decide +kernel
theorem dX5_formAt_18 : decode cX5_formAt 18 = .ok (.getfield 38, 3) := by decide +kernel
theorem dX5_formAt_21 : decode cX5_formAt 21 = .ok (.iload_n 1, 1) := by decide +kernel
theorem dX5_formAt_22 : decode cX5_formAt 22 = .ok (.iaload, 1) := by decide +kernel
theorem dX5_formAt_23 : decode cX5_formAt 23 = .ok (.imul, 1) := by decide +kernel
theorem dX5_formAt_24 : decode cX5_formAt 24 = .ok (.isub, 1) := by decide +kernel
theorem dX5_formAt_25 : decode cX5_formAt 25 = .ok (.ireturn, 1) := by decide +kernel
theorem dX5_formOf_0 : decode cX5_formOf 0 = .ok (.aload_n 0, 1) := by decide +kernel
theorem dX5_formOf_1 : decode cX5_formOf 1 = .ok (.iload_n 1, 1) := by decide +kernel
theorem dX5_formOf_2 : decode cX5_formOf 2 = .ok (.iload_n 2, 1) := by decide +kernel
theorem dX5_formOf_3 : decode cX5_formOf 3 = .ok (.invokevirtual 194, 3) := by decide +kernel
theorem dX5_formOf_6 : decode cX5_formOf 6 = .ok (.aload_n 0, 1) := by decide +kernel
theorem dX5_formOf_7 : decode cX5_formOf 7 = .ok (.iload_n 2, 1) := by decide +kernel
theorem dX5_formOf_8 : decode cX5_formOf 8 = .ok (.invokevirtual 197, 3) := by decide +kernel
theorem dX5_formOf_11 : decode cX5_formOf 11 = .ok (.ireturn, 1) := by decide +kernel

theorem add_sub_sw (f a b : Int32) : f + (a - b) = (f - b) + a := by
  rw [Int32.sub_eq_add_neg, Int32.sub_eq_add_neg, Int32.add_comm a (-b), Int32.add_assoc]
section MG
variable {G : mG} {d : Nat} {σ : mS}
theorem v_isCamp {k nc : Nat} (hk : k < 70) (hn : σ 117 14 = nI nc) (h4 : nc ≤ 4) : mV G mX5_isCamp (d + 1) [.ref 116, .int (nI k)] σ (some (.int (bI (cfN (fun i => σ 117 (15 + 2 * i)) (fun i => σ 117 (15 + 2 * i + 1)) (σ 116 23) k nc)))) σ := by
  refine mV_of fun Q hQ => ?_
  have mono : ∀ a b, a ≤ b → (cfN (fun i => σ 117 (15 + 2 * i)) (fun i => σ 117 (15 + 2 * i + 1)) (σ 116 23) k a) = true → (cfN (fun i => σ 117 (15 + 2 * i)) (fun i => σ 117 (15 + 2 * i + 1)) (σ 116 23) k b) = true := by
    intro a b hab h
    induction b with
    | zero =>
      have : a = 0 := by omega
      subst this
      exact h
    | succ b ih =>
      by_cases hb : a = b + 1
      · subst hb; exact h
      · simp only [cfN]
        rw [ih (by omega)]
        rfl
  have hl : ∀ c, c ≤ nc → (cfN (fun i => σ 117 (15 + 2 * i)) (fun i => σ 117 (15 + 2 * i + 1)) (σ 116 23) k c) = false → mF G mX5_isCamp (d + 1) 2 [some (.ref 116), some (.int (nI k)), some (.int (nI c))] [] σ Q := by
    refine loopUp nc (fun c hc ih hf => ?_)
    refine F_iload_n dX5_isCamp_2 rfl ?_
    refine F_aload_n dX5_isCamp_3 rfl ?_
    refine F_cV0i (v_camps (d := d)) dX5_isCamp_4 rfl rfl (by decide) (by first | assumption | rfl) rfl rfl rfl (by decide) (Nat.le_of_ble_eq_true rfl) (by omega) ?_
    refine F_top hn ?_
    refine F_icmp_geN (tgt := 57) dX5_isCamp_7 rfl (by omega) (by omega) (fun c7 => ?_) (fun c7 => ?_)
    · refine F_iconst (v := nI 0) dX5_isCamp_57 rfl ?_
      refine F_zret dX5_isCamp_58 rfl (by first | exact Or.inl rfl | exact Or.inr rfl | exact bI_01 _) ?_
      have e1 : c = nc := by omega
      subst e1
      exact Qb0 hQ hf
    · refine F_iload_n dX5_isCamp_10 rfl ?_
      refine F_aload_n dX5_isCamp_11 rfl ?_
      refine F_geti dX5_isCamp_12 rfl rfl (by first | assumption | rfl) rfl ?_
      refine F_icmp_eq (tgt := 51) dX5_isCamp_15 rfl (fun c15 => ?_) (fun c15 => ?_)
      · refine F_iincN dX5_isCamp_51 rfl ?_
        refine F_goto (tgt := 2) dX5_isCamp_54 rfl ?_
        refine ih (by omega) ?_
        simp only [cfN]
        first
          | (simp only [inR] at c46
             rw [hf, c46, Bool.and_false]
             rfl)
          | (rw [hf, decide_eq_true c15]
             rfl)
      · refine F_iload_n dX5_isCamp_18 rfl ?_
        refine F_aload_n dX5_isCamp_19 rfl ?_
        refine F_getr dX5_isCamp_20 rfl rfl (by first | assumption | rfl) rfl ?_
        refine F_bipush (v := nI 15) dX5_isCamp_23 rfl ?_
        refine F_iconst (v := nI 2) dX5_isCamp_25 rfl ?_
        refine F_iload_n dX5_isCamp_26 rfl ?_
        refine F_imulN dX5_isCamp_27 ?_
        refine F_iaddN dX5_isCamp_28 ?_
        refine F_iald dX5_isCamp_29 (by first | assumption | rfl) (by decide) (by omega) ?_
        refine F_aload_n dX5_isCamp_30 rfl ?_
        refine F_getr dX5_isCamp_31 rfl rfl (by first | assumption | rfl) rfl ?_
        refine F_bipush (v := nI 15) dX5_isCamp_34 rfl ?_
        refine F_iconst (v := nI 2) dX5_isCamp_36 rfl ?_
        refine F_iload_n dX5_isCamp_37 rfl ?_
        refine F_imulN dX5_isCamp_38 ?_
        refine F_iaddN dX5_isCamp_39 ?_
        refine F_iconst (v := nI 1) dX5_isCamp_40 rfl ?_
        refine F_iaddN dX5_isCamp_41 ?_
        refine F_iald dX5_isCamp_42 (by first | assumption | rfl) (by decide) (by omega) ?_
        refine F_cS3i (v_isIn (d := d) _ _ _) dX5_isCamp_43 rfl rfl rfl (by decide) (Nat.le_of_ble_eq_true rfl) (by omega) ?_
        refine F_if_eqB (tgt := 51) dX5_isCamp_46 rfl (fun c46 => ?_) (fun c46 => ?_)
        · refine F_iincN dX5_isCamp_51 rfl ?_
          refine F_goto (tgt := 2) dX5_isCamp_54 rfl ?_
          refine ih (by omega) ?_
          simp only [cfN]
          first
            | (simp only [inR] at c46
               rw [hf, c46, Bool.and_false]
               rfl)
            | (rw [hf, decide_eq_true c15]
               rfl)
        · refine F_iconst (v := nI 1) dX5_isCamp_49 rfl ?_
          refine F_zret dX5_isCamp_50 rfl (by first | exact Or.inl rfl | exact Or.inr rfl | exact bI_01 _) ?_
          refine Qb1 hQ (mono (c + 1) nc (by omega) ?_)
          simp only [cfN]
          simp only [inR] at c46
          rw [hf, decide_eq_false c15, c46]
          rfl
  refine F_iconst (v := nI 0) dX5_isCamp_0 rfl ?_
  refine F_istore_n dX5_isCamp_1 (Nat.le_of_ble_eq_true rfl) ?_
  exact hl 0 (Nat.zero_le nc) rfl

theorem v_macute {n : Nat} (hn : n < 70) : mV G mX5_acute d [.ref 116, .int (nI n)] σ (some (.int (σ 127 (n + 1) - σ 127 (n + 1 - 7)))) σ := by
  refine mV_of fun Q hQ => ?_
  refine F_aload_n dX5_acute_0 rfl ?_
  refine F_getr dX5_acute_1 rfl rfl (by first | assumption | rfl) rfl ?_
  refine F_iload_n dX5_acute_4 rfl ?_
  refine F_iconst (v := nI 1) dX5_acute_5 rfl ?_
  refine F_iaddN dX5_acute_6 ?_
  refine F_iald dX5_acute_7 (by first | assumption | rfl) (by decide) (by omega) ?_
  refine F_aload_n dX5_acute_8 rfl ?_
  refine F_getr dX5_acute_9 rfl rfl (by first | assumption | rfl) rfl ?_
  refine F_iload_n dX5_acute_12 rfl ?_
  refine F_bipush (v := nI 7) dX5_acute_13 rfl ?_
  refine F_icmp_geN (tgt := 22) dX5_acute_15 rfl (by omega) (by omega) (fun c15 => ?_) (fun c15 => ?_)
  · refine F_iload_n dX5_acute_22 rfl ?_
    refine F_bipush (v := nI 6) dX5_acute_23 rfl ?_
    refine F_isubN dX5_acute_25 (by omega) ?_
    refine F_iald dX5_acute_26 (by first | assumption | rfl) (by decide) (by omega) ?_
    refine F_isub dX5_acute_27 ?_
    refine F_iret dX5_acute_28 rfl ?_
    first | (rw [show n + 1 - 7 = 0 by omega] at hQ; exact hQ) | (rw [show n + 1 - 7 = n - 6 by omega] at hQ; exact hQ)
  · refine F_iconst (v := nI 0) dX5_acute_18 rfl ?_
    refine F_goto (tgt := 26) dX5_acute_19 rfl ?_
    refine F_iald dX5_acute_26 (by first | assumption | rfl) (by decide) (by omega) ?_
    refine F_isub dX5_acute_27 ?_
    refine F_iret dX5_acute_28 rfl ?_
    first | (rw [show n + 1 - 7 = 0 by omega] at hQ; exact hQ) | (rw [show n + 1 - 7 = n - 6 by omega] at hQ; exact hQ)

theorem v_mchronic {n : Nat} (hn : n < 70) : mV G mX5_chronic d [.ref 116, .int (nI n)] σ (some (.int (σ 127 (n + 1) - σ 127 (n + 1 - 28)))) σ := by
  refine mV_of fun Q hQ => ?_
  refine F_aload_n dX5_chronic_0 rfl ?_
  refine F_getr dX5_chronic_1 rfl rfl (by first | assumption | rfl) rfl ?_
  refine F_iload_n dX5_chronic_4 rfl ?_
  refine F_iconst (v := nI 1) dX5_chronic_5 rfl ?_
  refine F_iaddN dX5_chronic_6 ?_
  refine F_iald dX5_chronic_7 (by first | assumption | rfl) (by decide) (by omega) ?_
  refine F_aload_n dX5_chronic_8 rfl ?_
  refine F_getr dX5_chronic_9 rfl rfl (by first | assumption | rfl) rfl ?_
  refine F_iload_n dX5_chronic_12 rfl ?_
  refine F_bipush (v := nI 28) dX5_chronic_13 rfl ?_
  refine F_icmp_geN (tgt := 22) dX5_chronic_15 rfl (by omega) (by omega) (fun c15 => ?_) (fun c15 => ?_)
  · refine F_iload_n dX5_chronic_22 rfl ?_
    refine F_bipush (v := nI 27) dX5_chronic_23 rfl ?_
    refine F_isubN dX5_chronic_25 (by omega) ?_
    refine F_iald dX5_chronic_26 (by first | assumption | rfl) (by decide) (by omega) ?_
    refine F_isub dX5_chronic_27 ?_
    refine F_iret dX5_chronic_28 rfl ?_
    first | (rw [show n + 1 - 28 = 0 by omega] at hQ; exact hQ) | (rw [show n + 1 - 28 = n - 27 by omega] at hQ; exact hQ)
  · refine F_iconst (v := nI 0) dX5_chronic_18 rfl ?_
    refine F_goto (tgt := 26) dX5_chronic_19 rfl ?_
    refine F_iald dX5_chronic_26 (by first | assumption | rfl) (by decide) (by omega) ?_
    refine F_isub dX5_chronic_27 ?_
    refine F_iret dX5_chronic_28 rfl ?_
    first | (rw [show n + 1 - 28 = 0 by omega] at hQ; exact hQ) | (rw [show n + 1 - 28 = n - 27 by omega] at hQ; exact hQ)

theorem v_formAt {n : Nat} (hn : n < 70) : mV G mX5_formAt (d + 1) [.ref 116, .int (nI n)] σ (some (.int (σ 117 8 * σ 125 n - σ 117 9 * σ 126 n))) σ := by
  refine mV_of fun Q hQ => ?_
  refine F_aload_n dX5_formAt_0 rfl ?_
  refine F_iconst (v := nI 2) dX5_formAt_1 rfl ?_
  refine F_cV1i (v_of (d := d) (k := 2) (by omega)) dX5_formAt_2 rfl rfl (by decide) (by first | assumption | rfl) rfl rfl rfl (by decide) (Nat.le_of_ble_eq_true rfl) (by omega) ?_
  refine F_aload_n dX5_formAt_5 rfl ?_
  refine F_getr dX5_formAt_6 rfl rfl (by first | assumption | rfl) rfl ?_
  refine F_iload_n dX5_formAt_9 rfl ?_
  refine F_iald dX5_formAt_10 (by first | assumption | rfl) (by decide) (by omega) ?_
  refine F_imul dX5_formAt_11 ?_
  refine F_aload_n dX5_formAt_12 rfl ?_
  refine F_iconst (v := nI 3) dX5_formAt_13 rfl ?_
  refine F_cV1i (v_of (d := d) (k := 3) (by omega)) dX5_formAt_14 rfl rfl (by decide) (by first | assumption | rfl) rfl rfl rfl (by decide) (Nat.le_of_ble_eq_true rfl) (by omega) ?_
  refine F_aload_n dX5_formAt_17 rfl ?_
  refine F_getr dX5_formAt_18 rfl rfl (by first | assumption | rfl) rfl ?_
  refine F_iload_n dX5_formAt_21 rfl ?_
  refine F_iald dX5_formAt_22 (by first | assumption | rfl) (by decide) (by omega) ?_
  refine F_imul dX5_formAt_23 ?_
  refine F_isub dX5_formAt_24 ?_
  refine F_iret dX5_formAt_25 rfl ?_
  exact hQ

/-- the first n days have been gone through -/
def Gone (σ : mS) (p : sP) (n : Nat) : Prop := (∀ k, k ≤ n → σ 127 k = sSum p k) ∧ ∀ k, k < n → σ 124 k = sLoad p k ∧ σ 125 k = sFit p (k + 1) ∧ σ 126 k = sTir p (k + 1) ∧ σ 128 k = bI (decide (k < sHl p k)) ∧ σ 129 k = bI (sInj p k)
/-- what the reference says of a group -/
def pM (σ : mS) (g nc : Nat) : sP := (fun k => σ 117 (6 + k), fun k => if nI k = σ 116 24 then σ 116 25 else σ 117 (σ 117 (40 + 70 * g + k)).toNatClampNeg, fun k => cfN (fun i => σ 117 (15 + 2 * i)) (fun i => σ 117 (15 + 2 * i + 1)) (σ 116 23) k nc, σ 117 (24 + 2 * g), σ 117 (24 + 2 * g + 1))
def gnS (σ : mS) (n : Nat) (p : sP) : mS := up (up (up (up (up (up σ 128 n (bI (decide (n < sHl p n)))) 124 n (sLoad p n)) 127 (n + 1) (sSum p (n + 1))) 125 n (sFit p (n + 1))) 126 n (sTir p (n + 1))) 129 n (bI (sInj p n))
theorem gnS_far (σ : mS) {n a : Nat} (p : sP) (h : a < 124 ∨ 129 < a) : gnS σ n p a = σ a := by
  simp only [gnS]
  rw [up_n _ _ _ (by omega), up_n _ _ _ (by omega), up_n _ _ _ (by omega), up_n _ _ _ (by omega), up_n _ _ _ (by omega), up_n _ _ _ (by omega)]
def goN (σ : mS) (p : sP) : Nat → mS
  | 0 => σ
  | m + 1 => gnS (goN σ p m) m p
theorem goN_far (σ : mS) {a : Nat} (p : sP) (h : a < 124 ∨ 129 < a) : ∀ m, goN σ p m a = σ a := by
  intro m
  induction m with
  | zero => rfl
  | succ m ih => simp only [goN]; rw [gnS_far _ _ h]; exact ih
theorem Gone.next {p : sP} {n : Nat} (h : Gone σ p n) : Gone (gnS σ n p) p (n + 1) := by
  have r8 : gnS σ n p 128 = upd (σ 128) n (bI (decide (n < sHl p n))) := rfl
  have r4 : gnS σ n p 124 = upd (σ 124) n (sLoad p n) := rfl
  have r7 : gnS σ n p 127 = upd (σ 127) (n + 1) (sSum p (n + 1)) := rfl
  have r5 : gnS σ n p 125 = upd (σ 125) n (sFit p (n + 1)) := rfl
  have r6 : gnS σ n p 126 = upd (σ 126) n (sTir p (n + 1)) := rfl
  have r9 : gnS σ n p 129 = upd (σ 129) n (bI (sInj p n)) := rfl
  refine ⟨fun k hk => ?_, fun k hk => ?_⟩
  · rw [r7]
    by_cases h1 : k = n + 1
    · subst h1; simp [upd]
    · simp only [upd, if_neg h1]; exact h.1 k (by omega)
  · rw [r4, r5, r6, r8, r9]
    by_cases h1 : k = n
    · subst h1; simp [upd]
    · simp only [upd, if_neg h1]; exact h.2 k (by omega)
theorem Gone.nexts {p : sP} (h : Gone σ p 0) : ∀ m, Gone (goN σ p m) p m := by
  intro m
  induction m with
  | zero => exact h
  | succ m ih => exact ih.next
/-- hurt to this day -/
def hTo (p : sP) (n : Nat) : Int32 := nI (sHl p n) - nI 1
theorem l_goes347 {g to n : Nat} {p : sP} (hn : n < 70) (hL : Gone σ p n) (hs : sOk p.1) (h7 : ∀ k, k < 8 → σ 117 (6 + k) = p.1 k) {Q : Option Value → mS → Prop} (hk : ∀ l7 l8, mF G mX5_goes (d + 2) 33 [some (.ref 116), some (.int (nI g)), some (.int (nI to)), some (.int (sFit p (n + 1))), some (.int (sTir p (n + 1))), some (.int (hTo p (n + 1))), some (.int (nI (n + 1))), l7, l8] [] (gnS σ n p) Q) (l7 l8 : Option Value) : mF G mX5_goes (d + 2) 347 [some (.ref 116), some (.int (nI g)), some (.int (nI to)), some (.int (sFit p (n + 1))), some (.int (sTir p (n + 1))), some (.int (hTo p (n + 1))), some (.int (nI (n))), l7, l8] [] (gnS σ n p) Q := by
  refine F_iincN dX5_goes_347 rfl ?_
  refine F_goto (tgt := 33) dX5_goes_350 rfl ?_
  exact hk _ _

theorem l_goes326 {g to n : Nat} {p : sP} (hn : n < 70) (hL : Gone σ p n) (hs : sOk p.1) (h7 : ∀ k, k < 8 → σ 117 (6 + k) = p.1 k) {Q : Option Value → mS → Prop} (hk : ∀ l7 l8, mF G mX5_goes (d + 2) 33 [some (.ref 116), some (.int (nI g)), some (.int (nI to)), some (.int (sFit p (n + 1))), some (.int (sTir p (n + 1))), some (.int (hTo p (n + 1))), some (.int (nI (n + 1))), l7, l8] [] (gnS σ n p) Q) (l7 l8 : Option Value) : mF G mX5_goes (d + 2) 326 [some (.ref 116), some (.int (nI g)), some (.int (nI to)), some (.int (sFit p (n + 1))), some (.int (sTir p (n + 1))), some (.int (hTo p n)), some (.int (nI (n))), l7, l8] [.int (bI (sInj p n)), .int (nI n), .ref 129] (up (up (up (up (up σ 128 n (bI (decide (n < sHl p n)))) 124 n (sLoad p n)) 127 (n + 1) (sSum p (n + 1))) 125 n (sFit p (n + 1))) 126 n (sTir p (n + 1))) Q := by
  have h347 := l_goes347 (G := G) (d := d) hn hL hs h7 hk l7 l8
  obtain ⟨hv, h1, h14, eh⟩ := sOk_n hs (k := 5) (a := 1) (b := 14) (by omega) (by decide +kernel) (by decide +kernel) (by decide) (by decide)
  refine F_zast dX5_goes_326 (by first | assumption | rfl) (by decide) (by omega) ?_
  rw [nar_b]
  refine F_aload_n dX5_goes_327 rfl ?_
  refine F_getr dX5_goes_328 rfl rfl (by first | assumption | rfl) rfl ?_
  refine F_iload dX5_goes_331 rfl ?_
  refine F_zaldE (v := bI (sInj p n)) dX5_goes_333 (by first | assumption | rfl) (by decide) (by omega) (up_s _ _ _ _) ?_
  refine F_if_eqB (tgt := 347) dX5_goes_334 rfl (fun c334 => ?_) (fun c334 => ?_)
  · have e : hTo p (n + 1) = (if sInj p n = true then nI (n + hv) else hTo p n) := by
      simp only [hTo]
      rw [sHl_s]
      by_cases hj : sInj p n = true
      · rw [if_pos hj, if_pos hj, eh, nI_clamp (by omega), nI_sub (by omega)]; congr 1; omega
      · rw [if_neg hj, if_neg hj]
    rw [e] at h347
    first
      | (rw [if_pos c334] at h347; exact h347)
      | (rw [if_neg (by rw [c334]; decide)] at h347; exact h347)
  · refine F_iload dX5_goes_337 rfl ?_
    refine F_aload_n dX5_goes_339 rfl ?_
    refine F_iconst (v := nI 5) dX5_goes_340 rfl ?_
    refine F_cV1i (v_of (d := d) (k := 5) (by omega)) dX5_goes_341 rfl rfl (by decide) (by first | assumption | rfl) rfl rfl rfl (by decide) (Nat.le_of_ble_eq_true rfl) (by omega) ?_
    refine F_top (y := nI hv) ((h7 5 (by omega)).trans eh) ?_
    refine F_iaddN dX5_goes_344 ?_
    refine F_istore dX5_goes_345 (Nat.le_of_ble_eq_true rfl) ?_
    have e : hTo p (n + 1) = (if sInj p n = true then nI (n + hv) else hTo p n) := by
      simp only [hTo]
      rw [sHl_s]
      by_cases hj : sInj p n = true
      · rw [if_pos hj, if_pos hj, eh, nI_clamp (by omega), nI_sub (by omega)]; congr 1; omega
      · rw [if_neg hj, if_neg hj]
    rw [e] at h347
    first
      | (rw [if_pos c334] at h347; exact h347)
      | (rw [if_neg (by rw [c334]; decide)] at h347; exact h347)

theorem l_goes273 {g to n : Nat} {p : sP} (hn : n < 70) (hL : Gone σ p n) (hs : sOk p.1) (h7 : ∀ k, k < 8 → σ 117 (6 + k) = p.1 k) {Q : Option Value → mS → Prop} (hk : ∀ l7 l8, mF G mX5_goes (d + 2) 33 [some (.ref 116), some (.int (nI g)), some (.int (nI to)), some (.int (sFit p (n + 1))), some (.int (sTir p (n + 1))), some (.int (hTo p (n + 1))), some (.int (nI (n + 1))), l7, l8] [] (gnS σ n p) Q) (l7 l8 : Option Value) : mF G mX5_goes (d + 2) 273 [some (.ref 116), some (.int (nI g)), some (.int (nI to)), some (.int (sFit p (n + 1))), some (.int (sTir p (n + 1))), some (.int (hTo p n)), some (.int (nI (n))), l7, l8] [] (up (up (up (up (up σ 128 n (bI (decide (n < sHl p n)))) 124 n (sLoad p n)) 127 (n + 1) (sSum p (n + 1))) 125 n (sFit p (n + 1))) 126 n (sTir p (n + 1))) Q := by
  have h326 := l_goes326 (G := G) (d := d) hn hL hs h7 hk l7 l8
  have u8 : ∀ k, k ≤ n + 1 → (up (up (up (up (up σ 128 n (bI (decide (n < sHl p n)))) 124 n (sLoad p n)) 127 (n + 1) (sSum p (n + 1))) 125 n (sFit p (n + 1))) 126 n (sTir p (n + 1))) 127 k = sSum p k := fun k hk => by
    show upd (σ 127) (n + 1) (sSum p (n + 1)) k = _
    by_cases h1 : k = n + 1
    · subst h1; simp [upd]
    · simp only [upd, if_neg h1]; exact hL.1 k (by omega)
  refine F_aload_n dX5_goes_273 rfl ?_
  refine F_getr dX5_goes_274 rfl rfl (by first | assumption | rfl) rfl ?_
  refine F_iload dX5_goes_277 rfl ?_
  refine F_iload dX5_goes_279 rfl ?_
  refine F_bipush (v := nI 20) dX5_goes_281 rfl ?_
  refine F_icmp_ltN (tgt := 325) dX5_goes_283 rfl (by omega) (by omega) (fun c283 => ?_) (fun c283 => ?_)
  · refine F_iconst (v := nI 0) dX5_goes_325 rfl ?_
    refine F_top (y := bI (sInj p n)) ?_ h326
    have e : sInj p n = (!decide (n < sHl p n) && decide (20 ≤ n) && decide (p.1 4 * (sSum p (n + 1) - sSum p (n + 1 - 28)) < (sSum p (n + 1) - sSum p (n + 1 - 7)) * nI 400)) := rfl
    rw [e]
    first
      | (rw [decide_eq_false (show ¬ 20 ≤ n by omega), Bool.and_false]; rfl)
      | (rw [c293]; rfl)
      | (rw [u8 (n + 1) (by omega), u8 (n + 1 - 28) (by omega), u8 (n + 1 - 7) (by omega)] at c318
         rw [c293, decide_eq_true (show 20 ≤ n by omega)]
         first
           | (rw [decide_eq_true (Int32.not_le.mp c318)]; rfl)
           | (rw [decide_eq_false (Int32.not_lt.mpr c318)]; rfl))
  · refine F_aload_n dX5_goes_286 rfl ?_
    refine F_getr dX5_goes_287 rfl rfl (by first | assumption | rfl) rfl ?_
    refine F_iload dX5_goes_290 rfl ?_
    refine F_zaldE (v := bI (decide (n < sHl p n))) dX5_goes_292 (by first | assumption | rfl) (by decide) (by omega) (by show upd (σ 128) n _ n = _; simp [upd]) ?_
    refine F_if_neB (tgt := 325) dX5_goes_293 rfl (fun c293 => ?_) (fun c293 => ?_)
    · refine F_iconst (v := nI 0) dX5_goes_325 rfl ?_
      refine F_top (y := bI (sInj p n)) ?_ h326
      have e : sInj p n = (!decide (n < sHl p n) && decide (20 ≤ n) && decide (p.1 4 * (sSum p (n + 1) - sSum p (n + 1 - 28)) < (sSum p (n + 1) - sSum p (n + 1 - 7)) * nI 400)) := rfl
      rw [e]
      first
        | (rw [decide_eq_false (show ¬ 20 ≤ n by omega), Bool.and_false]; rfl)
        | (rw [c293]; rfl)
        | (rw [u8 (n + 1) (by omega), u8 (n + 1 - 28) (by omega), u8 (n + 1 - 7) (by omega)] at c318
           rw [c293, decide_eq_true (show 20 ≤ n by omega)]
           first
             | (rw [decide_eq_true (Int32.not_le.mp c318)]; rfl)
             | (rw [decide_eq_false (Int32.not_lt.mpr c318)]; rfl))
    · refine F_aload_n dX5_goes_296 rfl ?_
      refine F_iload dX5_goes_297 rfl ?_
      refine F_cV1i (v_macute (d := d) hn) dX5_goes_299 rfl rfl (by decide) (by first | assumption | rfl) rfl rfl rfl (by decide) (Nat.le_of_ble_eq_true rfl) (by omega) ?_
      refine F_sipush (v := nI 400) dX5_goes_302 rfl ?_
      refine F_imul dX5_goes_305 ?_
      refine F_aload_n dX5_goes_306 rfl ?_
      refine F_iconst (v := nI 4) dX5_goes_307 rfl ?_
      refine F_cV1i (v_of (d := d) (k := 4) (by omega)) dX5_goes_308 rfl rfl (by decide) (by first | assumption | rfl) rfl rfl rfl (by decide) (Nat.le_of_ble_eq_true rfl) (by omega) ?_
      refine F_top (y := p.1 4) (h7 4 (by omega)) ?_
      refine F_aload_n dX5_goes_311 rfl ?_
      refine F_iload dX5_goes_312 rfl ?_
      refine F_cV1i (v_mchronic (d := d) hn) dX5_goes_314 rfl rfl (by decide) (by first | assumption | rfl) rfl rfl rfl (by decide) (Nat.le_of_ble_eq_true rfl) (by omega) ?_
      refine F_imul dX5_goes_317 ?_
      refine F_icmp_le (tgt := 325) dX5_goes_318 rfl (fun c318 => ?_) (fun c318 => ?_)
      · refine F_iconst (v := nI 0) dX5_goes_325 rfl ?_
        refine F_top (y := bI (sInj p n)) ?_ h326
        have e : sInj p n = (!decide (n < sHl p n) && decide (20 ≤ n) && decide (p.1 4 * (sSum p (n + 1) - sSum p (n + 1 - 28)) < (sSum p (n + 1) - sSum p (n + 1 - 7)) * nI 400)) := rfl
        rw [e]
        first
          | (rw [decide_eq_false (show ¬ 20 ≤ n by omega), Bool.and_false]; rfl)
          | (rw [c293]; rfl)
          | (rw [u8 (n + 1) (by omega), u8 (n + 1 - 28) (by omega), u8 (n + 1 - 7) (by omega)] at c318
             rw [c293, decide_eq_true (show 20 ≤ n by omega)]
             first
               | (rw [decide_eq_true (Int32.not_le.mp c318)]; rfl)
               | (rw [decide_eq_false (Int32.not_lt.mpr c318)]; rfl))
      · refine F_iconst (v := nI 1) dX5_goes_321 rfl ?_
        refine F_goto (tgt := 326) dX5_goes_322 rfl ?_
        refine F_top (y := bI (sInj p n)) ?_ h326
        have e : sInj p n = (!decide (n < sHl p n) && decide (20 ≤ n) && decide (p.1 4 * (sSum p (n + 1) - sSum p (n + 1 - 28)) < (sSum p (n + 1) - sSum p (n + 1 - 7)) * nI 400)) := rfl
        rw [e]
        first
          | (rw [decide_eq_false (show ¬ 20 ≤ n by omega), Bool.and_false]; rfl)
          | (rw [c293]; rfl)
          | (rw [u8 (n + 1) (by omega), u8 (n + 1 - 28) (by omega), u8 (n + 1 - 7) (by omega)] at c318
             rw [c293, decide_eq_true (show 20 ≤ n by omega)]
             first
               | (rw [decide_eq_true (Int32.not_le.mp c318)]; rfl)
               | (rw [decide_eq_false (Int32.not_lt.mpr c318)]; rfl))

theorem l_goes186 {g to n : Nat} {p : sP} (hn : n < 70) (hL : Gone σ p n) (hs : sOk p.1) (h7 : ∀ k, k < 8 → σ 117 (6 + k) = p.1 k) {Q : Option Value → mS → Prop} (hk : ∀ l7 l8, mF G mX5_goes (d + 2) 33 [some (.ref 116), some (.int (nI g)), some (.int (nI to)), some (.int (sFit p (n + 1))), some (.int (sTir p (n + 1))), some (.int (hTo p (n + 1))), some (.int (nI (n + 1))), l7, l8] [] (gnS σ n p) Q) (l7 l8 : Option Value) : mF G mX5_goes (d + 2) 186 [some (.ref 116), some (.int (nI g)), some (.int (nI to)), some (.int (sFit p n)), some (.int (sTir p n)), some (.int (hTo p n)), some (.int (nI (n))), l7, l8] [.int (sLoad p n), .int (nI n), .ref 124] (up σ 128 n (bI (decide (n < sHl p n)))) Q := by
  have h273 := l_goes273 (G := G) (d := d) hn hL hs h7 hk l7 l8
  obtain ⟨z0, q0, r0, e0⟩ := sOk_n hs (k := 0) (a := 2) (b := 99) (by omega) (by decide +kernel) (by decide +kernel) (by decide) (by decide)
  obtain ⟨z1, q1, r1, e1⟩ := sOk_n hs (k := 1) (a := 2) (b := 99) (by omega) (by decide +kernel) (by decide +kernel) (by decide) (by decide)
  have hL1 : ∀ τ : mS, τ 124 = upd (σ 124) n (sLoad p n) → τ 124 n = sLoad p n := fun τ h => by rw [h]; simp [upd]
  refine F_iast dX5_goes_186 (by first | assumption | rfl) (by decide) (by omega) ?_
  refine F_aload_n dX5_goes_187 rfl ?_
  refine F_getr dX5_goes_188 rfl rfl (by first | assumption | rfl) rfl ?_
  refine F_iload dX5_goes_191 rfl ?_
  refine F_iconst (v := nI 1) dX5_goes_193 rfl ?_
  refine F_iaddN dX5_goes_194 ?_
  refine F_aload_n dX5_goes_195 rfl ?_
  refine F_getr dX5_goes_196 rfl rfl (by first | assumption | rfl) rfl ?_
  refine F_iload dX5_goes_199 rfl ?_
  refine F_ialdE (v := sSum p n) dX5_goes_201 (by first | assumption | rfl) (by decide) (by omega) (hL.1 n (Nat.le_refl n)) ?_
  refine F_aload_n dX5_goes_202 rfl ?_
  refine F_getr dX5_goes_203 rfl rfl (by first | assumption | rfl) rfl ?_
  refine F_iload dX5_goes_206 rfl ?_
  refine F_ialdE (v := sLoad p n) dX5_goes_208 (by first | assumption | rfl) (by decide) (by omega) (hL1 _ rfl) ?_
  refine F_iadd dX5_goes_209 ?_
  refine F_top (sSum_s p n).symm ?_
  refine F_iast dX5_goes_210 (by first | assumption | rfl) (by decide) (by omega) ?_
  refine F_iload_n dX5_goes_211 rfl ?_
  refine F_bipush (v := nI 10) dX5_goes_212 rfl ?_
  refine F_aload_n dX5_goes_214 rfl ?_
  refine F_getr dX5_goes_215 rfl rfl (by first | assumption | rfl) rfl ?_
  refine F_iload dX5_goes_218 rfl ?_
  refine F_ialdE (v := sLoad p n) dX5_goes_220 (by first | assumption | rfl) (by decide) (by omega) (hL1 _ rfl) ?_
  refine F_imul dX5_goes_221 ?_
  refine F_iload_n dX5_goes_222 rfl ?_
  refine F_aload_n dX5_goes_223 rfl ?_
  refine F_iconst (v := nI 0) dX5_goes_224 rfl ?_
  refine F_cV1i (v_of (d := d) (k := 0) (by omega)) dX5_goes_225 rfl rfl (by decide) (by first | assumption | rfl) rfl rfl rfl (by decide) (Nat.le_of_ble_eq_true rfl) (by omega) ?_
  refine F_top (y := p.1 0) (h7 0 (by omega)) ?_
  refine F_idiv dX5_goes_228 (by rw [e0]; exact nI_ne0 (by omega) (by omega)) ?_
  refine F_isub dX5_goes_229 ?_
  refine F_iadd dX5_goes_230 ?_
  refine F_top (y := sFit p (n + 1)) (by rw [add_sub_sw, sFit_s]) ?_
  refine F_istore_n dX5_goes_231 (Nat.le_of_ble_eq_true rfl) ?_
  refine F_iload dX5_goes_232 rfl ?_
  refine F_bipush (v := nI 10) dX5_goes_234 rfl ?_
  refine F_aload_n dX5_goes_236 rfl ?_
  refine F_getr dX5_goes_237 rfl rfl (by first | assumption | rfl) rfl ?_
  refine F_iload dX5_goes_240 rfl ?_
  refine F_ialdE (v := sLoad p n) dX5_goes_242 (by first | assumption | rfl) (by decide) (by omega) (hL1 _ rfl) ?_
  refine F_imul dX5_goes_243 ?_
  refine F_iload dX5_goes_244 rfl ?_
  refine F_aload_n dX5_goes_246 rfl ?_
  refine F_iconst (v := nI 1) dX5_goes_247 rfl ?_
  refine F_cV1i (v_of (d := d) (k := 1) (by omega)) dX5_goes_248 rfl rfl (by decide) (by first | assumption | rfl) rfl rfl rfl (by decide) (Nat.le_of_ble_eq_true rfl) (by omega) ?_
  refine F_top (y := p.1 1) (h7 1 (by omega)) ?_
  refine F_idiv dX5_goes_251 (by rw [e1]; exact nI_ne0 (by omega) (by omega)) ?_
  refine F_isub dX5_goes_252 ?_
  refine F_iadd dX5_goes_253 ?_
  refine F_top (y := sTir p (n + 1)) (by rw [add_sub_sw, sTir_s]) ?_
  refine F_istore dX5_goes_254 (Nat.le_of_ble_eq_true rfl) ?_
  refine F_aload_n dX5_goes_256 rfl ?_
  refine F_getr dX5_goes_257 rfl rfl (by first | assumption | rfl) rfl ?_
  refine F_iload dX5_goes_260 rfl ?_
  refine F_iload_n dX5_goes_262 rfl ?_
  refine F_iast dX5_goes_263 (by first | assumption | rfl) (by decide) (by omega) ?_
  refine F_aload_n dX5_goes_264 rfl ?_
  refine F_getr dX5_goes_265 rfl rfl (by first | assumption | rfl) rfl ?_
  refine F_iload dX5_goes_268 rfl ?_
  refine F_iload dX5_goes_270 rfl ?_
  refine F_iast dX5_goes_272 (by first | assumption | rfl) (by decide) (by omega) ?_
  exact h273

theorem l_goes164 {g to n : Nat} {p : sP} (hn : n < 70) (hL : Gone σ p n) (hs : sOk p.1) (h7 : ∀ k, k < 8 → σ 117 (6 + k) = p.1 k) {Q : Option Value → mS → Prop} (hk : ∀ l7 l8, mF G mX5_goes (d + 2) 33 [some (.ref 116), some (.int (nI g)), some (.int (nI to)), some (.int (sFit p (n + 1))), some (.int (sTir p (n + 1))), some (.int (hTo p (n + 1))), some (.int (nI (n + 1))), l7, l8] [] (gnS σ n p) Q) (l8 : Option Value) {v : Int32} (hv : (if n < sHl p n then nI 0 else v) = sLoad p n) : mF G mX5_goes (d + 2) 164 [some (.ref 116), some (.int (nI g)), some (.int (nI to)), some (.int (sFit p n)), some (.int (sTir p n)), some (.int (hTo p n)), some (.int (nI (n))), some (.int v), l8] [] (up σ 128 n (bI (decide (n < sHl p n)))) Q := by
  have h186 := l_goes186 (G := G) (d := d) hn hL hs h7 hk (some (.int v)) l8
  refine F_aload_n dX5_goes_164 rfl ?_
  refine F_getr dX5_goes_165 rfl rfl (by first | assumption | rfl) rfl ?_
  refine F_iload dX5_goes_168 rfl ?_
  refine F_aload_n dX5_goes_170 rfl ?_
  refine F_getr dX5_goes_171 rfl rfl (by first | assumption | rfl) rfl ?_
  refine F_iload dX5_goes_174 rfl ?_
  refine F_zaldE (v := bI (decide (n < sHl p n))) dX5_goes_176 (by first | assumption | rfl) (by decide) (by omega) (up_s _ _ _ _) ?_
  refine F_if_eqB (tgt := 184) dX5_goes_177 rfl (fun c177 => ?_) (fun c177 => ?_)
  · refine F_iload dX5_goes_184 rfl ?_
    refine F_top (y := sLoad p n) ?_ h186
    first
      | (rw [if_pos (of_decide_eq_true c177)] at hv; exact hv)
      | (rw [if_neg (of_decide_eq_false c177)] at hv; exact hv)
  · refine F_iconst (v := nI 0) dX5_goes_180 rfl ?_
    refine F_goto (tgt := 186) dX5_goes_181 rfl ?_
    refine F_top (y := sLoad p n) ?_ h186
    first
      | (rw [if_pos (of_decide_eq_true c177)] at hv; exact hv)
      | (rw [if_neg (of_decide_eq_false c177)] at hv; exact hv)

theorem l_goes116 {g to n : Nat} {p : sP} (hn : n < 70) (hL : Gone σ p n) (hs : sOk p.1) (h7 : ∀ k, k < 8 → σ 117 (6 + k) = p.1 k) {Q : Option Value → mS → Prop} (hk : ∀ l7 l8, mF G mX5_goes (d + 2) 33 [some (.ref 116), some (.int (nI g)), some (.int (nI to)), some (.int (sFit p (n + 1))), some (.int (sTir p (n + 1))), some (.int (hTo p (n + 1))), some (.int (nI (n + 1))), l7, l8] [] (gnS σ n p) Q) (l7 l8 : Option Value) : mF G mX5_goes (d + 2) 116 [some (.ref 116), some (.int (nI g)), some (.int (nI to)), some (.int (sFit p n)), some (.int (sTir p n)), some (.int (hTo p n)), some (.int (nI (n))), l7, l8] [.int (if p.2.2.1 n = true then p.2.1 n * p.1 7 / nI 100 else p.2.1 n)] (up σ 128 n (bI (decide (n < sHl p n)))) Q := by
  have h164 := fun (l8 : Option Value) (v : Int32) hv => l_goes164 (G := G) (d := d) hn hL hs h7 hk l8 (v := v) hv
  have hm : n / 7 * 7 = n - n % 7 := by have := Nat.mod_add_div n 7; omega
  have hm2 : n - n % 7 ≤ n := Nat.sub_le _ _
  have u8 : ∀ k, k ≤ n → (up σ 128 n (bI (decide (n < sHl p n)))) 127 k = sSum p k := fun k hk => hL.1 k hk
  have eL : sLoad p n = if n < sHl p n then nI 0 else if p.1 6 - (sSum p n - sSum p (n - n % 7)) < (if p.2.2.1 n = true then p.2.1 n * p.1 7 / nI 100 else p.2.1 n) then p.1 6 - (sSum p n - sSum p (n - n % 7)) else (if p.2.2.1 n = true then p.2.1 n * p.1 7 / nI 100 else p.2.1 n) := rfl
  refine F_istore dX5_goes_116 (Nat.le_of_ble_eq_true rfl) ?_
  refine F_aload_n dX5_goes_118 rfl ?_
  refine F_bipush (v := nI 6) dX5_goes_119 rfl ?_
  refine F_cV1i (v_of (d := d) (k := 6) (by omega)) dX5_goes_121 rfl rfl (by decide) (by first | assumption | rfl) rfl rfl rfl (by decide) (Nat.le_of_ble_eq_true rfl) (by omega) ?_
  refine F_top (y := p.1 6) (h7 6 (by omega)) ?_
  refine F_aload_n dX5_goes_124 rfl ?_
  refine F_getr dX5_goes_125 rfl rfl (by first | assumption | rfl) rfl ?_
  refine F_iload dX5_goes_128 rfl ?_
  refine F_ialdE (v := sSum p n) dX5_goes_130 (by first | assumption | rfl) (by decide) (by omega) (u8 n (Nat.le_refl n)) ?_
  refine F_aload_n dX5_goes_131 rfl ?_
  refine F_getr dX5_goes_132 rfl rfl (by first | assumption | rfl) rfl ?_
  refine F_iload dX5_goes_135 rfl ?_
  refine F_bipush (v := nI 7) dX5_goes_137 rfl ?_
  refine F_idiv dX5_goes_139 (by decide) ?_
  refine F_top (nI_div (by omega) (by decide)) ?_
  refine F_bipush (v := nI 7) dX5_goes_140 rfl ?_
  refine F_imulN dX5_goes_142 ?_
  refine F_ialdE (v := sSum p (n - n % 7)) dX5_goes_143 (by first | assumption | rfl) (by decide) (by omega) (by rw [hm]; exact u8 _ hm2) ?_
  refine F_isub dX5_goes_144 ?_
  refine F_isub dX5_goes_145 ?_
  refine F_istore dX5_goes_146 (Nat.le_of_ble_eq_true rfl) ?_
  refine F_iload dX5_goes_148 rfl ?_
  refine F_iload dX5_goes_150 rfl ?_
  refine F_icmp_le (tgt := 160) dX5_goes_152 rfl (fun c152 => ?_) (fun c152 => ?_)
  · refine F_iload dX5_goes_160 rfl ?_
    refine F_istore dX5_goes_162 (Nat.le_of_ble_eq_true rfl) ?_
    refine h164 _ _ ?_
    rw [eL]
    congr 1
    first
      | rw [if_pos (Int32.not_le.mp c152)]
      | rw [if_neg (Int32.not_lt.mpr c152)]
  · refine F_iload dX5_goes_155 rfl ?_
    refine F_goto (tgt := 162) dX5_goes_157 rfl ?_
    refine F_istore dX5_goes_162 (Nat.le_of_ble_eq_true rfl) ?_
    refine h164 _ _ ?_
    rw [eL]
    congr 1
    first
      | rw [if_pos (Int32.not_le.mp c152)]
      | rw [if_neg (Int32.not_lt.mpr c152)]

theorem l_goes88 {g to n : Nat} {p : sP} (hn : n < 70) (hL : Gone σ p n) (hs : sOk p.1) (h7 : ∀ k, k < 8 → σ 117 (6 + k) = p.1 k) {Q : Option Value → mS → Prop} (hk : ∀ l7 l8, mF G mX5_goes (d + 2) 33 [some (.ref 116), some (.int (nI g)), some (.int (nI to)), some (.int (sFit p (n + 1))), some (.int (sTir p (n + 1))), some (.int (hTo p (n + 1))), some (.int (nI (n + 1))), l7, l8] [] (gnS σ n p) Q) {nc : Nat} (h14 : σ 117 14 = nI nc) (h4 : nc ≤ 4) (hcf : cfN (fun i => σ 117 (15 + 2 * i)) (fun i => σ 117 (15 + 2 * i + 1)) (σ 116 23) n nc = p.2.2.1 n) (l7 l8 : Option Value) : mF G mX5_goes (d + 2) 88 [some (.ref 116), some (.int (nI g)), some (.int (nI to)), some (.int (sFit p n)), some (.int (sTir p n)), some (.int (hTo p n)), some (.int (nI (n))), l7, l8] [.int (p.2.1 n)] (up σ 128 n (bI (decide (n < sHl p n)))) Q := by
  have h116 := fun l7 l8 => l_goes116 (G := G) (d := d) hn hL hs h7 hk l7 l8
  refine F_istore dX5_goes_88 (Nat.le_of_ble_eq_true rfl) ?_
  refine F_aload_n dX5_goes_90 rfl ?_
  refine F_iload dX5_goes_91 rfl ?_
  refine F_cV1i (v_isCamp (d := d) hn h14 h4) dX5_goes_93 rfl rfl (by decide) (by first | assumption | rfl) rfl rfl rfl (by decide) (Nat.le_of_ble_eq_true rfl) (by omega) ?_
  refine F_if_eqB (tgt := 114) dX5_goes_96 rfl (fun c96 => ?_) (fun c96 => ?_)
  · refine F_iload dX5_goes_114 rfl ?_
    refine F_top ?_ (h116 _ l8)
    rw [← hcf]
    first
      | rw [if_pos (show cfN (fun i => σ 117 (15 + 2 * i)) (fun i => σ 117 (15 + 2 * i + 1)) (σ 116 23) n nc = true from c96)]
      | rw [if_neg (by rw [show cfN (fun i => σ 117 (15 + 2 * i)) (fun i => σ 117 (15 + 2 * i + 1)) (σ 116 23) n nc = false from c96]; decide)]
  · refine F_iload dX5_goes_99 rfl ?_
    refine F_aload_n dX5_goes_101 rfl ?_
    refine F_bipush (v := nI 7) dX5_goes_102 rfl ?_
    refine F_cV1i (v_of (d := d) (k := 7) (by omega)) dX5_goes_104 rfl rfl (by decide) (by first | assumption | rfl) rfl rfl rfl (by decide) (Nat.le_of_ble_eq_true rfl) (by omega) ?_
    refine F_top (y := p.1 7) (h7 7 (by omega)) ?_
    refine F_imul dX5_goes_107 ?_
    refine F_bipush (v := nI 100) dX5_goes_108 rfl ?_
    refine F_idiv dX5_goes_110 (by decide) ?_
    refine F_goto (tgt := 116) dX5_goes_111 rfl ?_
    refine F_top ?_ (h116 _ l8)
    rw [← hcf]
    first
      | rw [if_pos (show cfN (fun i => σ 117 (15 + 2 * i)) (fun i => σ 117 (15 + 2 * i + 1)) (σ 116 23) n nc = true from c96)]
      | rw [if_neg (by rw [show cfN (fun i => σ 117 (15 + 2 * i)) (fun i => σ 117 (15 + 2 * i + 1)) (σ 116 23) n nc = false from c96]; decide)]

theorem l_goes33 {g to n : Nat} {p : sP} (hn : n < 70) (hL : Gone σ p n) (hs : sOk p.1) (h7 : ∀ k, k < 8 → σ 117 (6 + k) = p.1 k) {Q : Option Value → mS → Prop} (hk : ∀ l7 l8, mF G mX5_goes (d + 2) 33 [some (.ref 116), some (.int (nI g)), some (.int (nI to)), some (.int (sFit p (n + 1))), some (.int (sTir p (n + 1))), some (.int (hTo p (n + 1))), some (.int (nI (n + 1))), l7, l8] [] (gnS σ n p) Q) {nc : Nat} (hto : n ≤ to) (ht : to < 70) (hg : g < 6) (h14 : σ 117 14 = nI nc) (h4 : nc ≤ 4) (hcf : cfN (fun i => σ 117 (15 + 2 * i)) (fun i => σ 117 (15 + 2 * i + 1)) (σ 116 23) n nc = p.2.2.1 n) (hkd : ∃ j, j < 6 ∧ σ 117 (40 + 70 * g + n) = nI j) (hld : (if nI n = σ 116 24 then σ 116 25 else σ 117 (σ 117 (40 + 70 * g + n)).toNatClampNeg) = p.2.1 n) (l7 l8 : Option Value) : mF G mX5_goes (d + 2) 33 [some (.ref 116), some (.int (nI g)), some (.int (nI to)), some (.int (sFit p n)), some (.int (sTir p n)), some (.int (hTo p n)), some (.int (nI (n))), l7, l8] [] σ Q := by
  have h88 := fun l7 l8 => l_goes88 (G := G) (d := d) hn hL hs h7 hk h14 h4 hcf l7 l8
  obtain ⟨j, hj, ej⟩ := hkd
  have hhl := sHl_le p hs n
  have eh : ∀ b, b = decide (n < sHl p n) → ∀ v, vp_nar .boolean v = bI b → up σ 128 n (vp_nar .boolean v) = (up σ 128 n (bI (decide (n < sHl p n)))) := fun b hb v hv => by rw [hv, hb]
  refine F_iload dX5_goes_33 rfl ?_
  refine F_iload_n dX5_goes_35 rfl ?_
  refine F_icmp_gtN (tgt := 353) dX5_goes_36 rfl (by omega) (by omega) (fun c36 => ?_) (fun c36 => ?_)
  · exact absurd c36 (by omega)
  · refine F_aload_n dX5_goes_39 rfl ?_
    refine F_getr dX5_goes_40 rfl rfl (by first | assumption | rfl) rfl ?_
    refine F_iload dX5_goes_43 rfl ?_
    refine F_iload dX5_goes_45 rfl ?_
    refine F_iload dX5_goes_47 rfl ?_
    refine F_icmp_gt (tgt := 56) dX5_goes_49 rfl (fun c49 => ?_) (fun c49 => ?_)
    · refine F_iconst (v := nI 0) dX5_goes_56 rfl ?_
      refine F_zast dX5_goes_57 (by first | assumption | rfl) (by decide) (by omega) ?_
      refine F_sg (σ2 := (up σ 128 n (bI (decide (n < sHl p n))))) ?_ ?_
      · simp only [hTo] at c49
        first
          | (rw [← Int32.not_le, le_pred (by omega) (by omega)] at c49; exact eh _ (decide_eq_false c49).symm _ rfl)
          | (rw [Int32.not_lt, le_pred (by omega) (by omega)] at c49; exact eh _ (decide_eq_true c49).symm _ rfl)
      refine F_iload dX5_goes_58 rfl ?_
      refine F_aload_n dX5_goes_60 rfl ?_
      refine F_geti dX5_goes_61 rfl rfl (by first | assumption | rfl) rfl ?_
      refine F_icmp_ne (tgt := 74) dX5_goes_64 rfl (fun c64 => ?_) (fun c64 => ?_)
      · refine F_aload_n dX5_goes_74 rfl ?_
        refine F_getr dX5_goes_75 rfl rfl (by first | assumption | rfl) rfl ?_
        refine F_iconst (v := nI 0) dX5_goes_78 rfl ?_
        refine F_aload_n dX5_goes_79 rfl ?_
        refine F_iload_n dX5_goes_80 rfl ?_
        refine F_iload dX5_goes_81 rfl ?_
        refine F_cV2i (v_kindOf (d := d) hg hn) dX5_goes_83 rfl rfl (by decide) (by first | assumption | rfl) rfl rfl rfl (by decide) (Nat.le_of_ble_eq_true rfl) (by omega) ?_
        refine F_top (y := nI j) ej ?_
        refine F_iaddN dX5_goes_86 ?_
        refine F_iald dX5_goes_87 (by first | assumption | rfl) (by decide) (by omega) ?_
        refine F_top ?_ (h88 l7 l8)
        rw [← hld]
        first
          | (rw [if_pos (show nI n = σ 116 24 from c64)]; rfl)
          | (rw [if_neg (show ¬ nI n = σ 116 24 from c64), ej, nI_clamp (by omega), Nat.zero_add]; rfl)
      · refine F_aload_n dX5_goes_67 rfl ?_
        refine F_geti dX5_goes_68 rfl rfl (by first | assumption | rfl) rfl ?_
        refine F_goto (tgt := 88) dX5_goes_71 rfl ?_
        refine F_top ?_ (h88 l7 l8)
        rw [← hld]
        first
          | (rw [if_pos (show nI n = σ 116 24 from c64)]; rfl)
          | (rw [if_neg (show ¬ nI n = σ 116 24 from c64), ej, nI_clamp (by omega), Nat.zero_add]; rfl)
    · refine F_iconst (v := nI 1) dX5_goes_52 rfl ?_
      refine F_goto (tgt := 57) dX5_goes_53 rfl ?_
      refine F_zast dX5_goes_57 (by first | assumption | rfl) (by decide) (by omega) ?_
      refine F_sg (σ2 := (up σ 128 n (bI (decide (n < sHl p n))))) ?_ ?_
      · simp only [hTo] at c49
        first
          | (rw [← Int32.not_le, le_pred (by omega) (by omega)] at c49; exact eh _ (decide_eq_false c49).symm _ rfl)
          | (rw [Int32.not_lt, le_pred (by omega) (by omega)] at c49; exact eh _ (decide_eq_true c49).symm _ rfl)
      refine F_iload dX5_goes_58 rfl ?_
      refine F_aload_n dX5_goes_60 rfl ?_
      refine F_geti dX5_goes_61 rfl rfl (by first | assumption | rfl) rfl ?_
      refine F_icmp_ne (tgt := 74) dX5_goes_64 rfl (fun c64 => ?_) (fun c64 => ?_)
      · refine F_aload_n dX5_goes_74 rfl ?_
        refine F_getr dX5_goes_75 rfl rfl (by first | assumption | rfl) rfl ?_
        refine F_iconst (v := nI 0) dX5_goes_78 rfl ?_
        refine F_aload_n dX5_goes_79 rfl ?_
        refine F_iload_n dX5_goes_80 rfl ?_
        refine F_iload dX5_goes_81 rfl ?_
        refine F_cV2i (v_kindOf (d := d) hg hn) dX5_goes_83 rfl rfl (by decide) (by first | assumption | rfl) rfl rfl rfl (by decide) (Nat.le_of_ble_eq_true rfl) (by omega) ?_
        refine F_top (y := nI j) ej ?_
        refine F_iaddN dX5_goes_86 ?_
        refine F_iald dX5_goes_87 (by first | assumption | rfl) (by decide) (by omega) ?_
        refine F_top ?_ (h88 l7 l8)
        rw [← hld]
        first
          | (rw [if_pos (show nI n = σ 116 24 from c64)]; rfl)
          | (rw [if_neg (show ¬ nI n = σ 116 24 from c64), ej, nI_clamp (by omega), Nat.zero_add]; rfl)
      · refine F_aload_n dX5_goes_67 rfl ?_
        refine F_geti dX5_goes_68 rfl rfl (by first | assumption | rfl) rfl ?_
        refine F_goto (tgt := 88) dX5_goes_71 rfl ?_
        refine F_top ?_ (h88 l7 l8)
        rw [← hld]
        first
          | (rw [if_pos (show nI n = σ 116 24 from c64)]; rfl)
          | (rw [if_neg (show ¬ nI n = σ 116 24 from c64), ej, nI_clamp (by omega), Nat.zero_add]; rfl)

theorem v_goes {g nc to : Nat} (hg : g < 6) (ht : to < 70) (h14 : σ 117 14 = nI nc) (h4 : nc ≤ 4) (hs : sOk (pM σ g nc).1) (hkd : ∀ k, k < 70 → ∃ j, j < 6 ∧ σ 117 (40 + 70 * g + k) = nI j) (h0 : σ 127 0 = nI 0) : mV G mX5_goes (d + 2) [.ref 116, .int (nI g), .int (nI to)] σ none (goN σ (pM σ g nc) (to + 1)) := by
  refine mV_of fun Q hQ => ?_
  have hG0 : Gone σ (pM σ g nc) 0 := ⟨fun k hk => by
    have : k = 0 := by omega
    subst this
    exact h0, fun k hk => absurd hk (by omega)⟩
  have far : ∀ n a, a < 124 → goN σ (pM σ g nc) n a = σ a := fun n a ha => goN_far σ _ (Or.inl ha) n
  have hl : ∀ n, n ≤ to + 1 → ∀ l7 l8, mF G mX5_goes (d + 2) 33 [some (.ref 116), some (.int (nI g)), some (.int (nI to)), some (.int (sFit (pM σ g nc) n)), some (.int (sTir (pM σ g nc) n)), some (.int (hTo (pM σ g nc) n)), some (.int (nI (n))), l7, l8] [] (goN σ (pM σ g nc) n) Q := by
    refine loopUp (to + 1) (fun n hn ih l7 l8 => ?_)
    by_cases he : n = to + 1
    · subst he
      refine F_iload dX5_goes_33 rfl ?_
      refine F_iload_n dX5_goes_35 rfl ?_
      refine F_icmp_gtN (tgt := 353) dX5_goes_36 rfl (by omega) (by omega) (fun c36 => ?_) (fun c36 => ?_)
      · refine F_vret dX5_goes_353 rfl ?_
        exact hQ
      · exact absurd (show to < to + 1 by omega) c36
    · refine l_goes33 (nc := nc) (by omega) (hG0.nexts n) hs (fun k hk => by rw [far n 117 (by omega)]; rfl) (fun l7 l8 => ih (by omega) l7 l8) (by omega) ht hg (by rw [far n 117 (by omega)]; exact h14) h4 ?_ ?_ ?_ l7 l8
      · rw [far n 117 (by omega), far n 116 (by omega)]; rfl
      · rw [far n 117 (by omega)]; exact hkd n (by omega)
      · rw [far n 117 (by omega), far n 116 (by omega)]; rfl
  refine F_aload_n dX5_goes_0 rfl ?_
  refine F_getr dX5_goes_1 rfl rfl (by first | assumption | rfl) rfl ?_
  refine F_bipush (v := nI 24) dX5_goes_4 rfl ?_
  refine F_iconst (v := nI 2) dX5_goes_6 rfl ?_
  refine F_iload_n dX5_goes_7 rfl ?_
  refine F_imulN dX5_goes_8 ?_
  refine F_iaddN dX5_goes_9 ?_
  refine F_iald dX5_goes_10 (by first | assumption | rfl) (by decide) (by omega) ?_
  refine F_istore_n dX5_goes_11 (Nat.le_of_ble_eq_true rfl) ?_
  refine F_aload_n dX5_goes_12 rfl ?_
  refine F_getr dX5_goes_13 rfl rfl (by first | assumption | rfl) rfl ?_
  refine F_bipush (v := nI 24) dX5_goes_16 rfl ?_
  refine F_iconst (v := nI 2) dX5_goes_18 rfl ?_
  refine F_iload_n dX5_goes_19 rfl ?_
  refine F_imulN dX5_goes_20 ?_
  refine F_iaddN dX5_goes_21 ?_
  refine F_iconst (v := nI 1) dX5_goes_22 rfl ?_
  refine F_iaddN dX5_goes_23 ?_
  refine F_iald dX5_goes_24 (by first | assumption | rfl) (by decide) (by omega) ?_
  refine F_istore dX5_goes_25 (Nat.le_of_ble_eq_true rfl) ?_
  refine F_iconst (v := (-1)) dX5_goes_27 rfl ?_
  refine F_istore dX5_goes_28 (Nat.le_of_ble_eq_true rfl) ?_
  refine F_iconst (v := nI 0) dX5_goes_30 rfl ?_
  refine F_istore dX5_goes_31 (Nat.le_of_ble_eq_true rfl) ?_
  refine F_lo ?_ (hl 0 (Nat.zero_le _) none none)
  rfl

theorem v_mformOf {g nc to : Nat} (hg : g < 6) (ht : to < 70) (h14 : σ 117 14 = nI nc) (h4 : nc ≤ 4) (hs : sOk (pM σ g nc).1) (hkd : ∀ k, k < 70 → ∃ j, j < 6 ∧ σ 117 (40 + 70 * g + k) = nI j) (h0 : σ 127 0 = nI 0) : mV G mX5_formOf (d + 3) [.ref 116, .int (nI g), .int (nI to)] σ (some (.int (sForm (pM σ g nc) to))) (goN σ (pM σ g nc) (to + 1)) := by
  refine mV_of fun Q hQ => ?_
  have hG0 : Gone σ (pM σ g nc) 0 := ⟨fun k hk => by
    have : k = 0 := by omega
    subst this
    exact h0, fun k hk => absurd hk (by omega)⟩
  have hG := (hG0.nexts (to + 1)).2 to (by omega)
  refine F_aload_n dX5_formOf_0 rfl ?_
  refine F_iload_n dX5_formOf_1 rfl ?_
  refine F_iload_n dX5_formOf_2 rfl ?_
  refine F_cV2v (v_goes (d := d) hg ht h14 h4 hs hkd h0) dX5_formOf_3 rfl rfl (by decide) (by first | assumption | rfl) rfl rfl rfl (by decide) (Nat.le_of_ble_eq_true rfl) (by omega) ?_
  refine F_aload_n dX5_formOf_6 rfl ?_
  refine F_iload_n dX5_formOf_7 rfl ?_
  refine F_cV1i (v_formAt (d := d) ht) dX5_formOf_8 rfl rfl (by decide) (by first | assumption | rfl) rfl rfl rfl (by decide) (Nat.le_of_ble_eq_true rfl) (by omega) ?_
  refine F_iret dX5_formOf_11 rfl ?_
  refine Qr hQ ?_ rfl
  rw [goN_far _ _ (by omega), hG.2.1, hG.2.2.1]
  rfl

end MG
