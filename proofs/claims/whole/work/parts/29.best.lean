/-! ===== best: rows of kinds ===== -/
theorem dX4_best_0 : decode cX4_best 0 = .ok (.aload_n 0, 1) := by decide +kernel
theorem dX4_best_1 : decode cX4_best 1 = .ok (.getfield 10, 3) := by decide +kernel
theorem dX4_best_4 : decode cX4_best 4 = .ok (.iload_n 1, 1) := by decide +kernel
theorem dX4_best_5 : decode cX4_best 5 = .ok (.invokevirtual 111, 3) := by decide +kernel
theorem dX4_best_8 : decode cX4_best 8 = .ok (.ifCond .eq 10, 3) := by decide +kernel
theorem dX4_best_11 : decode cX4_best 11 = .ok (.iload_n 2, 1) := by decide +kernel
theorem dX4_best_12 : decode cX4_best 12 = .ok (.invokestatic 145, 3) := by decide +kernel
theorem dX4_best_15 : decode cX4_best 15 = .ok (.ifCond .ne 6, 3) := by decide +kernel
theorem dX4_best_18 : decode cX4_best 18 = .ok (.ldc 175, 2) := by decide +kernel
theorem dX4_best_20 : decode cX4_best 20 = .ok (.ireturn, 1) := by decide +kernel
theorem dX4_best_21 : decode cX4_best 21 = .ok (.iload_n 3, 1) := by decide +kernel
theorem dX4_best_22 : decode cX4_best 22 = .ok (.ifCond .lt 24, 3) := by decide +kernel
theorem dX4_best_25 : decode cX4_best 25 = .ok (.iload_n 3, 1) := by decide +kernel
theorem dX4_best_26 : decode cX4_best 26 = .ok (.iconst 4, 1) := by decide +kernel
theorem dX4_best_27 : decode cX4_best 27 = .ok (.if_icmp .gt 19, 3) := by decide +kernel
theorem dX4_best_30 : decode cX4_best 30 = .ok (.iload_n 3, 1) := by decide +kernel
theorem dX4_best_31 : decode cX4_best 31 = .ok (.iload_n 2, 1) := by decide +kernel
theorem dX4_best_32 : decode cX4_best 32 = .ok (.if_icmp .gt 14, 3) := by decide +kernel
theorem dX4_best_35 : decode cX4_best 35 = .ok (.iload 4, 2) := by decide +kernel
theorem dX4_best_37 : decode cX4_best 37 = .ok (.ifCond .lt 9, 3) := by decide +kernel
theorem dX4_best_40 : decode cX4_best 40 = .ok (.iload 4, 2) := by decide +kernel
theorem dX4_best_42 : decode cX4_best 42 = .ok (.iconst 1, 1) := by decide +kernel
theorem dX4_best_43 : decode cX4_best 43 = .ok (.if_icmp .le 6, 3) := by decide +kernel
theorem dX4_best_46 : decode cX4_best 46 = .ok (.ldc 175, 2) := by decide +kernel
theorem dX4_best_48 : decode cX4_best 48 = .ok (.ireturn, 1) := by decide +kernel
theorem dX4_best_49 : decode cX4_best 49 = .ok (.aload_n 0, 1) := by decide +kernel
theorem dX4_best_50 : decode cX4_best 50 = .ok (.getfield 30, 3) := by decide +kernel
theorem dX4_best_53 : decode cX4_best 53 = .ok (.aload_n 0, 1) := by decide +kernel
theorem dX4_best_54 : decode cX4_best 54 = .ok (.getfield 10, 3) := by decide +kernel
theorem dX4_best_57 : decode cX4_best 57 = .ok (.iload_n 1, 1) := by decide +kernel
theorem dX4_best_58 : decode cX4_best 58 = .ok (.iconst (-1), 1) := by decide +kernel
theorem dX4_best_59 : decode cX4_best 59 = .ok (.iload_n 2, 1) := by decide +kernel
theorem dX4_best_60 : decode cX4_best 60 = .ok (.iload_n 3, 1) := by decide +kernel
theorem dX4_best_61 : decode cX4_best 61 = .ok (.isub, 1) := by decide +kernel
theorem dX4_best_62 : decode cX4_best 62 = .ok (.iconst 1, 1) := by decide +kernel
theorem dX4_best_63 : decode cX4_best 63 = .ok (.isub, 1) := by decide +kernel
theorem dX4_best_64 : decode cX4_best 64 = .ok (.invokevirtual 148, 3) := by decide +kernel
theorem dX4_best_67 : decode cX4_best 67 = .ok (.aload_n 0, 1) := by decide +kernel
theorem dX4_best_68 : decode cX4_best 68 = .ok (.getfield 30, 3) := by decide +kernel
theorem dX4_best_71 : decode cX4_best 71 = .ok (.ldc 175, 2) := by decide +kernel
theorem dX4_best_73 : decode cX4_best 73 = .ok (.putfield 194, 3) := by decide +kernel
theorem dX4_best_76 : decode cX4_best 76 = .ok (.aload_n 0, 1) := by decide +kernel
theorem dX4_best_77 : decode cX4_best 77 = .ok (.getfield 30, 3) := by decide +kernel
theorem dX4_best_80 : decode cX4_best 80 = .ok (.ldc 175, 2) := by decide +kernel
theorem dX4_best_82 : decode cX4_best 82 = .ok (.putfield 197, 3) := by decide +kernel
theorem dX4_best_85 : decode cX4_best 85 = .ok (.aload_n 0, 1) := by decide +kernel
theorem dX4_best_86 : decode cX4_best 86 = .ok (.getfield 30, 3) := by decide +kernel
theorem dX4_best_89 : decode cX4_best 89 = .ok (.iload_n 2, 1) := by decide +kernel
theorem dX4_best_90 : decode cX4_best 90 = .ok (.iload_n 3, 1) := by decide +kernel
theorem dX4_best_91 : decode cX4_best 91 = .ok (.iconst 0, 1) := by decide +kernel
theorem dX4_best_92 : decode cX4_best 92 = .ok (.invokevirtual 200, 3) := by decide +kernel
theorem dX4_best_95 : decode cX4_best 95 = .ok (.iload 4, 2) := by decide +kernel
theorem dX4_best_97 : decode cX4_best 97 = .ok (.ifCond .ne 13, 3) := by decide +kernel
theorem dX4_best_100 : decode cX4_best 100 = .ok (.aload_n 0, 1) := by decide +kernel
theorem dX4_best_101 : decode cX4_best 101 = .ok (.getfield 30, 3) := by decide +kernel
theorem dX4_best_104 : decode cX4_best 104 = .ok (.getfield 197, 3) := by decide +kernel
theorem dX4_best_107 : decode cX4_best 107 = .ok (.goto 10, 3) := by decide +kernel
theorem dX4_best_110 : decode cX4_best 110 = .ok (.aload_n 0, 1) := by decide +kernel
theorem dX4_best_111 : decode cX4_best 111 = .ok (.getfield 30, 3) := by decide +kernel
theorem dX4_best_114 : decode cX4_best 114 = .ok (.getfield 194, 3) := by decide +kernel
theorem dX4_best_117 : decode cX4_best 117 = .ok (.ireturn, 1) := by decide +kernel
theorem dX5_best_0 : decode cX5_best 0 = .ok (.aload_n 0, 1) := by decide +kernel
theorem dX5_best_1 : decode cX5_best 1 = .ok (.iconst 0, 1) := by decide +kernel
theorem dX5_best_2 : decode cX5_best 2 = .ok (.putfield 61, 3) := by decide +kernel
theorem dX5_best_5 : decode cX5_best 5 = .ok (.aload_n 0, 1) := by decide +kernel
theorem dX5_best_6 : decode cX5_best 6 = .ok (.iload_n 1, 1) := by decide +kernel
theorem dX5_best_7 : decode cX5_best 7 = .ok (.iload_n 2, 1) := by decide +kernel
theorem dX5_best_8 : decode cX5_best 8 = .ok (.invokevirtual 79, 3) := by decide +kernel
theorem dX5_best_11 : decode cX5_best 11 = .ok (.ifCond .eq 27, 3) := by decide +kernel
theorem dX5_best_14 : decode cX5_best 14 = .ok (.iload_n 3, 1) := by decide +kernel
theorem dX5_best_15 : decode cX5_best 15 = .ok (.iconst 0, 1) := by decide +kernel
theorem dX5_best_16 : decode cX5_best 16 = .ok (.iconst 4, 1) := by decide +kernel
theorem dX5_best_17 : decode cX5_best 17 = .ok (.invokestatic 68, 3) := by decide +kernel
theorem dX5_best_20 : decode cX5_best 20 = .ok (.ifCond .eq 18, 3) := by decide +kernel
theorem dX5_best_23 : decode cX5_best 23 = .ok (.iload_n 3, 1) := by decide +kernel
theorem dX5_best_24 : decode cX5_best 24 = .ok (.iload_n 2, 1) := by decide +kernel
theorem dX5_best_25 : decode cX5_best 25 = .ok (.if_icmp .gt 13, 3) := by decide +kernel
theorem dX5_best_28 : decode cX5_best 28 = .ok (.iload 4, 2) := by decide +kernel
theorem dX5_best_30 : decode cX5_best 30 = .ok (.iconst 0, 1) := by decide +kernel
theorem dX5_best_31 : decode cX5_best 31 = .ok (.iconst 1, 1) := by decide +kernel
theorem dX5_best_32 : decode cX5_best 32 = .ok (.invokestatic 68, 3) := by decide +kernel
theorem dX5_best_35 : decode cX5_best 35 = .ok (.ifCond .ne 6, 3) := by decide +kernel
theorem dX5_best_38 : decode cX5_best 38 = .ok (.ldc 203, 2) := by decide +kernel
theorem dX5_best_40 : decode cX5_best 40 = .ok (.ireturn, 1) := by decide +kernel
theorem dX5_best_41 : decode cX5_best 41 = .ok (.aload_n 0, 1) := by decide +kernel
theorem dX5_best_42 : decode cX5_best 42 = .ok (.iload_n 1, 1) := by decide +kernel
theorem dX5_best_43 : decode cX5_best 43 = .ok (.invokevirtual 204, 3) := by decide +kernel
theorem dX5_best_46 : decode cX5_best 46 = .ok (.iconst 1, 1) := by decide +kernel
theorem dX5_best_47 : decode cX5_best 47 = .ok (.istore 5, 2) := by decide +kernel
theorem dX5_best_49 : decode cX5_best 49 = .ok (.iconst 0, 1) := by decide +kernel
theorem dX5_best_50 : decode cX5_best 50 = .ok (.istore 6, 2) := by decide +kernel
theorem dX5_best_52 : decode cX5_best 52 = .ok (.iload 6, 2) := by decide +kernel
theorem dX5_best_54 : decode cX5_best 54 = .ok (.iload_n 3, 1) := by decide +kernel
theorem dX5_best_55 : decode cX5_best 55 = .ok (.if_icmp .ge 16, 3) := by decide +kernel
theorem dX5_best_58 : decode cX5_best 58 = .ok (.iload 5, 2) := by decide +kernel
theorem dX5_best_60 : decode cX5_best 60 = .ok (.bipush 6, 2) := by decide +kernel
theorem dX5_best_62 : decode cX5_best 62 = .ok (.imul, 1) := by decide +kernel
theorem dX5_best_63 : decode cX5_best 63 = .ok (.istore 5, 2) := by decide +kernel
theorem dX5_best_65 : decode cX5_best 65 = .ok (.iinc 6 1, 3) := by decide +kernel
theorem dX5_best_68 : decode cX5_best 68 = .ok (.goto (-16), 3) := by decide +kernel
theorem dX5_best_71 : decode cX5_best 71 = .ok (.ldc 203, 2) := by decide +kernel
theorem dX5_best_73 : decode cX5_best 73 = .ok (.istore 6, 2) := by decide +kernel
theorem dX5_best_75 : decode cX5_best 75 = .ok (.ldc 203, 2) := by decide +kernel
theorem dX5_best_77 : decode cX5_best 77 = .ok (.istore 7, 2) := by decide +kernel
theorem dX5_best_79 : decode cX5_best 79 = .ok (.iconst 0, 1) := by decide +kernel
theorem dX5_best_80 : decode cX5_best 80 = .ok (.istore 8, 2) := by decide +kernel
theorem dX5_best_82 : decode cX5_best 82 = .ok (.iload 8, 2) := by decide +kernel
theorem dX5_best_84 : decode cX5_best 84 = .ok (.iload 5, 2) := by decide +kernel
theorem dX5_best_86 : decode cX5_best 86 = .ok (.if_icmp .ge 127, 3) := by decide +kernel
theorem dX5_best_89 : decode cX5_best 89 = .ok (.iload 8, 2) := by decide +kernel
theorem dX5_best_91 : decode cX5_best 91 = .ok (.istore 9, 2) := by decide +kernel
theorem dX5_best_93 : decode cX5_best 93 = .ok (.iconst 0, 1) := by decide +kernel
theorem dX5_best_94 : decode cX5_best 94 = .ok (.istore 10, 2) := by decide +kernel
theorem dX5_best_96 : decode cX5_best 96 = .ok (.iconst 1, 1) := by decide +kernel
theorem dX5_best_97 : decode cX5_best 97 = .ok (.istore 11, 2) := by decide +kernel
theorem dX5_best_99 : decode cX5_best 99 = .ok (.iconst 1, 1) := by decide +kernel
theorem dX5_best_100 : decode cX5_best 100 = .ok (.istore 12, 2) := by decide +kernel
theorem dX5_best_102 : decode cX5_best 102 = .ok (.iload 12, 2) := by decide +kernel
theorem dX5_best_104 : decode cX5_best 104 = .ok (.iload_n 3, 1) := by decide +kernel
theorem dX5_best_105 : decode cX5_best 105 = .ok (.if_icmp .gt 58, 3) := by decide +kernel
theorem dX5_best_108 : decode cX5_best 108 = .ok (.aload_n 0, 1) := by decide +kernel
theorem dX5_best_109 : decode cX5_best 109 = .ok (.getfield 7, 3) := by decide +kernel
theorem dX5_best_112 : decode cX5_best 112 = .ok (.bipush 40, 2) := by decide +kernel
theorem dX5_best_114 : decode cX5_best 114 = .ok (.bipush 70, 2) := by decide +kernel
theorem dX5_best_116 : decode cX5_best 116 = .ok (.iload_n 1, 1) := by decide +kernel
theorem dX5_best_117 : decode cX5_best 117 = .ok (.imul, 1) := by decide +kernel
theorem dX5_best_118 : decode cX5_best 118 = .ok (.iadd, 1) := by decide +kernel
theorem dX5_best_119 : decode cX5_best 119 = .ok (.iload_n 2, 1) := by decide +kernel
theorem dX5_best_120 : decode cX5_best 120 = .ok (.iadd, 1) := by decide +kernel
theorem dX5_best_121 : decode cX5_best 121 = .ok (.iload 12, 2) := by decide +kernel
theorem dX5_best_123 : decode cX5_best 123 = .ok (.isub, 1) := by decide +kernel
theorem dX5_best_124 : decode cX5_best 124 = .ok (.iload 9, 2) := by decide +kernel
theorem dX5_best_126 : decode cX5_best 126 = .ok (.bipush 6, 2) := by decide +kernel
theorem dX5_best_128 : decode cX5_best 128 = .ok (.irem, 1) := by decide +kernel
theorem dX5_best_129 : decode cX5_best 129 = .ok (.iastore, 1) := by decide +kernel
theorem dX5_best_130 : decode cX5_best 130 = .ok (.iload 10, 2) := by decide +kernel
theorem dX5_best_132 : decode cX5_best 132 = .ok (.iload 9, 2) := by decide +kernel
theorem dX5_best_134 : decode cX5_best 134 = .ok (.bipush 6, 2) := by decide +kernel
theorem dX5_best_136 : decode cX5_best 136 = .ok (.irem, 1) := by decide +kernel
theorem dX5_best_137 : decode cX5_best 137 = .ok (.iload 11, 2) := by decide +kernel
theorem dX5_best_139 : decode cX5_best 139 = .ok (.imul, 1) := by decide +kernel
theorem dX5_best_140 : decode cX5_best 140 = .ok (.iadd, 1) := by decide +kernel
theorem dX5_best_141 : decode cX5_best 141 = .ok (.istore 10, 2) := by decide +kernel
theorem dX5_best_143 : decode cX5_best 143 = .ok (.iload 11, 2) := by decide +kernel
theorem dX5_best_145 : decode cX5_best 145 = .ok (.bipush 10, 2) := by decide +kernel
theorem dX5_best_147 : decode cX5_best 147 = .ok (.imul, 1) := by decide +kernel
theorem dX5_best_148 : decode cX5_best 148 = .ok (.istore 11, 2) := by decide +kernel
theorem dX5_best_150 : decode cX5_best 150 = .ok (.iload 9, 2) := by decide +kernel
theorem dX5_best_152 : decode cX5_best 152 = .ok (.bipush 6, 2) := by decide +kernel
theorem dX5_best_154 : decode cX5_best 154 = .ok (.idiv, 1) := by decide +kernel
theorem dX5_best_155 : decode cX5_best 155 = .ok (.istore 9, 2) := by decide +kernel
theorem dX5_best_157 : decode cX5_best 157 = .ok (.iinc 12 1, 3) := by decide +kernel
theorem dX5_best_160 : decode cX5_best 160 = .ok (.goto (-58), 3) := by decide +kernel
theorem dX5_best_163 : decode cX5_best 163 = .ok (.aload_n 0, 1) := by decide +kernel
theorem dX5_best_164 : decode cX5_best 164 = .ok (.iload_n 1, 1) := by decide +kernel
theorem dX5_best_165 : decode cX5_best 165 = .ok (.iload_n 2, 1) := by decide +kernel
theorem dX5_best_166 : decode cX5_best 166 = .ok (.invokevirtual 200, 3) := by decide +kernel
theorem dX5_best_169 : decode cX5_best 169 = .ok (.istore 12, 2) := by decide +kernel
theorem dX5_best_171 : decode cX5_best 171 = .ok (.aload_n 0, 1) := by decide +kernel
theorem dX5_best_172 : decode cX5_best 172 = .ok (.iload_n 2, 1) := by decide +kernel
theorem dX5_best_173 : decode cX5_best 173 = .ok (.iload_n 3, 1) := by decide +kernel
theorem dX5_best_174 : decode cX5_best 174 = .ok (.isub, 1) := by decide +kernel
theorem dX5_best_175 : decode cX5_best 175 = .ok (.iload_n 2, 1) := by decide +kernel
theorem dX5_best_176 : decode cX5_best 176 = .ok (.invokevirtual 210, 3) := by decide +kernel
theorem dX5_best_179 : decode cX5_best 179 = .ok (.ifCond .eq 28, 3) := by decide +kernel
theorem dX5_best_182 : decode cX5_best 182 = .ok (.iload 6, 2) := by decide +kernel
theorem dX5_best_184 : decode cX5_best 184 = .ok (.ldc 203, 2) := by decide +kernel
theorem dX5_best_186 : decode cX5_best 186 = .ok (.if_icmp .eq 13, 3) := by decide +kernel
theorem dX5_best_189 : decode cX5_best 189 = .ok (.iload 12, 2) := by decide +kernel
theorem dX5_best_191 : decode cX5_best 191 = .ok (.iload 7, 2) := by decide +kernel
theorem dX5_best_193 : decode cX5_best 193 = .ok (.if_icmp .gt 6, 3) := by decide +kernel
theorem dX5_best_196 : decode cX5_best 196 = .ok (.goto 11, 3) := by decide +kernel
theorem dX5_best_199 : decode cX5_best 199 = .ok (.iload 10, 2) := by decide +kernel
theorem dX5_best_201 : decode cX5_best 201 = .ok (.istore 6, 2) := by decide +kernel
theorem dX5_best_203 : decode cX5_best 203 = .ok (.iload 12, 2) := by decide +kernel
theorem dX5_best_205 : decode cX5_best 205 = .ok (.istore 7, 2) := by decide +kernel
theorem dX5_best_207 : decode cX5_best 207 = .ok (.iinc 8 1, 3) := by decide +kernel
theorem dX5_best_210 : decode cX5_best 210 = .ok (.goto (-128), 3) := by decide +kernel
theorem dX5_best_213 : decode cX5_best 213 = .ok (.aload_n 0, 1) := by decide +kernel
theorem dX5_best_214 : decode cX5_best 214 = .ok (.iload_n 1, 1) := by decide +kernel
theorem dX5_best_215 : decode cX5_best 215 = .ok (.invokevirtual 207, 3) := by decide +kernel
theorem dX5_best_218 : decode cX5_best 218 = .ok (.iload 4, 2) := by decide +kernel
theorem dX5_best_220 : decode cX5_best 220 = .ok (.ifCond .ne 8, 3) := by decide +kernel
theorem dX5_best_223 : decode cX5_best 223 = .ok (.iload 6, 2) := by decide +kernel
theorem dX5_best_225 : decode cX5_best 225 = .ok (.goto 5, 3) := by decide +kernel
theorem dX5_best_228 : decode cX5_best 228 = .ok (.iload 7, 2) := by decide +kernel
theorem dX5_best_230 : decode cX5_best 230 = .ok (.ireturn, 1) := by decide +kernel
theorem dX5_isHale_0 : decode cX5_isHale 0 = .ok (.iload_n 1, 1) := by decide +kernel
theorem dX5_isHale_1 : decode cX5_isHale 1 = .ok (.istore_n 3, 1) := by decide +kernel
theorem dX5_isHale_2 : decode cX5_isHale 2 = .ok (.iload_n 3, 1) := by decide +kernel
theorem dX5_isHale_3 : decode cX5_isHale 3 = .ok (.iload_n 2, 1) := by decide +kernel
theorem dX5_isHale_4 : decode cX5_isHale 4 = .ok (.if_icmp .gt 20, 3) := by decide +kernel
theorem dX5_isHale_7 : decode cX5_isHale 7 = .ok (.aload_n 0, 1) := by decide +kernel
theorem dX5_isHale_8 : decode cX5_isHale 8 = .ok (.getfield 48, 3) := by decide +kernel
theorem dX5_isHale_11 : decode cX5_isHale 11 = .ok (.iload_n 3, 1) := by decide +kernel
theorem dX5_isHale_12 : decode cX5_isHale 12 = .ok (.baload, 1) := by decide +kernel
theorem dX5_isHale_13 : decode cX5_isHale 13 = .ok (.ifCond .eq 5, 3) := by decide +kernel
theorem dX5_isHale_16 : decode cX5_isHale 16 = .ok (.iconst 0, 1) := by decide +kernel
theorem dX5_isHale_17 : decode cX5_isHale 17 = .ok (.ireturn, 1) := by decide +kernel
theorem dX5_isHale_18 : decode cX5_isHale 18 = .ok (.iinc 3 1, 3) := by decide +kernel
theorem dX5_isHale_21 : decode cX5_isHale 21 = .ok (.goto (-19), 3) := by decide +kernel
theorem dX5_isHale_24 : decode cX5_isHale 24 = .ok (.iconst 1, 1) := by decide +kernel
theorem dX5_isHale_25 : decode cX5_isHale 25 = .ok (.ireturn, 1) := by decide +kernel

/-- the w days ahead of day e by the digits of r -/
def bsK (K : Nat → Int32) (e w r : Nat) : Nat → Int32 := fun k => if e - w ≤ k ∧ k < e then nI (r / 6 ^ (e - 1 - k) % 6) else K k
def bsD : Nat → Nat → Nat
  | 0, _ => 0
  | m + 1, r => bsD m r + r / 6 ^ m % 6 * 10 ^ m
theorem blk {r j q : Nat} (h : r / 6 ^ j = q) (i : Nat) : r / 6 ^ (j + i) = q / 6 ^ i := by
  rw [Nat.pow_add, ← Nat.div_div_eq_div_mul, h]
theorem p6 (j : Nat) : 0 < 6 ^ j := Nat.pow_pos (by decide)
theorem bsK_blk (K : Nat → Int32) {e w r j q k : Nat} (h : r / 6 ^ j = q) (hk : k < e - j) : bsK K e w r k = bsK K e w (q * 6 ^ j) k := by
  simp only [bsK]
  have e1 : e - 1 - k = j + (e - 1 - k - j) := by omega
  rw [e1, blk h, blk (Nat.mul_div_cancel q (p6 j))]
theorem bsK_ok {K : Nat → Int32} (h : okR K) (e w r : Nat) : okR (bsK K e w r) := fun k hk => by
  simp only [bsK]
  split
  · exact ⟨_, Nat.mod_lt _ (by decide), rfl⟩
  · exact h k hk
theorem bsK_s (K : Nat → Int32) {e r m : Nat} (h : m < e) : upd (bsK K e m r) (e - (m + 1)) (nI (r / 6 ^ m % 6)) = bsK K e (m + 1) r := by
  funext k
  simp only [upd, bsK]
  by_cases e1 : k = e - (m + 1)
  · rw [if_pos e1, if_pos (by omega), show e - 1 - k = m by omega]
  · rw [if_neg e1]
    by_cases e2 : e - m ≤ k ∧ k < e
    · rw [if_pos e2, if_pos (by omega)]
    · rw [if_neg e2, if_neg (by omega)]
theorem bsK_bs (K : Nat → Int32) (e w r s : Nat) : bsK (bsK K e w s) e w r = bsK K e w r := by
  funext k
  simp only [bsK]
  split
  · rfl
  · rfl
theorem bsD_s (m q : Nat) {t : Nat} (ht : t < 6) : bsD (m + 1) (6 * q + t) = bsD m q * 10 + t := by
  induction m with
  | zero =>
    simp only [bsD]
    rw [Nat.pow_zero, Nat.div_one]; omega
  | succ m ih =>
    have e1 : bsD (m + 2) (6 * q + t) = bsD (m + 1) (6 * q + t) + (6 * q + t) / 6 ^ (m + 1) % 6 * 10 ^ (m + 1) := rfl
    have e2 : bsD (m + 1) q = bsD m q + q / 6 ^ m % 6 * 10 ^ m := rfl
    have e3 : (6 * q + t) / 6 ^ (m + 1) = q / 6 ^ m := by
      rw [Nat.add_comm m 1]
      exact blk (j := 1) (by rw [Nat.pow_one]; omega) m
    rw [e1, ih, e2, e3, Nat.pow_succ 10 m, ← Nat.mul_assoc]
    omega
def bsS (st : Nat → Int32 × Int32 → Int32 × Int32) (a : Nat) : Nat → Int32 × Int32 → Int32 × Int32
  | 0, x => x
  | m + 1, x => st (a + m) (bsS st a m x)
theorem bsS_add (st : Nat → Int32 × Int32 → Int32 × Int32) (a m1 : Nat) (x : Int32 × Int32) : ∀ m2, bsS st a (m1 + m2) x = bsS st (a + m1) m2 (bsS st a m1 x) := by
  intro m2
  induction m2 with
  | zero => rfl
  | succ m ih =>
    show st (a + (m1 + m)) (bsS st a (m1 + m) x) = st (a + m1 + m) (bsS st (a + m1) m (bsS st a m1 x))
    rw [ih, Nat.add_assoc]
theorem bsS_id (st : Nat → Int32 × Int32 → Int32 × Int32) (a : Nat) (x : Int32 × Int32) : ∀ m, (∀ i, i < m → ∀ y, st (a + i) y = y) → bsS st a m x = x := by
  intro m
  induction m with
  | zero => intro _; rfl
  | succ m ih =>
    intro h
    show st (a + m) (bsS st a m x) = x
    rw [ih (fun i hi => h i (by omega))]
    exact h m (by omega) x
/-- no injury on m days from a on -/
def hlB (I : Nat → Bool) (a : Nat) : Nat → Bool
  | 0 => true
  | m + 1 => hlB I a m && !I (a + m)
theorem hlB_no {I : Nat → Bool} {a i : Nat} (hi : I (a + i) = true) : ∀ m, i < m → hlB I a m = false := by
  intro m
  induction m with
  | zero => intro h; exact absurd h (Nat.not_lt_zero i)
  | succ m ih =>
    intro h
    simp only [hlB]
    by_cases e : i = m
    · subst e; rw [hi]; simp
    · rw [ih (by omega)]; rfl
theorem hlB_congr {I J : Nat → Bool} {a : Nat} : ∀ m, (∀ i, i < m → I (a + i) = J (a + i)) → hlB I a m = hlB J a m := by
  intro m
  induction m with
  | zero => intro _; rfl
  | succ m ih =>
    intro h
    simp only [hlB]
    rw [ih (fun i hi => h i (by omega)), h m (by omega)]
def bsP (f : Nat → Int32) (g c e w r : Nat) : sP := pQ (plR f g (bsK (fun k => f (40 + 70 * g + k)) e w r)) g c (-1)
/-- a row is tried -/
def bsT (f : Nat → Int32) (g c e w r : Nat) (x : Int32 × Int32) : Int32 × Int32 := if hlB (sInj (bsP f g c e w r)) (e - w) (w + 1) = true ∧ x.1 < sForm (bsP f g c e w r) e then (sForm (bsP f g c e w r) e, nI (bsD w r)) else x
/-- kinds as they stand while j days are still to be tried, behind row q -/
def bsH (K0 K : Nat → Int32) (e w j q : Nat) : Prop := okR K ∧ (∀ k, k < 70 → e ≤ k → K k = K0 k) ∧ ∀ k, k < e - j → K k = bsK K0 e w (q * 6 ^ j) k
theorem bsH_in {K0 K : Nat → Int32} {e w j q r k : Nat} (h : bsH K0 K e w j q) (hr : r / 6 ^ j = q) (hk : k < e - j) : K k = bsK K0 e w r k := by
  rw [h.2.2 k hk, bsK_blk K0 hr hk]
theorem bsH_next {K0 K : Nat → Int32} {e w j q t : Nat} (h : bsH K0 K e w (j + 1) q) (ht : t < 6) (hj : j < w) (hw : w ≤ e) (he : e < 70) : bsH K0 (upd K (e - (j + 1)) (nI t)) e w j (6 * q + t) := by
  refine ⟨h.1.up1 ⟨t, ht, rfl⟩, fun k hk hk2 => ?_, fun k hk => ?_⟩
  · simp only [upd]; rw [if_neg (by omega)]; exact h.2.1 k hk hk2
  · simp only [upd]
    have hd : (6 * q + t) * 6 ^ j / 6 ^ (j + 1) = q := by
      have := blk (Nat.mul_div_cancel (6 * q + t) (p6 j)) 1
      rw [this, Nat.pow_one]; omega
    by_cases e1 : k = e - (j + 1)
    · rw [if_pos e1]
      simp only [bsK]
      rw [if_pos (by omega), show e - 1 - k = j by omega, Nat.mul_div_cancel _ (p6 j), show (6 * q + t) % 6 = t by omega]
    · rw [if_neg e1]
      exact bsH_in h hd (by omega)
theorem Fw.mono {σ : mS} {a : Nat} {f : Nat → Int32} {g nc N m : Nat} {x : Int32} (h : Fw σ a f g nc x N) (hm : m ≤ N) : Fw σ a f g nc x m := ⟨h.1.mono hm, h.2⟩
section QG
variable {G : mG} {d n c : Nat} {σ : mS}

theorem v_keepB {f : Nat → Int32} {g e : Nat} {x row : Int32} (hL : Fw σ 29 f g c x (e + 1)) (he : e < 70) : mV G mX0_keepIfBetter (d + 1) [.ref 29, .int (nI e), .int row] σ none (if sInj (pQ f g c x) e = false ∧ σ 29 10 < sForm (pQ f g c x) e then up (up σ 29 10 (sForm (pQ f g c x) e)) 29 11 row else σ) := by
  refine mV_of fun Q hQ => ?_
  have hfo := q_formOf (G := G) (d := d) isCourse_29 hL (Nat.lt_succ_self e) (by omega)
  have h9 := (hL.1.2.2.2 e (by omega)).2
  by_cases hx : sInj (pQ f g c x) e = true
  · rw [if_neg (fun z => by rw [hx] at z; cases z.1)] at hQ
    refine F_aload_n dX0_keepIfBetter_0 rfl ?_
    refine F_getr dX0_keepIfBetter_1 rfl rfl (by first | assumption | rfl) rfl ?_
    refine F_iload_n dX0_keepIfBetter_4 rfl ?_
    refine F_zaldE (v := bI true) dX0_keepIfBetter_5 (by first | assumption | rfl) (by decide) (by omega) (by rw [h9, hx]) ?_
    refine F_if_neB (tgt := 35) dX0_keepIfBetter_6 rfl (fun c6 => ?_) (fun c6 => ?_)
    · refine F_vret dX0_keepIfBetter_35 rfl ?_
      exact hQ
    · cases c6
  · have hx := Bool.not_eq_true _ ▸ hx
    refine F_aload_n dX0_keepIfBetter_0 rfl ?_
    refine F_getr dX0_keepIfBetter_1 rfl rfl (by first | assumption | rfl) rfl ?_
    refine F_iload_n dX0_keepIfBetter_4 rfl ?_
    refine F_zaldE (v := bI false) dX0_keepIfBetter_5 (by first | assumption | rfl) (by decide) (by omega) (by rw [h9, hx]) ?_
    refine F_if_neB (tgt := 35) dX0_keepIfBetter_6 rfl (fun c6 => ?_) (fun c6 => ?_)
    · cases c6
    · refine F_aload_n dX0_keepIfBetter_9 rfl ?_
      refine F_iload_n dX0_keepIfBetter_10 rfl ?_
      refine F_cV1i (hfo) dX0_keepIfBetter_11 rfl rfl (by decide) (by first | assumption | rfl) rfl rfl rfl (by decide) (Nat.le_of_ble_eq_true rfl) (by omega) ?_
      refine F_aload_n dX0_keepIfBetter_14 rfl ?_
      refine F_geti dX0_keepIfBetter_15 rfl rfl (by first | assumption | rfl) rfl ?_
      refine F_icmp_le (tgt := 35) dX0_keepIfBetter_18 rfl (fun c18 => ?_) (fun c18 => ?_)
      · refine F_vret dX0_keepIfBetter_35 rfl ?_
        first
          | (rw [if_neg (fun z => absurd z.2 (Int32.not_lt.mpr c18))] at hQ
             exact hQ)
          | (rw [if_pos ⟨hx, Int32.not_le.mp c18⟩] at hQ
             exact hQ)
      · refine F_aload_n dX0_keepIfBetter_21 rfl ?_
        refine F_aload_n dX0_keepIfBetter_22 rfl ?_
        refine F_iload_n dX0_keepIfBetter_23 rfl ?_
        refine F_cV1i (hfo) dX0_keepIfBetter_24 rfl rfl (by decide) (by first | assumption | rfl) rfl rfl rfl (by decide) (Nat.le_of_ble_eq_true rfl) (by omega) ?_
        refine F_put dX0_keepIfBetter_27 rfl rfl (by first | assumption | rfl) rfl rfl rfl rfl ?_
        refine F_aload_n dX0_keepIfBetter_30 rfl ?_
        refine F_iload_n dX0_keepIfBetter_31 rfl ?_
        refine F_put dX0_keepIfBetter_32 rfl rfl (by first | assumption | rfl) rfl rfl rfl rfl ?_
        refine F_vret dX0_keepIfBetter_35 rfl ?_
        first
          | (rw [if_neg (fun z => absurd z.2 (Int32.not_lt.mpr c18))] at hQ
             exact hQ)
          | (rw [if_pos ⟨hx, Int32.not_le.mp c18⟩] at hQ
             exact hQ)

theorem v_tryRows {f : Nat → Int32} {g e w : Nat} (hb : okB f n c) (hg : g < n) (he : e < 70) (hw : w ≤ e) : ∀ j, j ≤ w → ∀ (q : Nat) (K : Nat → Int32) (τ : mS), bsH (fun k => f (40 + 70 * g + k)) K e w j q → hlB (sInj (pQ (plR f g K) g c (-1))) (e - w) (w - j) = true → Fw τ 29 (plR f g K) g c (-1) (e - j) → ∃ υ, mV G mX0_tryRows (j + 4) [.ref 29, .int (nI e), .int (nI j), .int (nI (bsD (w - j) q))] τ none υ ∧ (∃ K2, bsH (fun k => f (40 + 70 * g + k)) K2 e w j q ∧ (∀ k, k < e - j → K2 k = K k) ∧ Fw υ 29 (plR f g K2) g c (-1) (e - j)) ∧ (υ 29 10, υ 29 11) = bsS (bsT f g c e w) (q * 6 ^ j) (6 ^ j) (τ 29 10, τ 29 11) ∧ (∀ b, b < 29 ∨ 39 < b → υ b = τ b) ∧ υ 33 = τ 33 := by
  intro j
  induction j with
  | zero =>
    intro hj q K τ hK hH hL
    obtain ⟨τ2, hv, hL2, far⟩ := q_live (G := G) (d := 0) (N := e + 1) (y := nI e) (hb.pl hg hK.1) hg hL (by omega) (by omega) (pred_s _ he)
    have hkb := v_keepB (G := G) (d := 0) (row := nI (bsD w q)) hL2 he
    have hE : sEq (pQ (plR f g K) g c (-1)) (bsP f g c e w q) (e + 1) := pl_eq hb hg hK.1 (-1) (by omega) (fun k hk => by
      by_cases e1 : k = e
      · subst e1
        rw [hK.2.1 k he (Nat.le_refl k)]
        simp only [bsK]
        rw [if_neg (by omega)]
      · exact bsH_in hK (by rw [Nat.pow_zero, Nat.div_one]) (by omega))
    have r29 : τ2 29 = τ 29 := far 29 (by omega)
    obtain ⟨υ, hz⟩ : ∃ υ, υ = (if sInj (pQ (plR f g K) g c (-1)) e = false ∧ τ2 29 10 < sForm (pQ (plR f g K) g c (-1)) e then up (up τ2 29 10 (sForm (pQ (plR f g K) g c (-1)) e)) 29 11 (nI (bsD w q)) else τ2) := ⟨_, rfl⟩
    rw [← hz] at hkb
    refine ⟨υ, mV_of fun Q hQ => ?_, ⟨K, hK, fun k hk => rfl, ?_⟩, ?_, fun b hb => ?_, ?_⟩
    rotate_left
    · refine (hL2.mono (show e - 0 ≤ e + 1 by omega)).rows (fun b h1 h2 => ?_)
      rw [hz]
      split
      · rw [up_n _ _ _ (by omega), up_n _ _ _ (by omega)]
      · rfl
    · show _ = bsT f g c e w (q * 6 ^ 0 + 0) (τ 29 10, τ 29 11)
      rw [Nat.pow_zero, Nat.mul_one, Nat.add_zero]
      have h1 : hlB (sInj (bsP f g c e w q)) (e - w) (w + 1) = !sInj (pQ (plR f g K) g c (-1)) e := by
        show (hlB (sInj (bsP f g c e w q)) (e - w) w && !sInj (bsP f g c e w q) (e - w + w)) = _
        rw [← hlB_congr w (fun i hi => hE.inj (show e - w + i < e + 1 by omega)), show e - w + w = e by omega, ← hE.inj (Nat.lt_succ_self e)]
        have hH : hlB (sInj (pQ (plR f g K) g c (-1))) (e - w) w = true := hH
        rw [hH]; rfl
      have h2 := hE.form (Nat.lt_succ_self e)
      unfold bsT
      rw [hz, h1, ← h2, r29]
      by_cases hc : sInj (pQ (plR f g K) g c (-1)) e = false ∧ τ 29 10 < sForm (pQ (plR f g K) g c (-1)) e
      · rw [if_pos hc, if_pos ⟨by rw [hc.1]; rfl, hc.2⟩]
        rfl
      · have hc2 : ¬((!sInj (pQ (plR f g K) g c (-1)) e) = true ∧ τ 29 10 < sForm (pQ (plR f g K) g c (-1)) e) := fun z => hc ⟨(by
          have hz1 := z.1
          cases hs : sInj (pQ (plR f g K) g c (-1)) e with
          | false => rfl
          | true => rw [hs] at hz1; cases hz1), z.2⟩
        rw [if_neg hc, if_neg hc2, r29]
    · rw [hz]
      split
      · rw [up_n _ _ _ (by omega), up_n _ _ _ (by omega), far b (by omega)]
      · exact far b (by omega)
    · rw [hz]
      split
      · rw [up_n _ _ _ (by omega), up_n _ _ _ (by omega), far 33 (by omega)]
      · exact far 33 (by omega)
    · skip
      refine F_iload_n dX0_tryRows_0 rfl ?_
      refine F_iload_n dX0_tryRows_1 rfl ?_
      refine F_isubN dX0_tryRows_2 (by omega) ?_
      refine F_istore dX0_tryRows_3 (Nat.le_of_ble_eq_true rfl) ?_
      refine F_iload_n dX0_tryRows_5 rfl ?_
      refine F_if_gtN (tgt := 22) dX0_tryRows_6 rfl (by omega) (fun c6 => ?_) (fun c6 => ?_)
      · exact absurd c6 (by omega)
      · refine F_aload_n dX0_tryRows_9 rfl ?_
        refine F_iload_n dX0_tryRows_10 rfl ?_
        refine F_iload_n dX0_tryRows_11 rfl ?_
        refine F_cV2v (hv) dX0_tryRows_12 rfl rfl (by decide) (by first | assumption | rfl) rfl rfl rfl (by decide) (Nat.le_of_ble_eq_true rfl) (by omega) ?_
        refine F_aload_n dX0_tryRows_15 rfl ?_
        refine F_iload_n dX0_tryRows_16 rfl ?_
        refine F_iload_n dX0_tryRows_17 rfl ?_
        refine F_cV2v (hkb) dX0_tryRows_18 rfl rfl (by decide) (by first | assumption | rfl) rfl rfl rfl (by decide) (Nat.le_of_ble_eq_true rfl) (by omega) ?_
        refine F_vret dX0_tryRows_21 rfl ?_
        exact hQ
  | succ j ih =>
    intro hj q K τ hK hH hL
    have LL : ∀ s t K1 τ1, t + s = 6 → bsH (fun k => f (40 + 70 * g + k)) K1 e w (j + 1) q → (∀ k, k < e - (j + 1) → K1 k = K k) → Fw τ1 29 (plR f g K1) g c (-1) (e - (j + 1)) → ∃ υ, (∀ Q : Option Value → mS → Prop, Q none υ → mF G mX0_tryRows (j + 1 + 4) 25 [some (.ref 29), some (.int (nI e)), some (.int (nI (j + 1))), some (.int (nI (bsD (w - (j + 1)) q))), some (.int (nI (e - (j + 1)))), some (.int (nI t))] [] τ1 Q) ∧ (∃ K2, bsH (fun k => f (40 + 70 * g + k)) K2 e w (j + 1) q ∧ (∀ k, k < e - (j + 1) → K2 k = K k) ∧ Fw υ 29 (plR f g K2) g c (-1) (e - (j + 1))) ∧ (υ 29 10, υ 29 11) = bsS (bsT f g c e w) (q * 6 ^ (j + 1) + t * 6 ^ j) (s * 6 ^ j) (τ1 29 10, τ1 29 11) ∧ (∀ b, b < 29 ∨ 39 < b → υ b = τ1 b) ∧ υ 33 = τ1 33 := by
      intro s
      induction s with
      | zero =>
        intro t K1 τ1 hts hK1 hKK hL1
        have e1 : t = 6 := by omega
        subst e1
        refine ⟨τ1, fun Q hQ => ?_, ⟨K1, hK1, hKK, hL1⟩, by rw [Nat.zero_mul]; rfl, fun b hb => rfl, rfl⟩
        refine F_iload dX0_tryRows_25 rfl ?_
        refine F_bipush (v := nI 6) dX0_tryRows_27 rfl ?_
        refine F_icmp_geN (tgt := 80) dX0_tryRows_29 rfl (by omega) (by omega) (fun c29 => ?_) (fun c29 => ?_)
        · refine F_vret dX0_tryRows_80 rfl ?_
          exact hQ
        · exact absurd c29 (by omega)
      | succ s ihs =>
        intro t K1 τ1 hts hK1 hKK hL1
        have ht6 : t < 6 := by omega
        have hN := bsH_next hK1 ht6 (by omega) hw he
        have hp := hL1.put (a := e - (j + 1)) (v := nI t) (m := e - (j + 1)) hb hg hK1.1 (by omega) (by omega) (by omega)
        obtain ⟨τ2, hv, hL2, far2⟩ := q_live (G := G) (d := j + 1) (N := e - j) (y := nI (e - (j + 1))) (hb.pl hg hN.1) hg hp (by omega) (by omega) (by rw [nI_sub (by omega)]; congr 1)
        have r29 : τ2 29 = τ1 29 := by rw [far2 29 (by omega), up_n _ _ _ (by omega)]
        have f2 : ∀ b, b < 29 ∨ 39 < b → τ2 b = τ1 b := fun b hb => by rw [far2 b (by omega), up_n _ _ _ (by omega)]
        have f33 : τ2 33 = τ1 33 := by rw [far2 33 (by omega), up_n _ _ _ (by omega)]
        have h9 := (hL2.1.2.2.2 (e - (j + 1)) (by omega)).2
        have hpos := p6 j
        have e6 : (6 * q + t) * 6 ^ j = q * 6 ^ (j + 1) + t * 6 ^ j := by rw [Nat.add_mul, Nat.pow_succ, Nat.mul_comm 6 q, Nat.mul_assoc, Nat.mul_comm 6 (6 ^ j)]
        have esp : bsS (bsT f g c e w) (q * 6 ^ (j + 1) + t * 6 ^ j) ((s + 1) * 6 ^ j) (τ1 29 10, τ1 29 11) = bsS (bsT f g c e w) (q * 6 ^ (j + 1) + (t + 1) * 6 ^ j) (s * 6 ^ j) (bsS (bsT f g c e w) ((6 * q + t) * 6 ^ j) (6 ^ j) (τ1 29 10, τ1 29 11)) := by
          rw [show (s + 1) * 6 ^ j = 6 ^ j + s * 6 ^ j by rw [Nat.add_mul, Nat.one_mul, Nat.add_comm], bsS_add, e6, show (t + 1) * 6 ^ j = t * 6 ^ j + 6 ^ j by rw [Nat.add_mul, Nat.one_mul], Nat.add_assoc]
        by_cases hx : sInj (pQ (plR f g (upd K1 (e - (j + 1)) (nI t))) g c (-1)) (e - (j + 1)) = true
        · obtain ⟨υ, h1, h2, h3, h4, h5⟩ := ihs (t + 1) (upd K1 (e - (j + 1)) (nI t)) τ2 (by omega) ⟨hN.1, hN.2.1, fun k hk => by
            simp only [upd]; rw [if_neg (by omega)]; exact hK1.2.2 k hk⟩ (fun k hk => by simp only [upd]; rw [if_neg (by omega)]; exact hKK k hk) (hL2.mono (by omega))
          have eid : bsS (bsT f g c e w) ((6 * q + t) * 6 ^ j) (6 ^ j) (τ1 29 10, τ1 29 11) = (τ1 29 10, τ1 29 11) := bsS_id _ _ _ _ (fun i hi y => by
            have hr : ((6 * q + t) * 6 ^ j + i) / 6 ^ j = 6 * q + t := Nat.div_eq_of_lt_le (Nat.le_add_right _ _) (by rw [Nat.add_mul (6 * q + t) 1 (6 ^ j), Nat.one_mul]; exact Nat.add_lt_add_left hi _)
            have hE : sEq (pQ (plR f g (upd K1 (e - (j + 1)) (nI t))) g c (-1)) (bsP f g c e w ((6 * q + t) * 6 ^ j + i)) (e - j) := pl_eq hb hg hN.1 (-1) (by omega) (fun k hk => bsH_in hN hr hk)
            have hi2 := hE.inj (show e - (j + 1) < e - j by omega)
            rw [hx] at hi2
            unfold bsT
            rw [if_neg (fun z => ?_)]
            have := hlB_no (a := e - w) (i := w - (j + 1)) (I := sInj (bsP f g c e w ((6 * q + t) * 6 ^ j + i))) (by rw [show e - w + (w - (j + 1)) = e - (j + 1) by omega]; exact hi2.symm) (w + 1) (by omega)
            rw [this] at z
            cases z.1)
          refine ⟨υ, fun Q hQ => ?_, h2, by rw [h3, esp, eid, r29], fun b hb => (h4 b hb).trans (f2 b hb), h5.trans f33⟩
          have h1 := h1 Q hQ
          refine F_iload dX0_tryRows_25 rfl ?_
          refine F_bipush (v := nI 6) dX0_tryRows_27 rfl ?_
          refine F_icmp_geN (tgt := 80) dX0_tryRows_29 rfl (by omega) (by omega) (fun c29 => ?_) (fun c29 => ?_)
          · exact absurd c29 (by omega)
          · refine F_aload_n dX0_tryRows_32 rfl ?_
            refine F_getr dX0_tryRows_33 rfl rfl (by first | assumption | rfl) rfl ?_
            refine F_iload dX0_tryRows_36 rfl ?_
            refine F_iload dX0_tryRows_38 rfl ?_
            refine F_iast dX0_tryRows_40 (by first | assumption | rfl) (by decide) (by omega) ?_
            refine F_aload_n dX0_tryRows_41 rfl ?_
            refine F_iload dX0_tryRows_42 rfl ?_
            refine F_iload dX0_tryRows_44 rfl ?_
            refine F_cV2v (hv) dX0_tryRows_46 rfl rfl (by decide) (by first | assumption | rfl) rfl rfl rfl (by decide) (Nat.le_of_ble_eq_true rfl) (by omega) ?_
            refine F_aload_n dX0_tryRows_49 rfl ?_
            refine F_getr dX0_tryRows_50 rfl rfl (by first | assumption | rfl) rfl ?_
            refine F_iload dX0_tryRows_53 rfl ?_
            refine F_zaldE (v := bI true) dX0_tryRows_55 (by first | assumption | rfl) (by decide) (by omega) (by rw [h9, hx]) ?_
            refine F_if_neB (tgt := 74) dX0_tryRows_56 rfl (fun c56 => ?_) (fun c56 => ?_)
            · refine F_iincN dX0_tryRows_74 rfl ?_
              refine F_goto (tgt := 25) dX0_tryRows_77 rfl ?_
              exact h1
            · cases c56
        · have hx := Bool.not_eq_true _ ▸ hx
          have hH2 : hlB (sInj (pQ (plR f g (upd K1 (e - (j + 1)) (nI t))) g c (-1))) (e - w) (w - j) = true := by
            rw [show w - j = w - (j + 1) + 1 by omega]
            simp only [hlB]
            rw [show e - w + (w - (j + 1)) = e - (j + 1) by omega, hx]
            have hE : sEq (pQ (plR f g K) g c (-1)) (pQ (plR f g (upd K1 (e - (j + 1)) (nI t))) g c (-1)) (e - (j + 1)) := pl_eq hb hg hK.1 (-1) (by omega) (fun k hk => by
              simp only [upd]; rw [if_neg (by omega)]; exact (hKK k hk).symm)
            rw [← hlB_congr (w - (j + 1)) (fun i hi => hE.inj (show e - w + i < e - (j + 1) by omega)), hH]
            rfl
          obtain ⟨τ3, g1, ⟨K2, g2, g3, g4⟩, g5, g6, g7⟩ := ih (by omega) (6 * q + t) (upd K1 (e - (j + 1)) (nI t)) τ2 hN hH2 hL2
          have e10 : bsD (w - j) (6 * q + t) = bsD (w - (j + 1)) q * 10 + t := by
            rw [show w - j = w - (j + 1) + 1 by omega]; exact bsD_s _ _ ht6
          rw [e10] at g1
          have hK2 : bsH (fun k => f (40 + 70 * g + k)) K2 e w (j + 1) q := ⟨g2.1, g2.2.1, fun k hk => by
            rw [g3 k (by omega)]
            simp only [upd]; rw [if_neg (by omega)]; exact hK1.2.2 k hk⟩
          obtain ⟨υ, h1, h2, h3, h4, h5⟩ := ihs (t + 1) K2 τ3 (by omega) hK2 (fun k hk => by
            rw [g3 k (by omega)]
            simp only [upd]; rw [if_neg (by omega)]; exact hKK k hk) (g4.mono (by omega))
          refine ⟨υ, fun Q hQ => ?_, h2, by rw [h3, g5, r29, esp], fun b hb => (h4 b hb).trans ((g6 b hb).trans (f2 b hb)), h5.trans (g7.trans f33)⟩
          have h1 := h1 Q hQ
          refine F_iload dX0_tryRows_25 rfl ?_
          refine F_bipush (v := nI 6) dX0_tryRows_27 rfl ?_
          refine F_icmp_geN (tgt := 80) dX0_tryRows_29 rfl (by omega) (by omega) (fun c29 => ?_) (fun c29 => ?_)
          · exact absurd c29 (by omega)
          · refine F_aload_n dX0_tryRows_32 rfl ?_
            refine F_getr dX0_tryRows_33 rfl rfl (by first | assumption | rfl) rfl ?_
            refine F_iload dX0_tryRows_36 rfl ?_
            refine F_iload dX0_tryRows_38 rfl ?_
            refine F_iast dX0_tryRows_40 (by first | assumption | rfl) (by decide) (by omega) ?_
            refine F_aload_n dX0_tryRows_41 rfl ?_
            refine F_iload dX0_tryRows_42 rfl ?_
            refine F_iload dX0_tryRows_44 rfl ?_
            refine F_cV2v (hv) dX0_tryRows_46 rfl rfl (by decide) (by first | assumption | rfl) rfl rfl rfl (by decide) (Nat.le_of_ble_eq_true rfl) (by omega) ?_
            refine F_aload_n dX0_tryRows_49 rfl ?_
            refine F_getr dX0_tryRows_50 rfl rfl (by first | assumption | rfl) rfl ?_
            refine F_iload dX0_tryRows_53 rfl ?_
            refine F_zaldE (v := bI false) dX0_tryRows_55 (by first | assumption | rfl) (by decide) (by omega) (by rw [h9, hx]) ?_
            refine F_if_neB (tgt := 74) dX0_tryRows_56 rfl (fun c56 => ?_) (fun c56 => ?_)
            · cases c56
            · refine F_aload_n dX0_tryRows_59 rfl ?_
              refine F_iload_n dX0_tryRows_60 rfl ?_
              refine F_iload_n dX0_tryRows_61 rfl ?_
              refine F_iconst (v := nI 1) dX0_tryRows_62 rfl ?_
              refine F_isubN dX0_tryRows_63 (by omega) ?_
              refine F_iload_n dX0_tryRows_64 rfl ?_
              refine F_bipush (v := nI 10) dX0_tryRows_65 rfl ?_
              refine F_imulN dX0_tryRows_67 ?_
              refine F_iload dX0_tryRows_68 rfl ?_
              refine F_iaddN dX0_tryRows_70 ?_
              refine F_cV3v (g1) dX0_tryRows_71 rfl rfl (by decide) (by first | assumption | rfl) rfl rfl rfl (by decide) (Nat.le_of_ble_eq_true rfl) (by omega) ?_
              refine F_iincN dX0_tryRows_74 rfl ?_
              refine F_goto (tgt := 25) dX0_tryRows_77 rfl ?_
              exact h1
    obtain ⟨υ, h1, h2, h3, h4, h5⟩ := LL 6 0 K τ (by omega) hK (fun k hk => rfl) hL
    refine ⟨υ, mV_of fun Q hQ => ?_, h2, ?_, h4, h5⟩
    · have h1 := h1 Q hQ
      refine F_iload_n dX0_tryRows_0 rfl ?_
      refine F_iload_n dX0_tryRows_1 rfl ?_
      refine F_isubN dX0_tryRows_2 (by omega) ?_
      refine F_istore dX0_tryRows_3 (Nat.le_of_ble_eq_true rfl) ?_
      refine F_iload_n dX0_tryRows_5 rfl ?_
      refine F_if_gtN (tgt := 22) dX0_tryRows_6 rfl (by omega) (fun c6 => ?_) (fun c6 => ?_)
      · refine F_iconst (v := nI 0) dX0_tryRows_22 rfl ?_
        refine F_istore dX0_tryRows_23 (Nat.le_of_ble_eq_true rfl) ?_
        exact h1
      · exact absurd c6 (by omega)
    · rw [h3, Nat.zero_mul, Nat.add_zero, Nat.pow_succ, Nat.mul_comm 6 (6 ^ j)]

end QG
