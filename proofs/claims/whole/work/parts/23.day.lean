/-! ===== questions of the first kind: day, form, week, injured, peak, row ===== -/
theorem dX4_day_0 : decode cX4_day 0 = .ok (.aload_n 0, 1) := by decide +kernel
theorem dX4_day_1 : decode cX4_day 1 = .ok (.getfield 10, 3) := by decide +kernel
theorem dX4_day_4 : decode cX4_day 4 = .ok (.iload_n 1, 1) := by decide +kernel
theorem dX4_day_5 : decode cX4_day 5 = .ok (.invokevirtual 111, 3) := by decide +kernel
theorem dX4_day_8 : decode cX4_day 8 = .ok (.ifCond .eq 10, 3) := by decide +kernel
theorem dX4_day_11 : decode cX4_day 11 = .ok (.iload_n 2, 1) := by decide +kernel
theorem dX4_day_12 : decode cX4_day 12 = .ok (.invokestatic 145, 3) := by decide +kernel
theorem dX4_day_15 : decode cX4_day 15 = .ok (.ifCond .ne 5, 3) := by decide +kernel
theorem dX4_day_18 : decode cX4_day 18 = .ok (.iconst (-1), 1) := by decide +kernel
theorem dX4_day_19 : decode cX4_day 19 = .ok (.ireturn, 1) := by decide +kernel
theorem dX4_day_20 : decode cX4_day 20 = .ok (.aload_n 0, 1) := by decide +kernel
theorem dX4_day_21 : decode cX4_day 21 = .ok (.getfield 30, 3) := by decide +kernel
theorem dX4_day_24 : decode cX4_day 24 = .ok (.aload_n 0, 1) := by decide +kernel
theorem dX4_day_25 : decode cX4_day 25 = .ok (.getfield 10, 3) := by decide +kernel
theorem dX4_day_28 : decode cX4_day 28 = .ok (.iload_n 1, 1) := by decide +kernel
theorem dX4_day_29 : decode cX4_day 29 = .ok (.iconst (-1), 1) := by decide +kernel
theorem dX4_day_30 : decode cX4_day 30 = .ok (.iload_n 2, 1) := by decide +kernel
theorem dX4_day_31 : decode cX4_day 31 = .ok (.invokevirtual 148, 3) := by decide +kernel
theorem dX4_day_34 : decode cX4_day 34 = .ok (.iload_n 3, 1) := by decide +kernel
theorem dX4_day_35 : decode cX4_day 35 = .ok (.tableswitch 142 0 7 #[45, 55, 65, 77, 89, 106, 124, 133], 45) := by decide +kernel
theorem dX4_day_80 : decode cX4_day 80 = .ok (.aload_n 0, 1) := by decide +kernel
theorem dX4_day_81 : decode cX4_day 81 = .ok (.getfield 30, 3) := by decide +kernel
theorem dX4_day_84 : decode cX4_day 84 = .ok (.getfield 152, 3) := by decide +kernel
theorem dX4_day_87 : decode cX4_day 87 = .ok (.iload_n 2, 1) := by decide +kernel
theorem dX4_day_88 : decode cX4_day 88 = .ok (.iaload, 1) := by decide +kernel
theorem dX4_day_89 : decode cX4_day 89 = .ok (.ireturn, 1) := by decide +kernel
theorem dX4_day_90 : decode cX4_day 90 = .ok (.aload_n 0, 1) := by decide +kernel
theorem dX4_day_91 : decode cX4_day 91 = .ok (.getfield 30, 3) := by decide +kernel
theorem dX4_day_94 : decode cX4_day 94 = .ok (.getfield 155, 3) := by decide +kernel
theorem dX4_day_97 : decode cX4_day 97 = .ok (.iload_n 2, 1) := by decide +kernel
theorem dX4_day_98 : decode cX4_day 98 = .ok (.iaload, 1) := by decide +kernel
theorem dX4_day_99 : decode cX4_day 99 = .ok (.ireturn, 1) := by decide +kernel
theorem dX4_day_100 : decode cX4_day 100 = .ok (.aload_n 0, 1) := by decide +kernel
theorem dX4_day_101 : decode cX4_day 101 = .ok (.getfield 30, 3) := by decide +kernel
theorem dX4_day_104 : decode cX4_day 104 = .ok (.getfield 156, 3) := by decide +kernel
theorem dX4_day_107 : decode cX4_day 107 = .ok (.iload_n 2, 1) := by decide +kernel
theorem dX4_day_108 : decode cX4_day 108 = .ok (.iconst 1, 1) := by decide +kernel
theorem dX4_day_109 : decode cX4_day 109 = .ok (.iadd, 1) := by decide +kernel
theorem dX4_day_110 : decode cX4_day 110 = .ok (.iaload, 1) := by decide +kernel
theorem dX4_day_111 : decode cX4_day 111 = .ok (.ireturn, 1) := by decide +kernel
theorem dX4_day_112 : decode cX4_day 112 = .ok (.aload_n 0, 1) := by decide +kernel
theorem dX4_day_113 : decode cX4_day 113 = .ok (.getfield 30, 3) := by decide +kernel
theorem dX4_day_116 : decode cX4_day 116 = .ok (.getfield 159, 3) := by decide +kernel
theorem dX4_day_119 : decode cX4_day 119 = .ok (.iload_n 2, 1) := by decide +kernel
theorem dX4_day_120 : decode cX4_day 120 = .ok (.iconst 1, 1) := by decide +kernel
theorem dX4_day_121 : decode cX4_day 121 = .ok (.iadd, 1) := by decide +kernel
theorem dX4_day_122 : decode cX4_day 122 = .ok (.iaload, 1) := by decide +kernel
theorem dX4_day_123 : decode cX4_day 123 = .ok (.ireturn, 1) := by decide +kernel
theorem dX4_day_124 : decode cX4_day 124 = .ok (.aload_n 0, 1) := by decide +kernel
theorem dX4_day_125 : decode cX4_day 125 = .ok (.getfield 30, 3) := by decide +kernel
theorem dX4_day_128 : decode cX4_day 128 = .ok (.iload_n 2, 1) := by decide +kernel
theorem dX4_day_129 : decode cX4_day 129 = .ok (.invokevirtual 162, 3) := by decide +kernel
theorem dX4_day_132 : decode cX4_day 132 = .ok (.ifCond .eq 7, 3) := by decide +kernel
theorem dX4_day_135 : decode cX4_day 135 = .ok (.iconst 1, 1) := by decide +kernel
theorem dX4_day_136 : decode cX4_day 136 = .ok (.goto 4, 3) := by decide +kernel
theorem dX4_day_139 : decode cX4_day 139 = .ok (.iconst 0, 1) := by decide +kernel
theorem dX4_day_140 : decode cX4_day 140 = .ok (.ireturn, 1) := by decide +kernel
theorem dX4_day_141 : decode cX4_day 141 = .ok (.aload_n 0, 1) := by decide +kernel
theorem dX4_day_142 : decode cX4_day 142 = .ok (.getfield 30, 3) := by decide +kernel
theorem dX4_day_145 : decode cX4_day 145 = .ok (.getfield 165, 3) := by decide +kernel
theorem dX4_day_148 : decode cX4_day 148 = .ok (.iload_n 2, 1) := by decide +kernel
theorem dX4_day_149 : decode cX4_day 149 = .ok (.baload, 1) := by decide +kernel
theorem dX4_day_150 : decode cX4_day 150 = .ok (.ifCond .eq 7, 3) := by decide +kernel
theorem dX4_day_153 : decode cX4_day 153 = .ok (.iconst 1, 1) := by decide +kernel
theorem dX4_day_154 : decode cX4_day 154 = .ok (.goto 4, 3) := by decide +kernel
theorem dX4_day_157 : decode cX4_day 157 = .ok (.iconst 0, 1) := by decide +kernel
theorem dX4_day_158 : decode cX4_day 158 = .ok (.ireturn, 1) := by decide +kernel
theorem dX4_day_159 : decode cX4_day 159 = .ok (.aload_n 0, 1) := by decide +kernel
theorem dX4_day_160 : decode cX4_day 160 = .ok (.getfield 30, 3) := by decide +kernel
theorem dX4_day_163 : decode cX4_day 163 = .ok (.iload_n 2, 1) := by decide +kernel
theorem dX4_day_164 : decode cX4_day 164 = .ok (.invokevirtual 169, 3) := by decide +kernel
theorem dX4_day_167 : decode cX4_day 167 = .ok (.ireturn, 1) := by decide +kernel
theorem dX4_day_168 : decode cX4_day 168 = .ok (.aload_n 0, 1) := by decide +kernel
theorem dX4_day_169 : decode cX4_day 169 = .ok (.getfield 30, 3) := by decide +kernel
theorem dX4_day_172 : decode cX4_day 172 = .ok (.iload_n 2, 1) := by decide +kernel
theorem dX4_day_173 : decode cX4_day 173 = .ok (.invokevirtual 172, 3) := by decide +kernel
theorem dX4_day_176 : decode cX4_day 176 = .ok (.ireturn, 1) := by decide +kernel
theorem dX4_day_177 : decode cX4_day 177 = .ok (.iconst (-1), 1) := by decide +kernel
theorem dX4_day_178 : decode cX4_day 178 = .ok (.ireturn, 1) := by decide +kernel
theorem dX4_form_0 : decode cX4_form 0 = .ok (.aload_n 0, 1) := by decide +kernel
theorem dX4_form_1 : decode cX4_form 1 = .ok (.getfield 10, 3) := by decide +kernel
theorem dX4_form_4 : decode cX4_form 4 = .ok (.iload_n 1, 1) := by decide +kernel
theorem dX4_form_5 : decode cX4_form 5 = .ok (.invokevirtual 111, 3) := by decide +kernel
theorem dX4_form_8 : decode cX4_form 8 = .ok (.ifCond .eq 10, 3) := by decide +kernel
theorem dX4_form_11 : decode cX4_form 11 = .ok (.iload_n 2, 1) := by decide +kernel
theorem dX4_form_12 : decode cX4_form 12 = .ok (.invokestatic 145, 3) := by decide +kernel
theorem dX4_form_15 : decode cX4_form 15 = .ok (.ifCond .ne 6, 3) := by decide +kernel
theorem dX4_form_18 : decode cX4_form 18 = .ok (.ldc 175, 2) := by decide +kernel
theorem dX4_form_20 : decode cX4_form 20 = .ok (.ireturn, 1) := by decide +kernel
theorem dX4_form_21 : decode cX4_form 21 = .ok (.aload_n 0, 1) := by decide +kernel
theorem dX4_form_22 : decode cX4_form 22 = .ok (.iload_n 1, 1) := by decide +kernel
theorem dX4_form_23 : decode cX4_form 23 = .ok (.iload_n 2, 1) := by decide +kernel
theorem dX4_form_24 : decode cX4_form 24 = .ok (.invokevirtual 176, 3) := by decide +kernel
theorem dX4_form_27 : decode cX4_form 27 = .ok (.ireturn, 1) := by decide +kernel
theorem dX4_formAsTold_0 : decode cX4_formAsTold 0 = .ok (.aload_n 0, 1) := by decide +kernel
theorem dX4_formAsTold_1 : decode cX4_formAsTold 1 = .ok (.getfield 30, 3) := by decide +kernel
theorem dX4_formAsTold_4 : decode cX4_formAsTold 4 = .ok (.aload_n 0, 1) := by decide +kernel
theorem dX4_formAsTold_5 : decode cX4_formAsTold 5 = .ok (.getfield 10, 3) := by decide +kernel
theorem dX4_formAsTold_8 : decode cX4_formAsTold 8 = .ok (.iload_n 1, 1) := by decide +kernel
theorem dX4_formAsTold_9 : decode cX4_formAsTold 9 = .ok (.iconst (-1), 1) := by decide +kernel
theorem dX4_formAsTold_10 : decode cX4_formAsTold 10 = .ok (.iload_n 2, 1) := by decide +kernel
theorem dX4_formAsTold_11 : decode cX4_formAsTold 11 = .ok (.invokevirtual 148, 3) := by decide +kernel
theorem dX4_formAsTold_14 : decode cX4_formAsTold 14 = .ok (.aload_n 0, 1) := by decide +kernel
theorem dX4_formAsTold_15 : decode cX4_formAsTold 15 = .ok (.getfield 30, 3) := by decide +kernel
theorem dX4_formAsTold_18 : decode cX4_formAsTold 18 = .ok (.iload_n 2, 1) := by decide +kernel
theorem dX4_formAsTold_19 : decode cX4_formAsTold 19 = .ok (.invokevirtual 183, 3) := by decide +kernel
theorem dX4_formAsTold_22 : decode cX4_formAsTold 22 = .ok (.ireturn, 1) := by decide +kernel
theorem dX4_week_0 : decode cX4_week 0 = .ok (.aload_n 0, 1) := by decide +kernel
theorem dX4_week_1 : decode cX4_week 1 = .ok (.getfield 10, 3) := by decide +kernel
theorem dX4_week_4 : decode cX4_week 4 = .ok (.iload_n 1, 1) := by decide +kernel
theorem dX4_week_5 : decode cX4_week 5 = .ok (.invokevirtual 111, 3) := by decide +kernel
theorem dX4_week_8 : decode cX4_week 8 = .ok (.ifCond .eq 13, 3) := by decide +kernel
theorem dX4_week_11 : decode cX4_week 11 = .ok (.iload_n 2, 1) := by decide +kernel
theorem dX4_week_12 : decode cX4_week 12 = .ok (.ifCond .lt 9, 3) := by decide +kernel
theorem dX4_week_15 : decode cX4_week 15 = .ok (.iload_n 2, 1) := by decide +kernel
theorem dX4_week_16 : decode cX4_week 16 = .ok (.bipush 10, 2) := by decide +kernel
theorem dX4_week_18 : decode cX4_week 18 = .ok (.if_icmp .lt 5, 3) := by decide +kernel
theorem dX4_week_21 : decode cX4_week 21 = .ok (.iconst (-1), 1) := by decide +kernel
theorem dX4_week_22 : decode cX4_week 22 = .ok (.ireturn, 1) := by decide +kernel
theorem dX4_week_23 : decode cX4_week 23 = .ok (.iload_n 2, 1) := by decide +kernel
theorem dX4_week_24 : decode cX4_week 24 = .ok (.bipush 7, 2) := by decide +kernel
theorem dX4_week_26 : decode cX4_week 26 = .ok (.imul, 1) := by decide +kernel
theorem dX4_week_27 : decode cX4_week 27 = .ok (.istore_n 3, 1) := by decide +kernel
theorem dX4_week_28 : decode cX4_week 28 = .ok (.aload_n 0, 1) := by decide +kernel
theorem dX4_week_29 : decode cX4_week 29 = .ok (.getfield 30, 3) := by decide +kernel
theorem dX4_week_32 : decode cX4_week 32 = .ok (.aload_n 0, 1) := by decide +kernel
theorem dX4_week_33 : decode cX4_week 33 = .ok (.getfield 10, 3) := by decide +kernel
theorem dX4_week_36 : decode cX4_week 36 = .ok (.iload_n 1, 1) := by decide +kernel
theorem dX4_week_37 : decode cX4_week 37 = .ok (.iconst (-1), 1) := by decide +kernel
theorem dX4_week_38 : decode cX4_week 38 = .ok (.iload_n 3, 1) := by decide +kernel
theorem dX4_week_39 : decode cX4_week 39 = .ok (.bipush 7, 2) := by decide +kernel
theorem dX4_week_41 : decode cX4_week 41 = .ok (.iadd, 1) := by decide +kernel
theorem dX4_week_42 : decode cX4_week 42 = .ok (.iconst 1, 1) := by decide +kernel
theorem dX4_week_43 : decode cX4_week 43 = .ok (.isub, 1) := by decide +kernel
theorem dX4_week_44 : decode cX4_week 44 = .ok (.invokevirtual 148, 3) := by decide +kernel
theorem dX4_week_47 : decode cX4_week 47 = .ok (.aload_n 0, 1) := by decide +kernel
theorem dX4_week_48 : decode cX4_week 48 = .ok (.getfield 30, 3) := by decide +kernel
theorem dX4_week_51 : decode cX4_week 51 = .ok (.getfield 180, 3) := by decide +kernel
theorem dX4_week_54 : decode cX4_week 54 = .ok (.iload_n 3, 1) := by decide +kernel
theorem dX4_week_55 : decode cX4_week 55 = .ok (.bipush 7, 2) := by decide +kernel
theorem dX4_week_57 : decode cX4_week 57 = .ok (.iadd, 1) := by decide +kernel
theorem dX4_week_58 : decode cX4_week 58 = .ok (.iaload, 1) := by decide +kernel
theorem dX4_week_59 : decode cX4_week 59 = .ok (.aload_n 0, 1) := by decide +kernel
theorem dX4_week_60 : decode cX4_week 60 = .ok (.getfield 30, 3) := by decide +kernel
theorem dX4_week_63 : decode cX4_week 63 = .ok (.getfield 180, 3) := by decide +kernel
theorem dX4_week_66 : decode cX4_week 66 = .ok (.iload_n 3, 1) := by decide +kernel
theorem dX4_week_67 : decode cX4_week 67 = .ok (.iaload, 1) := by decide +kernel
theorem dX4_week_68 : decode cX4_week 68 = .ok (.isub, 1) := by decide +kernel
theorem dX4_week_69 : decode cX4_week 69 = .ok (.ireturn, 1) := by decide +kernel
theorem dX4_injured_0 : decode cX4_injured 0 = .ok (.aload_n 0, 1) := by decide +kernel
theorem dX4_injured_1 : decode cX4_injured 1 = .ok (.getfield 10, 3) := by decide +kernel
theorem dX4_injured_4 : decode cX4_injured 4 = .ok (.iload_n 1, 1) := by decide +kernel
theorem dX4_injured_5 : decode cX4_injured 5 = .ok (.invokevirtual 111, 3) := by decide +kernel
theorem dX4_injured_8 : decode cX4_injured 8 = .ok (.ifCond .eq 11, 3) := by decide +kernel
theorem dX4_injured_11 : decode cX4_injured 11 = .ok (.iload_n 2, 1) := by decide +kernel
theorem dX4_injured_12 : decode cX4_injured 12 = .ok (.iload_n 3, 1) := by decide +kernel
theorem dX4_injured_13 : decode cX4_injured 13 = .ok (.invokestatic 96, 3) := by decide +kernel
theorem dX4_injured_16 : decode cX4_injured 16 = .ok (.ifCond .ne 5, 3) := by decide +kernel
theorem dX4_injured_19 : decode cX4_injured 19 = .ok (.iconst (-1), 1) := by decide +kernel
theorem dX4_injured_20 : decode cX4_injured 20 = .ok (.ireturn, 1) := by decide +kernel
theorem dX4_injured_21 : decode cX4_injured 21 = .ok (.aload_n 0, 1) := by decide +kernel
theorem dX4_injured_22 : decode cX4_injured 22 = .ok (.getfield 30, 3) := by decide +kernel
theorem dX4_injured_25 : decode cX4_injured 25 = .ok (.aload_n 0, 1) := by decide +kernel
theorem dX4_injured_26 : decode cX4_injured 26 = .ok (.getfield 10, 3) := by decide +kernel
theorem dX4_injured_29 : decode cX4_injured 29 = .ok (.iload_n 1, 1) := by decide +kernel
theorem dX4_injured_30 : decode cX4_injured 30 = .ok (.iconst (-1), 1) := by decide +kernel
theorem dX4_injured_31 : decode cX4_injured 31 = .ok (.iload_n 3, 1) := by decide +kernel
theorem dX4_injured_32 : decode cX4_injured 32 = .ok (.invokevirtual 148, 3) := by decide +kernel
theorem dX4_injured_35 : decode cX4_injured 35 = .ok (.iconst 0, 1) := by decide +kernel
theorem dX4_injured_36 : decode cX4_injured 36 = .ok (.istore 4, 2) := by decide +kernel
theorem dX4_injured_38 : decode cX4_injured 38 = .ok (.iload_n 2, 1) := by decide +kernel
theorem dX4_injured_39 : decode cX4_injured 39 = .ok (.istore 5, 2) := by decide +kernel
theorem dX4_injured_41 : decode cX4_injured 41 = .ok (.iload 5, 2) := by decide +kernel
theorem dX4_injured_43 : decode cX4_injured 43 = .ok (.iload_n 3, 1) := by decide +kernel
theorem dX4_injured_44 : decode cX4_injured 44 = .ok (.if_icmp .gt 25, 3) := by decide +kernel
theorem dX4_injured_47 : decode cX4_injured 47 = .ok (.aload_n 0, 1) := by decide +kernel
theorem dX4_injured_48 : decode cX4_injured 48 = .ok (.getfield 30, 3) := by decide +kernel
theorem dX4_injured_51 : decode cX4_injured 51 = .ok (.getfield 165, 3) := by decide +kernel
theorem dX4_injured_54 : decode cX4_injured 54 = .ok (.iload 5, 2) := by decide +kernel
theorem dX4_injured_56 : decode cX4_injured 56 = .ok (.baload, 1) := by decide +kernel
theorem dX4_injured_57 : decode cX4_injured 57 = .ok (.ifCond .eq 6, 3) := by decide +kernel
theorem dX4_injured_60 : decode cX4_injured 60 = .ok (.iinc 4 1, 3) := by decide +kernel
theorem dX4_injured_63 : decode cX4_injured 63 = .ok (.iinc 5 1, 3) := by decide +kernel
theorem dX4_injured_66 : decode cX4_injured 66 = .ok (.goto (-25), 3) := by decide +kernel
theorem dX4_injured_69 : decode cX4_injured 69 = .ok (.iload 4, 2) := by decide +kernel
theorem dX4_injured_71 : decode cX4_injured 71 = .ok (.ireturn, 1) := by decide +kernel
theorem dX4_peak_0 : decode cX4_peak 0 = .ok (.aload_n 0, 1) := by decide +kernel
theorem dX4_peak_1 : decode cX4_peak 1 = .ok (.getfield 10, 3) := by decide +kernel
theorem dX4_peak_4 : decode cX4_peak 4 = .ok (.iload_n 1, 1) := by decide +kernel
theorem dX4_peak_5 : decode cX4_peak 5 = .ok (.invokevirtual 111, 3) := by decide +kernel
theorem dX4_peak_8 : decode cX4_peak 8 = .ok (.ifCond .eq 11, 3) := by decide +kernel
theorem dX4_peak_11 : decode cX4_peak 11 = .ok (.iload_n 2, 1) := by decide +kernel
theorem dX4_peak_12 : decode cX4_peak 12 = .ok (.iload_n 3, 1) := by decide +kernel
theorem dX4_peak_13 : decode cX4_peak 13 = .ok (.invokestatic 96, 3) := by decide +kernel
theorem dX4_peak_16 : decode cX4_peak 16 = .ok (.ifCond .ne 5, 3) := by decide +kernel
theorem dX4_peak_19 : decode cX4_peak 19 = .ok (.iconst (-1), 1) := by decide +kernel
theorem dX4_peak_20 : decode cX4_peak 20 = .ok (.ireturn, 1) := by decide +kernel
theorem dX4_peak_21 : decode cX4_peak 21 = .ok (.aload_n 0, 1) := by decide +kernel
theorem dX4_peak_22 : decode cX4_peak 22 = .ok (.getfield 30, 3) := by decide +kernel
theorem dX4_peak_25 : decode cX4_peak 25 = .ok (.aload_n 0, 1) := by decide +kernel
theorem dX4_peak_26 : decode cX4_peak 26 = .ok (.getfield 10, 3) := by decide +kernel
theorem dX4_peak_29 : decode cX4_peak 29 = .ok (.iload_n 1, 1) := by decide +kernel
theorem dX4_peak_30 : decode cX4_peak 30 = .ok (.iconst (-1), 1) := by decide +kernel
theorem dX4_peak_31 : decode cX4_peak 31 = .ok (.iload_n 3, 1) := by decide +kernel
theorem dX4_peak_32 : decode cX4_peak 32 = .ok (.invokevirtual 148, 3) := by decide +kernel
theorem dX4_peak_35 : decode cX4_peak 35 = .ok (.iload_n 2, 1) := by decide +kernel
theorem dX4_peak_36 : decode cX4_peak 36 = .ok (.istore 4, 2) := by decide +kernel
theorem dX4_peak_38 : decode cX4_peak 38 = .ok (.iload_n 2, 1) := by decide +kernel
theorem dX4_peak_39 : decode cX4_peak 39 = .ok (.iconst 1, 1) := by decide +kernel
theorem dX4_peak_40 : decode cX4_peak 40 = .ok (.iadd, 1) := by decide +kernel
theorem dX4_peak_41 : decode cX4_peak 41 = .ok (.istore 5, 2) := by decide +kernel
theorem dX4_peak_43 : decode cX4_peak 43 = .ok (.iload 5, 2) := by decide +kernel
theorem dX4_peak_45 : decode cX4_peak 45 = .ok (.iload_n 3, 1) := by decide +kernel
theorem dX4_peak_46 : decode cX4_peak 46 = .ok (.if_icmp .gt 34, 3) := by decide +kernel
theorem dX4_peak_49 : decode cX4_peak 49 = .ok (.aload_n 0, 1) := by decide +kernel
theorem dX4_peak_50 : decode cX4_peak 50 = .ok (.getfield 30, 3) := by decide +kernel
theorem dX4_peak_53 : decode cX4_peak 53 = .ok (.iload 5, 2) := by decide +kernel
theorem dX4_peak_55 : decode cX4_peak 55 = .ok (.invokevirtual 183, 3) := by decide +kernel
theorem dX4_peak_58 : decode cX4_peak 58 = .ok (.aload_n 0, 1) := by decide +kernel
theorem dX4_peak_59 : decode cX4_peak 59 = .ok (.getfield 30, 3) := by decide +kernel
theorem dX4_peak_62 : decode cX4_peak 62 = .ok (.iload 4, 2) := by decide +kernel
theorem dX4_peak_64 : decode cX4_peak 64 = .ok (.invokevirtual 183, 3) := by decide +kernel
theorem dX4_peak_67 : decode cX4_peak 67 = .ok (.if_icmp .le 7, 3) := by decide +kernel
theorem dX4_peak_70 : decode cX4_peak 70 = .ok (.iload 5, 2) := by decide +kernel
theorem dX4_peak_72 : decode cX4_peak 72 = .ok (.istore 4, 2) := by decide +kernel
theorem dX4_peak_74 : decode cX4_peak 74 = .ok (.iinc 5 1, 3) := by decide +kernel
theorem dX4_peak_77 : decode cX4_peak 77 = .ok (.goto (-34), 3) := by decide +kernel
theorem dX4_peak_80 : decode cX4_peak 80 = .ok (.iload 4, 2) := by decide +kernel
theorem dX4_peak_82 : decode cX4_peak 82 = .ok (.ireturn, 1) := by decide +kernel
theorem dX4_row_0 : decode cX4_row 0 = .ok (.aload_n 0, 1) := by decide +kernel
theorem dX4_row_1 : decode cX4_row 1 = .ok (.getfield 10, 3) := by decide +kernel
theorem dX4_row_4 : decode cX4_row 4 = .ok (.iload_n 1, 1) := by decide +kernel
theorem dX4_row_5 : decode cX4_row 5 = .ok (.invokevirtual 111, 3) := by decide +kernel
theorem dX4_row_8 : decode cX4_row 8 = .ok (.ifCond .eq 11, 3) := by decide +kernel
theorem dX4_row_11 : decode cX4_row 11 = .ok (.iload_n 2, 1) := by decide +kernel
theorem dX4_row_12 : decode cX4_row 12 = .ok (.iload_n 3, 1) := by decide +kernel
theorem dX4_row_13 : decode cX4_row 13 = .ok (.invokestatic 96, 3) := by decide +kernel
theorem dX4_row_16 : decode cX4_row 16 = .ok (.ifCond .ne 5, 3) := by decide +kernel
theorem dX4_row_19 : decode cX4_row 19 = .ok (.iconst (-1), 1) := by decide +kernel
theorem dX4_row_20 : decode cX4_row 20 = .ok (.ireturn, 1) := by decide +kernel
theorem dX4_row_21 : decode cX4_row 21 = .ok (.aload_n 0, 1) := by decide +kernel
theorem dX4_row_22 : decode cX4_row 22 = .ok (.getfield 30, 3) := by decide +kernel
theorem dX4_row_25 : decode cX4_row 25 = .ok (.aload_n 0, 1) := by decide +kernel
theorem dX4_row_26 : decode cX4_row 26 = .ok (.getfield 10, 3) := by decide +kernel
theorem dX4_row_29 : decode cX4_row 29 = .ok (.iload_n 1, 1) := by decide +kernel
theorem dX4_row_30 : decode cX4_row 30 = .ok (.iconst (-1), 1) := by decide +kernel
theorem dX4_row_31 : decode cX4_row 31 = .ok (.iload_n 3, 1) := by decide +kernel
theorem dX4_row_32 : decode cX4_row 32 = .ok (.invokevirtual 148, 3) := by decide +kernel
theorem dX4_row_35 : decode cX4_row 35 = .ok (.iconst 0, 1) := by decide +kernel
theorem dX4_row_36 : decode cX4_row 36 = .ok (.istore 4, 2) := by decide +kernel
theorem dX4_row_38 : decode cX4_row 38 = .ok (.iconst 0, 1) := by decide +kernel
theorem dX4_row_39 : decode cX4_row 39 = .ok (.istore 5, 2) := by decide +kernel
theorem dX4_row_41 : decode cX4_row 41 = .ok (.iload_n 2, 1) := by decide +kernel
theorem dX4_row_42 : decode cX4_row 42 = .ok (.istore 6, 2) := by decide +kernel
theorem dX4_row_44 : decode cX4_row 44 = .ok (.iload 6, 2) := by decide +kernel
theorem dX4_row_46 : decode cX4_row 46 = .ok (.iload_n 3, 1) := by decide +kernel
theorem dX4_row_47 : decode cX4_row 47 = .ok (.if_icmp .gt 41, 3) := by decide +kernel
theorem dX4_row_50 : decode cX4_row 50 = .ok (.aload_n 0, 1) := by decide +kernel
theorem dX4_row_51 : decode cX4_row 51 = .ok (.getfield 30, 3) := by decide +kernel
theorem dX4_row_54 : decode cX4_row 54 = .ok (.getfield 155, 3) := by decide +kernel
theorem dX4_row_57 : decode cX4_row 57 = .ok (.iload 6, 2) := by decide +kernel
theorem dX4_row_59 : decode cX4_row 59 = .ok (.iaload, 1) := by decide +kernel
theorem dX4_row_60 : decode cX4_row 60 = .ok (.ifCond .le 10, 3) := by decide +kernel
theorem dX4_row_63 : decode cX4_row 63 = .ok (.iload 5, 2) := by decide +kernel
theorem dX4_row_65 : decode cX4_row 65 = .ok (.iconst 1, 1) := by decide +kernel
theorem dX4_row_66 : decode cX4_row 66 = .ok (.iadd, 1) := by decide +kernel
theorem dX4_row_67 : decode cX4_row 67 = .ok (.goto 4, 3) := by decide +kernel
theorem dX4_row_70 : decode cX4_row 70 = .ok (.iconst 0, 1) := by decide +kernel
theorem dX4_row_71 : decode cX4_row 71 = .ok (.istore 5, 2) := by decide +kernel
theorem dX4_row_73 : decode cX4_row 73 = .ok (.iload 4, 2) := by decide +kernel
theorem dX4_row_75 : decode cX4_row 75 = .ok (.iload 5, 2) := by decide +kernel
theorem dX4_row_77 : decode cX4_row 77 = .ok (.invokestatic 210, 3) := by decide +kernel
theorem dX4_row_80 : decode cX4_row 80 = .ok (.istore 4, 2) := by decide +kernel
theorem dX4_row_82 : decode cX4_row 82 = .ok (.iinc 6 1, 3) := by decide +kernel
theorem dX4_row_85 : decode cX4_row 85 = .ok (.goto (-41), 3) := by decide +kernel
theorem dX4_row_88 : decode cX4_row 88 = .ok (.iload 4, 2) := by decide +kernel
theorem dX4_row_90 : decode cX4_row 90 = .ok (.ireturn, 1) := by decide +kernel
theorem dX4_swap_0 : decode cX4_swap 0 = .ok (.aload_n 0, 1) := by decide +kernel
theorem dX4_swap_1 : decode cX4_swap 1 = .ok (.getfield 10, 3) := by decide +kernel
theorem dX4_swap_4 : decode cX4_swap 4 = .ok (.iload_n 1, 1) := by decide +kernel
theorem dX4_swap_5 : decode cX4_swap 5 = .ok (.invokevirtual 111, 3) := by decide +kernel
theorem dX4_swap_8 : decode cX4_swap 8 = .ok (.ifCond .eq 25, 3) := by decide +kernel
theorem dX4_swap_11 : decode cX4_swap 11 = .ok (.iload_n 2, 1) := by decide +kernel
theorem dX4_swap_12 : decode cX4_swap 12 = .ok (.invokestatic 145, 3) := by decide +kernel
theorem dX4_swap_15 : decode cX4_swap 15 = .ok (.ifCond .eq 18, 3) := by decide +kernel
theorem dX4_swap_18 : decode cX4_swap 18 = .ok (.iload_n 3, 1) := by decide +kernel
theorem dX4_swap_19 : decode cX4_swap 19 = .ok (.invokestatic 145, 3) := by decide +kernel
theorem dX4_swap_22 : decode cX4_swap 22 = .ok (.ifCond .eq 11, 3) := by decide +kernel
theorem dX4_swap_25 : decode cX4_swap 25 = .ok (.iload 4, 2) := by decide +kernel
theorem dX4_swap_27 : decode cX4_swap 27 = .ok (.invokestatic 145, 3) := by decide +kernel
theorem dX4_swap_30 : decode cX4_swap 30 = .ok (.ifCond .ne 6, 3) := by decide +kernel
theorem dX4_swap_33 : decode cX4_swap 33 = .ok (.ldc 175, 2) := by decide +kernel
theorem dX4_swap_35 : decode cX4_swap 35 = .ok (.ireturn, 1) := by decide +kernel
theorem dX4_swap_36 : decode cX4_swap 36 = .ok (.aload_n 0, 1) := by decide +kernel
theorem dX4_swap_37 : decode cX4_swap 37 = .ok (.iload_n 1, 1) := by decide +kernel
theorem dX4_swap_38 : decode cX4_swap 38 = .ok (.iload_n 2, 1) := by decide +kernel
theorem dX4_swap_39 : decode cX4_swap 39 = .ok (.invokevirtual 176, 3) := by decide +kernel
theorem dX4_swap_42 : decode cX4_swap 42 = .ok (.istore 5, 2) := by decide +kernel
theorem dX4_swap_44 : decode cX4_swap 44 = .ok (.aload_n 0, 1) := by decide +kernel
theorem dX4_swap_45 : decode cX4_swap 45 = .ok (.getfield 30, 3) := by decide +kernel
theorem dX4_swap_48 : decode cX4_swap 48 = .ok (.getfield 152, 3) := by decide +kernel
theorem dX4_swap_51 : decode cX4_swap 51 = .ok (.iload_n 3, 1) := by decide +kernel
theorem dX4_swap_52 : decode cX4_swap 52 = .ok (.iaload, 1) := by decide +kernel
theorem dX4_swap_53 : decode cX4_swap 53 = .ok (.istore 6, 2) := by decide +kernel
theorem dX4_swap_55 : decode cX4_swap 55 = .ok (.aload_n 0, 1) := by decide +kernel
theorem dX4_swap_56 : decode cX4_swap 56 = .ok (.getfield 30, 3) := by decide +kernel
theorem dX4_swap_59 : decode cX4_swap 59 = .ok (.getfield 152, 3) := by decide +kernel
theorem dX4_swap_62 : decode cX4_swap 62 = .ok (.iload_n 3, 1) := by decide +kernel
theorem dX4_swap_63 : decode cX4_swap 63 = .ok (.aload_n 0, 1) := by decide +kernel
theorem dX4_swap_64 : decode cX4_swap 64 = .ok (.getfield 30, 3) := by decide +kernel
theorem dX4_swap_67 : decode cX4_swap 67 = .ok (.getfield 152, 3) := by decide +kernel
theorem dX4_swap_70 : decode cX4_swap 70 = .ok (.iload 4, 2) := by decide +kernel
theorem dX4_swap_72 : decode cX4_swap 72 = .ok (.iaload, 1) := by decide +kernel
theorem dX4_swap_73 : decode cX4_swap 73 = .ok (.iastore, 1) := by decide +kernel
theorem dX4_swap_74 : decode cX4_swap 74 = .ok (.aload_n 0, 1) := by decide +kernel
theorem dX4_swap_75 : decode cX4_swap 75 = .ok (.getfield 30, 3) := by decide +kernel
theorem dX4_swap_78 : decode cX4_swap 78 = .ok (.getfield 152, 3) := by decide +kernel
theorem dX4_swap_81 : decode cX4_swap 81 = .ok (.iload 4, 2) := by decide +kernel
theorem dX4_swap_83 : decode cX4_swap 83 = .ok (.iload 6, 2) := by decide +kernel
theorem dX4_swap_85 : decode cX4_swap 85 = .ok (.iastore, 1) := by decide +kernel
theorem dX4_swap_86 : decode cX4_swap 86 = .ok (.aload_n 0, 1) := by decide +kernel
theorem dX4_swap_87 : decode cX4_swap 87 = .ok (.getfield 30, 3) := by decide +kernel
theorem dX4_swap_90 : decode cX4_swap 90 = .ok (.iconst 0, 1) := by decide +kernel
theorem dX4_swap_91 : decode cX4_swap 91 = .ok (.iload_n 2, 1) := by decide +kernel
theorem dX4_swap_92 : decode cX4_swap 92 = .ok (.invokevirtual 191, 3) := by decide +kernel
theorem dX4_swap_95 : decode cX4_swap 95 = .ok (.aload_n 0, 1) := by decide +kernel
theorem dX4_swap_96 : decode cX4_swap 96 = .ok (.getfield 30, 3) := by decide +kernel
theorem dX4_swap_99 : decode cX4_swap 99 = .ok (.iload_n 2, 1) := by decide +kernel
theorem dX4_swap_100 : decode cX4_swap 100 = .ok (.invokevirtual 183, 3) := by decide +kernel
theorem dX4_swap_103 : decode cX4_swap 103 = .ok (.iload 5, 2) := by decide +kernel
theorem dX4_swap_105 : decode cX4_swap 105 = .ok (.isub, 1) := by decide +kernel
theorem dX4_swap_106 : decode cX4_swap 106 = .ok (.ireturn, 1) := by decide +kernel
theorem dX4_without_0 : decode cX4_without 0 = .ok (.aload_n 0, 1) := by decide +kernel
theorem dX4_without_1 : decode cX4_without 1 = .ok (.getfield 10, 3) := by decide +kernel
theorem dX4_without_4 : decode cX4_without 4 = .ok (.iload_n 1, 1) := by decide +kernel
theorem dX4_without_5 : decode cX4_without 5 = .ok (.invokevirtual 111, 3) := by decide +kernel
theorem dX4_without_8 : decode cX4_without 8 = .ok (.ifCond .eq 21, 3) := by decide +kernel
theorem dX4_without_11 : decode cX4_without 11 = .ok (.iload_n 2, 1) := by decide +kernel
theorem dX4_without_12 : decode cX4_without 12 = .ok (.invokestatic 145, 3) := by decide +kernel
theorem dX4_without_15 : decode cX4_without 15 = .ok (.ifCond .eq 14, 3) := by decide +kernel
theorem dX4_without_18 : decode cX4_without 18 = .ok (.aload_n 0, 1) := by decide +kernel
theorem dX4_without_19 : decode cX4_without 19 = .ok (.getfield 10, 3) := by decide +kernel
theorem dX4_without_22 : decode cX4_without 22 = .ok (.iload_n 3, 1) := by decide +kernel
theorem dX4_without_23 : decode cX4_without 23 = .ok (.invokevirtual 105, 3) := by decide +kernel
theorem dX4_without_26 : decode cX4_without 26 = .ok (.ifCond .ne 6, 3) := by decide +kernel
theorem dX4_without_29 : decode cX4_without 29 = .ok (.ldc 175, 2) := by decide +kernel
theorem dX4_without_31 : decode cX4_without 31 = .ok (.ireturn, 1) := by decide +kernel
theorem dX4_without_32 : decode cX4_without 32 = .ok (.aload_n 0, 1) := by decide +kernel
theorem dX4_without_33 : decode cX4_without 33 = .ok (.iload_n 1, 1) := by decide +kernel
theorem dX4_without_34 : decode cX4_without 34 = .ok (.iload_n 2, 1) := by decide +kernel
theorem dX4_without_35 : decode cX4_without 35 = .ok (.invokevirtual 176, 3) := by decide +kernel
theorem dX4_without_38 : decode cX4_without 38 = .ok (.istore 4, 2) := by decide +kernel
theorem dX4_without_40 : decode cX4_without 40 = .ok (.aload_n 0, 1) := by decide +kernel
theorem dX4_without_41 : decode cX4_without 41 = .ok (.getfield 30, 3) := by decide +kernel
theorem dX4_without_44 : decode cX4_without 44 = .ok (.aload_n 0, 1) := by decide +kernel
theorem dX4_without_45 : decode cX4_without 45 = .ok (.getfield 10, 3) := by decide +kernel
theorem dX4_without_48 : decode cX4_without 48 = .ok (.iload_n 1, 1) := by decide +kernel
theorem dX4_without_49 : decode cX4_without 49 = .ok (.iload_n 3, 1) := by decide +kernel
theorem dX4_without_50 : decode cX4_without 50 = .ok (.iload_n 2, 1) := by decide +kernel
theorem dX4_without_51 : decode cX4_without 51 = .ok (.invokevirtual 148, 3) := by decide +kernel
theorem dX4_without_54 : decode cX4_without 54 = .ok (.aload_n 0, 1) := by decide +kernel
theorem dX4_without_55 : decode cX4_without 55 = .ok (.getfield 30, 3) := by decide +kernel
theorem dX4_without_58 : decode cX4_without 58 = .ok (.iload_n 2, 1) := by decide +kernel
theorem dX4_without_59 : decode cX4_without 59 = .ok (.invokevirtual 183, 3) := by decide +kernel
theorem dX4_without_62 : decode cX4_without 62 = .ok (.iload 4, 2) := by decide +kernel
theorem dX4_without_64 : decode cX4_without 64 = .ok (.isub, 1) := by decide +kernel
theorem dX4_without_65 : decode cX4_without 65 = .ok (.ireturn, 1) := by decide +kernel
theorem dX4_ahead_0 : decode cX4_ahead 0 = .ok (.aload_n 0, 1) := by decide +kernel
theorem dX4_ahead_1 : decode cX4_ahead 1 = .ok (.getfield 10, 3) := by decide +kernel
theorem dX4_ahead_4 : decode cX4_ahead 4 = .ok (.iload_n 1, 1) := by decide +kernel
theorem dX4_ahead_5 : decode cX4_ahead 5 = .ok (.invokevirtual 111, 3) := by decide +kernel
theorem dX4_ahead_8 : decode cX4_ahead 8 = .ok (.ifCond .eq 21, 3) := by decide +kernel
theorem dX4_ahead_11 : decode cX4_ahead 11 = .ok (.aload_n 0, 1) := by decide +kernel
theorem dX4_ahead_12 : decode cX4_ahead 12 = .ok (.getfield 10, 3) := by decide +kernel
theorem dX4_ahead_15 : decode cX4_ahead 15 = .ok (.iload_n 2, 1) := by decide +kernel
theorem dX4_ahead_16 : decode cX4_ahead 16 = .ok (.invokevirtual 111, 3) := by decide +kernel
theorem dX4_ahead_19 : decode cX4_ahead 19 = .ok (.ifCond .eq 10, 3) := by decide +kernel
theorem dX4_ahead_22 : decode cX4_ahead 22 = .ok (.iload_n 3, 1) := by decide +kernel
theorem dX4_ahead_23 : decode cX4_ahead 23 = .ok (.invokestatic 145, 3) := by decide +kernel
theorem dX4_ahead_26 : decode cX4_ahead 26 = .ok (.ifCond .ne 5, 3) := by decide +kernel
theorem dX4_ahead_29 : decode cX4_ahead 29 = .ok (.iconst (-1), 1) := by decide +kernel
theorem dX4_ahead_30 : decode cX4_ahead 30 = .ok (.ireturn, 1) := by decide +kernel
theorem dX4_ahead_31 : decode cX4_ahead 31 = .ok (.aload_n 0, 1) := by decide +kernel
theorem dX4_ahead_32 : decode cX4_ahead 32 = .ok (.getfield 30, 3) := by decide +kernel
theorem dX4_ahead_35 : decode cX4_ahead 35 = .ok (.aload_n 0, 1) := by decide +kernel
theorem dX4_ahead_36 : decode cX4_ahead 36 = .ok (.getfield 10, 3) := by decide +kernel
theorem dX4_ahead_39 : decode cX4_ahead 39 = .ok (.iload_n 1, 1) := by decide +kernel
theorem dX4_ahead_40 : decode cX4_ahead 40 = .ok (.iconst (-1), 1) := by decide +kernel
theorem dX4_ahead_41 : decode cX4_ahead 41 = .ok (.bipush 69, 2) := by decide +kernel
theorem dX4_ahead_43 : decode cX4_ahead 43 = .ok (.invokevirtual 148, 3) := by decide +kernel
theorem dX4_ahead_46 : decode cX4_ahead 46 = .ok (.aload_n 0, 1) := by decide +kernel
theorem dX4_ahead_47 : decode cX4_ahead 47 = .ok (.getfield 34, 3) := by decide +kernel
theorem dX4_ahead_50 : decode cX4_ahead 50 = .ok (.aload_n 0, 1) := by decide +kernel
theorem dX4_ahead_51 : decode cX4_ahead 51 = .ok (.getfield 10, 3) := by decide +kernel
theorem dX4_ahead_54 : decode cX4_ahead 54 = .ok (.iload_n 2, 1) := by decide +kernel
theorem dX4_ahead_55 : decode cX4_ahead 55 = .ok (.iconst (-1), 1) := by decide +kernel
theorem dX4_ahead_56 : decode cX4_ahead 56 = .ok (.bipush 69, 2) := by decide +kernel
theorem dX4_ahead_58 : decode cX4_ahead 58 = .ok (.invokevirtual 148, 3) := by decide +kernel
theorem dX4_ahead_61 : decode cX4_ahead 61 = .ok (.iload_n 3, 1) := by decide +kernel
theorem dX4_ahead_62 : decode cX4_ahead 62 = .ok (.istore 4, 2) := by decide +kernel
theorem dX4_ahead_64 : decode cX4_ahead 64 = .ok (.iload 4, 2) := by decide +kernel
theorem dX4_ahead_66 : decode cX4_ahead 66 = .ok (.bipush 70, 2) := by decide +kernel
theorem dX4_ahead_68 : decode cX4_ahead 68 = .ok (.if_icmp .ge 33, 3) := by decide +kernel
theorem dX4_ahead_71 : decode cX4_ahead 71 = .ok (.aload_n 0, 1) := by decide +kernel
theorem dX4_ahead_72 : decode cX4_ahead 72 = .ok (.getfield 30, 3) := by decide +kernel
theorem dX4_ahead_75 : decode cX4_ahead 75 = .ok (.iload 4, 2) := by decide +kernel
theorem dX4_ahead_77 : decode cX4_ahead 77 = .ok (.invokevirtual 183, 3) := by decide +kernel
theorem dX4_ahead_80 : decode cX4_ahead 80 = .ok (.aload_n 0, 1) := by decide +kernel
theorem dX4_ahead_81 : decode cX4_ahead 81 = .ok (.getfield 34, 3) := by decide +kernel
theorem dX4_ahead_84 : decode cX4_ahead 84 = .ok (.iload 4, 2) := by decide +kernel
theorem dX4_ahead_86 : decode cX4_ahead 86 = .ok (.invokevirtual 183, 3) := by decide +kernel
theorem dX4_ahead_89 : decode cX4_ahead 89 = .ok (.if_icmp .le 6, 3) := by decide +kernel
theorem dX4_ahead_92 : decode cX4_ahead 92 = .ok (.iload 4, 2) := by decide +kernel
theorem dX4_ahead_94 : decode cX4_ahead 94 = .ok (.ireturn, 1) := by decide +kernel
theorem dX4_ahead_95 : decode cX4_ahead 95 = .ok (.iinc 4 1, 3) := by decide +kernel
theorem dX4_ahead_98 : decode cX4_ahead 98 = .ok (.goto (-34), 3) := by decide +kernel
theorem dX4_ahead_101 : decode cX4_ahead 101 = .ok (.iconst (-1), 1) := by decide +kernel
theorem dX4_ahead_102 : decode cX4_ahead 102 = .ok (.ireturn, 1) := by decide +kernel
theorem dX5_day_0 : decode cX5_day 0 = .ok (.aload_n 0, 1) := by decide +kernel
theorem dX5_day_1 : decode cX5_day 1 = .ok (.iconst 0, 1) := by decide +kernel
theorem dX5_day_2 : decode cX5_day 2 = .ok (.putfield 61, 3) := by decide +kernel
theorem dX5_day_5 : decode cX5_day 5 = .ok (.aload_n 0, 1) := by decide +kernel
theorem dX5_day_6 : decode cX5_day 6 = .ok (.iload_n 1, 1) := by decide +kernel
theorem dX5_day_7 : decode cX5_day 7 = .ok (.iload_n 2, 1) := by decide +kernel
theorem dX5_day_8 : decode cX5_day 8 = .ok (.invokevirtual 79, 3) := by decide +kernel
theorem dX5_day_11 : decode cX5_day 11 = .ok (.ifCond .ne 5, 3) := by decide +kernel
theorem dX5_day_14 : decode cX5_day 14 = .ok (.iconst (-1), 1) := by decide +kernel
theorem dX5_day_15 : decode cX5_day 15 = .ok (.ireturn, 1) := by decide +kernel
theorem dX5_day_16 : decode cX5_day 16 = .ok (.aload_n 0, 1) := by decide +kernel
theorem dX5_day_17 : decode cX5_day 17 = .ok (.iload_n 1, 1) := by decide +kernel
theorem dX5_day_18 : decode cX5_day 18 = .ok (.iload_n 2, 1) := by decide +kernel
theorem dX5_day_19 : decode cX5_day 19 = .ok (.invokevirtual 194, 3) := by decide +kernel
theorem dX5_day_22 : decode cX5_day 22 = .ok (.iload_n 3, 1) := by decide +kernel
theorem dX5_day_23 : decode cX5_day 23 = .ok (.tableswitch 115 0 7 #[45, 52, 59, 66, 73, 88, 103, 109], 45) := by decide +kernel
theorem dX5_day_68 : decode cX5_day 68 = .ok (.aload_n 0, 1) := by decide +kernel
theorem dX5_day_69 : decode cX5_day 69 = .ok (.iload_n 1, 1) := by decide +kernel
theorem dX5_day_70 : decode cX5_day 70 = .ok (.iload_n 2, 1) := by decide +kernel
theorem dX5_day_71 : decode cX5_day 71 = .ok (.invokevirtual 113, 3) := by decide +kernel
theorem dX5_day_74 : decode cX5_day 74 = .ok (.ireturn, 1) := by decide +kernel
theorem dX5_day_75 : decode cX5_day 75 = .ok (.aload_n 0, 1) := by decide +kernel
theorem dX5_day_76 : decode cX5_day 76 = .ok (.getfield 32, 3) := by decide +kernel
theorem dX5_day_79 : decode cX5_day 79 = .ok (.iload_n 2, 1) := by decide +kernel
theorem dX5_day_80 : decode cX5_day 80 = .ok (.iaload, 1) := by decide +kernel
theorem dX5_day_81 : decode cX5_day 81 = .ok (.ireturn, 1) := by decide +kernel
theorem dX5_day_82 : decode cX5_day 82 = .ok (.aload_n 0, 1) := by decide +kernel
theorem dX5_day_83 : decode cX5_day 83 = .ok (.getfield 35, 3) := by decide +kernel
theorem dX5_day_86 : decode cX5_day 86 = .ok (.iload_n 2, 1) := by decide +kernel
theorem dX5_day_87 : decode cX5_day 87 = .ok (.iaload, 1) := by decide +kernel
theorem dX5_day_88 : decode cX5_day 88 = .ok (.ireturn, 1) := by decide +kernel
theorem dX5_day_89 : decode cX5_day 89 = .ok (.aload_n 0, 1) := by decide +kernel
theorem dX5_day_90 : decode cX5_day 90 = .ok (.getfield 38, 3) := by decide +kernel
theorem dX5_day_93 : decode cX5_day 93 = .ok (.iload_n 2, 1) := by decide +kernel
theorem dX5_day_94 : decode cX5_day 94 = .ok (.iaload, 1) := by decide +kernel
theorem dX5_day_95 : decode cX5_day 95 = .ok (.ireturn, 1) := by decide +kernel
theorem dX5_day_96 : decode cX5_day 96 = .ok (.aload_n 0, 1) := by decide +kernel
theorem dX5_day_97 : decode cX5_day 97 = .ok (.getfield 44, 3) := by decide +kernel
theorem dX5_day_100 : decode cX5_day 100 = .ok (.iload_n 2, 1) := by decide +kernel
theorem dX5_day_101 : decode cX5_day 101 = .ok (.baload, 1) := by decide +kernel
theorem dX5_day_102 : decode cX5_day 102 = .ok (.ifCond .eq 7, 3) := by decide +kernel
theorem dX5_day_105 : decode cX5_day 105 = .ok (.iconst 1, 1) := by decide +kernel
theorem dX5_day_106 : decode cX5_day 106 = .ok (.goto 4, 3) := by decide +kernel
theorem dX5_day_109 : decode cX5_day 109 = .ok (.iconst 0, 1) := by decide +kernel
theorem dX5_day_110 : decode cX5_day 110 = .ok (.ireturn, 1) := by decide +kernel
theorem dX5_day_111 : decode cX5_day 111 = .ok (.aload_n 0, 1) := by decide +kernel
theorem dX5_day_112 : decode cX5_day 112 = .ok (.getfield 48, 3) := by decide +kernel
theorem dX5_day_115 : decode cX5_day 115 = .ok (.iload_n 2, 1) := by decide +kernel
theorem dX5_day_116 : decode cX5_day 116 = .ok (.baload, 1) := by decide +kernel
theorem dX5_day_117 : decode cX5_day 117 = .ok (.ifCond .eq 7, 3) := by decide +kernel
theorem dX5_day_120 : decode cX5_day 120 = .ok (.iconst 1, 1) := by decide +kernel
theorem dX5_day_121 : decode cX5_day 121 = .ok (.goto 4, 3) := by decide +kernel
theorem dX5_day_124 : decode cX5_day 124 = .ok (.iconst 0, 1) := by decide +kernel
theorem dX5_day_125 : decode cX5_day 125 = .ok (.ireturn, 1) := by decide +kernel
theorem dX5_day_126 : decode cX5_day 126 = .ok (.aload_n 0, 1) := by decide +kernel
theorem dX5_day_127 : decode cX5_day 127 = .ok (.iload_n 2, 1) := by decide +kernel
theorem dX5_day_128 : decode cX5_day 128 = .ok (.invokevirtual 188, 3) := by decide +kernel
theorem dX5_day_131 : decode cX5_day 131 = .ok (.ireturn, 1) := by decide +kernel
theorem dX5_day_132 : decode cX5_day 132 = .ok (.aload_n 0, 1) := by decide +kernel
theorem dX5_day_133 : decode cX5_day 133 = .ok (.iload_n 2, 1) := by decide +kernel
theorem dX5_day_134 : decode cX5_day 134 = .ok (.invokevirtual 191, 3) := by decide +kernel
theorem dX5_day_137 : decode cX5_day 137 = .ok (.ireturn, 1) := by decide +kernel
theorem dX5_day_138 : decode cX5_day 138 = .ok (.iconst (-1), 1) := by decide +kernel
theorem dX5_day_139 : decode cX5_day 139 = .ok (.ireturn, 1) := by decide +kernel
theorem dX5_form_0 : decode cX5_form 0 = .ok (.aload_n 0, 1) := by decide +kernel
theorem dX5_form_1 : decode cX5_form 1 = .ok (.iconst 0, 1) := by decide +kernel
theorem dX5_form_2 : decode cX5_form 2 = .ok (.putfield 61, 3) := by decide +kernel
theorem dX5_form_5 : decode cX5_form 5 = .ok (.aload_n 0, 1) := by decide +kernel
theorem dX5_form_6 : decode cX5_form 6 = .ok (.iload_n 1, 1) := by decide +kernel
theorem dX5_form_7 : decode cX5_form 7 = .ok (.iload_n 2, 1) := by decide +kernel
theorem dX5_form_8 : decode cX5_form 8 = .ok (.invokevirtual 79, 3) := by decide +kernel
theorem dX5_form_11 : decode cX5_form 11 = .ok (.ifCond .eq 12, 3) := by decide +kernel
theorem dX5_form_14 : decode cX5_form 14 = .ok (.aload_n 0, 1) := by decide +kernel
theorem dX5_form_15 : decode cX5_form 15 = .ok (.iload_n 1, 1) := by decide +kernel
theorem dX5_form_16 : decode cX5_form 16 = .ok (.iload_n 2, 1) := by decide +kernel
theorem dX5_form_17 : decode cX5_form 17 = .ok (.invokevirtual 200, 3) := by decide +kernel
theorem dX5_form_20 : decode cX5_form 20 = .ok (.goto 5, 3) := by decide +kernel
theorem dX5_form_23 : decode cX5_form 23 = .ok (.ldc 203, 2) := by decide +kernel
theorem dX5_form_25 : decode cX5_form 25 = .ok (.ireturn, 1) := by decide +kernel
theorem dX5_week_0 : decode cX5_week 0 = .ok (.aload_n 0, 1) := by decide +kernel
theorem dX5_week_1 : decode cX5_week 1 = .ok (.iconst 0, 1) := by decide +kernel
theorem dX5_week_2 : decode cX5_week 2 = .ok (.putfield 61, 3) := by decide +kernel
theorem dX5_week_5 : decode cX5_week 5 = .ok (.aload_n 0, 1) := by decide +kernel
theorem dX5_week_6 : decode cX5_week 6 = .ok (.iload_n 1, 1) := by decide +kernel
theorem dX5_week_7 : decode cX5_week 7 = .ok (.invokevirtual 72, 3) := by decide +kernel
theorem dX5_week_10 : decode cX5_week 10 = .ok (.ifCond .eq 13, 3) := by decide +kernel
theorem dX5_week_13 : decode cX5_week 13 = .ok (.iload_n 2, 1) := by decide +kernel
theorem dX5_week_14 : decode cX5_week 14 = .ok (.iconst 0, 1) := by decide +kernel
theorem dX5_week_15 : decode cX5_week 15 = .ok (.bipush 9, 2) := by decide +kernel
theorem dX5_week_17 : decode cX5_week 17 = .ok (.invokestatic 68, 3) := by decide +kernel
theorem dX5_week_20 : decode cX5_week 20 = .ok (.ifCond .ne 5, 3) := by decide +kernel
theorem dX5_week_23 : decode cX5_week 23 = .ok (.iconst (-1), 1) := by decide +kernel
theorem dX5_week_24 : decode cX5_week 24 = .ok (.ireturn, 1) := by decide +kernel
theorem dX5_week_25 : decode cX5_week 25 = .ok (.aload_n 0, 1) := by decide +kernel
theorem dX5_week_26 : decode cX5_week 26 = .ok (.iload_n 1, 1) := by decide +kernel
theorem dX5_week_27 : decode cX5_week 27 = .ok (.bipush 69, 2) := by decide +kernel
theorem dX5_week_29 : decode cX5_week 29 = .ok (.invokevirtual 194, 3) := by decide +kernel
theorem dX5_week_32 : decode cX5_week 32 = .ok (.aload_n 0, 1) := by decide +kernel
theorem dX5_week_33 : decode cX5_week 33 = .ok (.getfield 41, 3) := by decide +kernel
theorem dX5_week_36 : decode cX5_week 36 = .ok (.bipush 7, 2) := by decide +kernel
theorem dX5_week_38 : decode cX5_week 38 = .ok (.iload_n 2, 1) := by decide +kernel
theorem dX5_week_39 : decode cX5_week 39 = .ok (.imul, 1) := by decide +kernel
theorem dX5_week_40 : decode cX5_week 40 = .ok (.bipush 7, 2) := by decide +kernel
theorem dX5_week_42 : decode cX5_week 42 = .ok (.iadd, 1) := by decide +kernel
theorem dX5_week_43 : decode cX5_week 43 = .ok (.iaload, 1) := by decide +kernel
theorem dX5_week_44 : decode cX5_week 44 = .ok (.aload_n 0, 1) := by decide +kernel
theorem dX5_week_45 : decode cX5_week 45 = .ok (.getfield 41, 3) := by decide +kernel
theorem dX5_week_48 : decode cX5_week 48 = .ok (.bipush 7, 2) := by decide +kernel
theorem dX5_week_50 : decode cX5_week 50 = .ok (.iload_n 2, 1) := by decide +kernel
theorem dX5_week_51 : decode cX5_week 51 = .ok (.imul, 1) := by decide +kernel
theorem dX5_week_52 : decode cX5_week 52 = .ok (.iaload, 1) := by decide +kernel
theorem dX5_week_53 : decode cX5_week 53 = .ok (.isub, 1) := by decide +kernel
theorem dX5_week_54 : decode cX5_week 54 = .ok (.ireturn, 1) := by decide +kernel
theorem dX5_injured_0 : decode cX5_injured 0 = .ok (.aload_n 0, 1) := by decide +kernel
theorem dX5_injured_1 : decode cX5_injured 1 = .ok (.iconst 0, 1) := by decide +kernel
theorem dX5_injured_2 : decode cX5_injured 2 = .ok (.putfield 61, 3) := by decide +kernel
theorem dX5_injured_5 : decode cX5_injured 5 = .ok (.aload_n 0, 1) := by decide +kernel
theorem dX5_injured_6 : decode cX5_injured 6 = .ok (.iload_n 1, 1) := by decide +kernel
theorem dX5_injured_7 : decode cX5_injured 7 = .ok (.iload_n 2, 1) := by decide +kernel
theorem dX5_injured_8 : decode cX5_injured 8 = .ok (.iload_n 3, 1) := by decide +kernel
theorem dX5_injured_9 : decode cX5_injured 9 = .ok (.invokevirtual 110, 3) := by decide +kernel
theorem dX5_injured_12 : decode cX5_injured 12 = .ok (.ifCond .ne 5, 3) := by decide +kernel
theorem dX5_injured_15 : decode cX5_injured 15 = .ok (.iconst (-1), 1) := by decide +kernel
theorem dX5_injured_16 : decode cX5_injured 16 = .ok (.ireturn, 1) := by decide +kernel
theorem dX5_injured_17 : decode cX5_injured 17 = .ok (.aload_n 0, 1) := by decide +kernel
theorem dX5_injured_18 : decode cX5_injured 18 = .ok (.iload_n 1, 1) := by decide +kernel
theorem dX5_injured_19 : decode cX5_injured 19 = .ok (.iload_n 3, 1) := by decide +kernel
theorem dX5_injured_20 : decode cX5_injured 20 = .ok (.invokevirtual 194, 3) := by decide +kernel
theorem dX5_injured_23 : decode cX5_injured 23 = .ok (.iconst 0, 1) := by decide +kernel
theorem dX5_injured_24 : decode cX5_injured 24 = .ok (.istore 4, 2) := by decide +kernel
theorem dX5_injured_26 : decode cX5_injured 26 = .ok (.iload_n 2, 1) := by decide +kernel
theorem dX5_injured_27 : decode cX5_injured 27 = .ok (.istore 5, 2) := by decide +kernel
theorem dX5_injured_29 : decode cX5_injured 29 = .ok (.iload 5, 2) := by decide +kernel
theorem dX5_injured_31 : decode cX5_injured 31 = .ok (.iload_n 3, 1) := by decide +kernel
theorem dX5_injured_32 : decode cX5_injured 32 = .ok (.if_icmp .gt 29, 3) := by decide +kernel
theorem dX5_injured_35 : decode cX5_injured 35 = .ok (.iload 4, 2) := by decide +kernel
theorem dX5_injured_37 : decode cX5_injured 37 = .ok (.aload_n 0, 1) := by decide +kernel
theorem dX5_injured_38 : decode cX5_injured 38 = .ok (.getfield 48, 3) := by decide +kernel
theorem dX5_injured_41 : decode cX5_injured 41 = .ok (.iload 5, 2) := by decide +kernel
theorem dX5_injured_43 : decode cX5_injured 43 = .ok (.baload, 1) := by decide +kernel
theorem dX5_injured_44 : decode cX5_injured 44 = .ok (.ifCond .eq 7, 3) := by decide +kernel
theorem dX5_injured_47 : decode cX5_injured 47 = .ok (.iconst 1, 1) := by decide +kernel
theorem dX5_injured_48 : decode cX5_injured 48 = .ok (.goto 4, 3) := by decide +kernel
theorem dX5_injured_51 : decode cX5_injured 51 = .ok (.iconst 0, 1) := by decide +kernel
theorem dX5_injured_52 : decode cX5_injured 52 = .ok (.iadd, 1) := by decide +kernel
theorem dX5_injured_53 : decode cX5_injured 53 = .ok (.istore 4, 2) := by decide +kernel
theorem dX5_injured_55 : decode cX5_injured 55 = .ok (.iinc 5 1, 3) := by decide +kernel
theorem dX5_injured_58 : decode cX5_injured 58 = .ok (.goto (-29), 3) := by decide +kernel
theorem dX5_injured_61 : decode cX5_injured 61 = .ok (.iload 4, 2) := by decide +kernel
theorem dX5_injured_63 : decode cX5_injured 63 = .ok (.ireturn, 1) := by decide +kernel
theorem dX5_peak_0 : decode cX5_peak 0 = .ok (.aload_n 0, 1) := by decide +kernel
theorem dX5_peak_1 : decode cX5_peak 1 = .ok (.iconst 0, 1) := by decide +kernel
theorem dX5_peak_2 : decode cX5_peak 2 = .ok (.putfield 61, 3) := by decide +kernel
theorem dX5_peak_5 : decode cX5_peak 5 = .ok (.aload_n 0, 1) := by decide +kernel
theorem dX5_peak_6 : decode cX5_peak 6 = .ok (.iload_n 1, 1) := by decide +kernel
theorem dX5_peak_7 : decode cX5_peak 7 = .ok (.iload_n 2, 1) := by decide +kernel
theorem dX5_peak_8 : decode cX5_peak 8 = .ok (.iload_n 3, 1) := by decide +kernel
theorem dX5_peak_9 : decode cX5_peak 9 = .ok (.invokevirtual 110, 3) := by decide +kernel
theorem dX5_peak_12 : decode cX5_peak 12 = .ok (.ifCond .ne 5, 3) := by decide +kernel
theorem dX5_peak_15 : decode cX5_peak 15 = .ok (.iconst (-1), 1) := by decide +kernel
theorem dX5_peak_16 : decode cX5_peak 16 = .ok (.ireturn, 1) := by decide +kernel
theorem dX5_peak_17 : decode cX5_peak 17 = .ok (.aload_n 0, 1) := by decide +kernel
theorem dX5_peak_18 : decode cX5_peak 18 = .ok (.iload_n 1, 1) := by decide +kernel
theorem dX5_peak_19 : decode cX5_peak 19 = .ok (.iload_n 3, 1) := by decide +kernel
theorem dX5_peak_20 : decode cX5_peak 20 = .ok (.invokevirtual 194, 3) := by decide +kernel
theorem dX5_peak_23 : decode cX5_peak 23 = .ok (.iload_n 2, 1) := by decide +kernel
theorem dX5_peak_24 : decode cX5_peak 24 = .ok (.istore 4, 2) := by decide +kernel
theorem dX5_peak_26 : decode cX5_peak 26 = .ok (.iload_n 2, 1) := by decide +kernel
theorem dX5_peak_27 : decode cX5_peak 27 = .ok (.istore 5, 2) := by decide +kernel
theorem dX5_peak_29 : decode cX5_peak 29 = .ok (.iload 5, 2) := by decide +kernel
theorem dX5_peak_31 : decode cX5_peak 31 = .ok (.iload_n 3, 1) := by decide +kernel
theorem dX5_peak_32 : decode cX5_peak 32 = .ok (.if_icmp .gt 33, 3) := by decide +kernel
theorem dX5_peak_35 : decode cX5_peak 35 = .ok (.aload_n 0, 1) := by decide +kernel
theorem dX5_peak_36 : decode cX5_peak 36 = .ok (.iload 5, 2) := by decide +kernel
theorem dX5_peak_38 : decode cX5_peak 38 = .ok (.invokevirtual 197, 3) := by decide +kernel
theorem dX5_peak_41 : decode cX5_peak 41 = .ok (.aload_n 0, 1) := by decide +kernel
theorem dX5_peak_42 : decode cX5_peak 42 = .ok (.iload 4, 2) := by decide +kernel
theorem dX5_peak_44 : decode cX5_peak 44 = .ok (.invokevirtual 197, 3) := by decide +kernel
theorem dX5_peak_47 : decode cX5_peak 47 = .ok (.if_icmp .le 8, 3) := by decide +kernel
theorem dX5_peak_50 : decode cX5_peak 50 = .ok (.iload 5, 2) := by decide +kernel
theorem dX5_peak_52 : decode cX5_peak 52 = .ok (.goto 5, 3) := by decide +kernel
theorem dX5_peak_55 : decode cX5_peak 55 = .ok (.iload 4, 2) := by decide +kernel
theorem dX5_peak_57 : decode cX5_peak 57 = .ok (.istore 4, 2) := by decide +kernel
theorem dX5_peak_59 : decode cX5_peak 59 = .ok (.iinc 5 1, 3) := by decide +kernel
theorem dX5_peak_62 : decode cX5_peak 62 = .ok (.goto (-33), 3) := by decide +kernel
theorem dX5_peak_65 : decode cX5_peak 65 = .ok (.iload 4, 2) := by decide +kernel
theorem dX5_peak_67 : decode cX5_peak 67 = .ok (.ireturn, 1) := by decide +kernel
theorem dX5_row_0 : decode cX5_row 0 = .ok (.aload_n 0, 1) := by decide +kernel
theorem dX5_row_1 : decode cX5_row 1 = .ok (.iconst 0, 1) := by decide +kernel
theorem dX5_row_2 : decode cX5_row 2 = .ok (.putfield 61, 3) := by decide +kernel
theorem dX5_row_5 : decode cX5_row 5 = .ok (.aload_n 0, 1) := by decide +kernel
theorem dX5_row_6 : decode cX5_row 6 = .ok (.iload_n 1, 1) := by decide +kernel
theorem dX5_row_7 : decode cX5_row 7 = .ok (.iload_n 2, 1) := by decide +kernel
theorem dX5_row_8 : decode cX5_row 8 = .ok (.iload_n 3, 1) := by decide +kernel
theorem dX5_row_9 : decode cX5_row 9 = .ok (.invokevirtual 110, 3) := by decide +kernel
theorem dX5_row_12 : decode cX5_row 12 = .ok (.ifCond .ne 5, 3) := by decide +kernel
theorem dX5_row_15 : decode cX5_row 15 = .ok (.iconst (-1), 1) := by decide +kernel
theorem dX5_row_16 : decode cX5_row 16 = .ok (.ireturn, 1) := by decide +kernel
theorem dX5_row_17 : decode cX5_row 17 = .ok (.aload_n 0, 1) := by decide +kernel
theorem dX5_row_18 : decode cX5_row 18 = .ok (.iload_n 1, 1) := by decide +kernel
theorem dX5_row_19 : decode cX5_row 19 = .ok (.iload_n 3, 1) := by decide +kernel
theorem dX5_row_20 : decode cX5_row 20 = .ok (.invokevirtual 194, 3) := by decide +kernel
theorem dX5_row_23 : decode cX5_row 23 = .ok (.iconst 0, 1) := by decide +kernel
theorem dX5_row_24 : decode cX5_row 24 = .ok (.istore 4, 2) := by decide +kernel
theorem dX5_row_26 : decode cX5_row 26 = .ok (.iconst 0, 1) := by decide +kernel
theorem dX5_row_27 : decode cX5_row 27 = .ok (.istore 5, 2) := by decide +kernel
theorem dX5_row_29 : decode cX5_row 29 = .ok (.iload_n 2, 1) := by decide +kernel
theorem dX5_row_30 : decode cX5_row 30 = .ok (.istore 6, 2) := by decide +kernel
theorem dX5_row_32 : decode cX5_row 32 = .ok (.iload 6, 2) := by decide +kernel
theorem dX5_row_34 : decode cX5_row 34 = .ok (.iload_n 3, 1) := by decide +kernel
theorem dX5_row_35 : decode cX5_row 35 = .ok (.if_icmp .gt 45, 3) := by decide +kernel
theorem dX5_row_38 : decode cX5_row 38 = .ok (.aload_n 0, 1) := by decide +kernel
theorem dX5_row_39 : decode cX5_row 39 = .ok (.getfield 32, 3) := by decide +kernel
theorem dX5_row_42 : decode cX5_row 42 = .ok (.iload 6, 2) := by decide +kernel
theorem dX5_row_44 : decode cX5_row 44 = .ok (.iaload, 1) := by decide +kernel
theorem dX5_row_45 : decode cX5_row 45 = .ok (.ifCond .le 10, 3) := by decide +kernel
theorem dX5_row_48 : decode cX5_row 48 = .ok (.iload 5, 2) := by decide +kernel
theorem dX5_row_50 : decode cX5_row 50 = .ok (.iconst 1, 1) := by decide +kernel
theorem dX5_row_51 : decode cX5_row 51 = .ok (.iadd, 1) := by decide +kernel
theorem dX5_row_52 : decode cX5_row 52 = .ok (.goto 4, 3) := by decide +kernel
theorem dX5_row_55 : decode cX5_row 55 = .ok (.iconst 0, 1) := by decide +kernel
theorem dX5_row_56 : decode cX5_row 56 = .ok (.istore 5, 2) := by decide +kernel
theorem dX5_row_58 : decode cX5_row 58 = .ok (.iload 5, 2) := by decide +kernel
theorem dX5_row_60 : decode cX5_row 60 = .ok (.iload 4, 2) := by decide +kernel
theorem dX5_row_62 : decode cX5_row 62 = .ok (.if_icmp .le 8, 3) := by decide +kernel
theorem dX5_row_65 : decode cX5_row 65 = .ok (.iload 5, 2) := by decide +kernel
theorem dX5_row_67 : decode cX5_row 67 = .ok (.goto 5, 3) := by decide +kernel
theorem dX5_row_70 : decode cX5_row 70 = .ok (.iload 4, 2) := by decide +kernel
theorem dX5_row_72 : decode cX5_row 72 = .ok (.istore 4, 2) := by decide +kernel
theorem dX5_row_74 : decode cX5_row 74 = .ok (.iinc 6 1, 3) := by decide +kernel
theorem dX5_row_77 : decode cX5_row 77 = .ok (.goto (-45), 3) := by decide +kernel
theorem dX5_row_80 : decode cX5_row 80 = .ok (.iload 4, 2) := by decide +kernel
theorem dX5_row_82 : decode cX5_row 82 = .ok (.ireturn, 1) := by decide +kernel
theorem dX5_swap_0 : decode cX5_swap 0 = .ok (.aload_n 0, 1) := by decide +kernel
theorem dX5_swap_1 : decode cX5_swap 1 = .ok (.iconst 0, 1) := by decide +kernel
theorem dX5_swap_2 : decode cX5_swap 2 = .ok (.putfield 61, 3) := by decide +kernel
theorem dX5_swap_5 : decode cX5_swap 5 = .ok (.aload_n 0, 1) := by decide +kernel
theorem dX5_swap_6 : decode cX5_swap 6 = .ok (.iload_n 1, 1) := by decide +kernel
theorem dX5_swap_7 : decode cX5_swap 7 = .ok (.iload_n 2, 1) := by decide +kernel
theorem dX5_swap_8 : decode cX5_swap 8 = .ok (.invokevirtual 79, 3) := by decide +kernel
theorem dX5_swap_11 : decode cX5_swap 11 = .ok (.ifCond .eq 18, 3) := by decide +kernel
theorem dX5_swap_14 : decode cX5_swap 14 = .ok (.iload_n 3, 1) := by decide +kernel
theorem dX5_swap_15 : decode cX5_swap 15 = .ok (.invokestatic 76, 3) := by decide +kernel
theorem dX5_swap_18 : decode cX5_swap 18 = .ok (.ifCond .eq 11, 3) := by decide +kernel
theorem dX5_swap_21 : decode cX5_swap 21 = .ok (.iload 4, 2) := by decide +kernel
theorem dX5_swap_23 : decode cX5_swap 23 = .ok (.invokestatic 76, 3) := by decide +kernel
theorem dX5_swap_26 : decode cX5_swap 26 = .ok (.ifCond .ne 6, 3) := by decide +kernel
theorem dX5_swap_29 : decode cX5_swap 29 = .ok (.ldc 203, 2) := by decide +kernel
theorem dX5_swap_31 : decode cX5_swap 31 = .ok (.ireturn, 1) := by decide +kernel
theorem dX5_swap_32 : decode cX5_swap 32 = .ok (.aload_n 0, 1) := by decide +kernel
theorem dX5_swap_33 : decode cX5_swap 33 = .ok (.iload_n 1, 1) := by decide +kernel
theorem dX5_swap_34 : decode cX5_swap 34 = .ok (.iload_n 2, 1) := by decide +kernel
theorem dX5_swap_35 : decode cX5_swap 35 = .ok (.invokevirtual 200, 3) := by decide +kernel
theorem dX5_swap_38 : decode cX5_swap 38 = .ok (.istore 5, 2) := by decide +kernel
theorem dX5_swap_40 : decode cX5_swap 40 = .ok (.aload_n 0, 1) := by decide +kernel
theorem dX5_swap_41 : decode cX5_swap 41 = .ok (.iload_n 1, 1) := by decide +kernel
theorem dX5_swap_42 : decode cX5_swap 42 = .ok (.invokevirtual 204, 3) := by decide +kernel
theorem dX5_swap_45 : decode cX5_swap 45 = .ok (.aload_n 0, 1) := by decide +kernel
theorem dX5_swap_46 : decode cX5_swap 46 = .ok (.getfield 7, 3) := by decide +kernel
theorem dX5_swap_49 : decode cX5_swap 49 = .ok (.bipush 40, 2) := by decide +kernel
theorem dX5_swap_51 : decode cX5_swap 51 = .ok (.bipush 70, 2) := by decide +kernel
theorem dX5_swap_53 : decode cX5_swap 53 = .ok (.iload_n 1, 1) := by decide +kernel
theorem dX5_swap_54 : decode cX5_swap 54 = .ok (.imul, 1) := by decide +kernel
theorem dX5_swap_55 : decode cX5_swap 55 = .ok (.iadd, 1) := by decide +kernel
theorem dX5_swap_56 : decode cX5_swap 56 = .ok (.iload_n 3, 1) := by decide +kernel
theorem dX5_swap_57 : decode cX5_swap 57 = .ok (.iadd, 1) := by decide +kernel
theorem dX5_swap_58 : decode cX5_swap 58 = .ok (.aload_n 0, 1) := by decide +kernel
theorem dX5_swap_59 : decode cX5_swap 59 = .ok (.getfield 58, 3) := by decide +kernel
theorem dX5_swap_62 : decode cX5_swap 62 = .ok (.iload 4, 2) := by decide +kernel
theorem dX5_swap_64 : decode cX5_swap 64 = .ok (.iaload, 1) := by decide +kernel
theorem dX5_swap_65 : decode cX5_swap 65 = .ok (.iastore, 1) := by decide +kernel
theorem dX5_swap_66 : decode cX5_swap 66 = .ok (.aload_n 0, 1) := by decide +kernel
theorem dX5_swap_67 : decode cX5_swap 67 = .ok (.getfield 7, 3) := by decide +kernel
theorem dX5_swap_70 : decode cX5_swap 70 = .ok (.bipush 40, 2) := by decide +kernel
theorem dX5_swap_72 : decode cX5_swap 72 = .ok (.bipush 70, 2) := by decide +kernel
theorem dX5_swap_74 : decode cX5_swap 74 = .ok (.iload_n 1, 1) := by decide +kernel
theorem dX5_swap_75 : decode cX5_swap 75 = .ok (.imul, 1) := by decide +kernel
theorem dX5_swap_76 : decode cX5_swap 76 = .ok (.iadd, 1) := by decide +kernel
theorem dX5_swap_77 : decode cX5_swap 77 = .ok (.iload 4, 2) := by decide +kernel
theorem dX5_swap_79 : decode cX5_swap 79 = .ok (.iadd, 1) := by decide +kernel
theorem dX5_swap_80 : decode cX5_swap 80 = .ok (.aload_n 0, 1) := by decide +kernel
theorem dX5_swap_81 : decode cX5_swap 81 = .ok (.getfield 58, 3) := by decide +kernel
theorem dX5_swap_84 : decode cX5_swap 84 = .ok (.iload_n 3, 1) := by decide +kernel
theorem dX5_swap_85 : decode cX5_swap 85 = .ok (.iaload, 1) := by decide +kernel
theorem dX5_swap_86 : decode cX5_swap 86 = .ok (.iastore, 1) := by decide +kernel
theorem dX5_swap_87 : decode cX5_swap 87 = .ok (.aload_n 0, 1) := by decide +kernel
theorem dX5_swap_88 : decode cX5_swap 88 = .ok (.iload_n 1, 1) := by decide +kernel
theorem dX5_swap_89 : decode cX5_swap 89 = .ok (.iload_n 2, 1) := by decide +kernel
theorem dX5_swap_90 : decode cX5_swap 90 = .ok (.invokevirtual 200, 3) := by decide +kernel
theorem dX5_swap_93 : decode cX5_swap 93 = .ok (.istore 6, 2) := by decide +kernel
theorem dX5_swap_95 : decode cX5_swap 95 = .ok (.aload_n 0, 1) := by decide +kernel
theorem dX5_swap_96 : decode cX5_swap 96 = .ok (.iload_n 1, 1) := by decide +kernel
theorem dX5_swap_97 : decode cX5_swap 97 = .ok (.invokevirtual 207, 3) := by decide +kernel
theorem dX5_swap_100 : decode cX5_swap 100 = .ok (.iload 6, 2) := by decide +kernel
theorem dX5_swap_102 : decode cX5_swap 102 = .ok (.iload 5, 2) := by decide +kernel
theorem dX5_swap_104 : decode cX5_swap 104 = .ok (.isub, 1) := by decide +kernel
theorem dX5_swap_105 : decode cX5_swap 105 = .ok (.ireturn, 1) := by decide +kernel
theorem dX5_without_0 : decode cX5_without 0 = .ok (.aload_n 0, 1) := by decide +kernel
theorem dX5_without_1 : decode cX5_without 1 = .ok (.iconst 0, 1) := by decide +kernel
theorem dX5_without_2 : decode cX5_without 2 = .ok (.putfield 61, 3) := by decide +kernel
theorem dX5_without_5 : decode cX5_without 5 = .ok (.aload_n 0, 1) := by decide +kernel
theorem dX5_without_6 : decode cX5_without 6 = .ok (.iload_n 1, 1) := by decide +kernel
theorem dX5_without_7 : decode cX5_without 7 = .ok (.iload_n 2, 1) := by decide +kernel
theorem dX5_without_8 : decode cX5_without 8 = .ok (.invokevirtual 79, 3) := by decide +kernel
theorem dX5_without_11 : decode cX5_without 11 = .ok (.ifCond .eq 17, 3) := by decide +kernel
theorem dX5_without_14 : decode cX5_without 14 = .ok (.iload_n 3, 1) := by decide +kernel
theorem dX5_without_15 : decode cX5_without 15 = .ok (.iconst 0, 1) := by decide +kernel
theorem dX5_without_16 : decode cX5_without 16 = .ok (.aload_n 0, 1) := by decide +kernel
theorem dX5_without_17 : decode cX5_without 17 = .ok (.invokevirtual 86, 3) := by decide +kernel
theorem dX5_without_20 : decode cX5_without 20 = .ok (.iconst 1, 1) := by decide +kernel
theorem dX5_without_21 : decode cX5_without 21 = .ok (.isub, 1) := by decide +kernel
theorem dX5_without_22 : decode cX5_without 22 = .ok (.invokestatic 68, 3) := by decide +kernel
theorem dX5_without_25 : decode cX5_without 25 = .ok (.ifCond .ne 6, 3) := by decide +kernel
theorem dX5_without_28 : decode cX5_without 28 = .ok (.ldc 203, 2) := by decide +kernel
theorem dX5_without_30 : decode cX5_without 30 = .ok (.ireturn, 1) := by decide +kernel
theorem dX5_without_31 : decode cX5_without 31 = .ok (.aload_n 0, 1) := by decide +kernel
theorem dX5_without_32 : decode cX5_without 32 = .ok (.iload_n 1, 1) := by decide +kernel
theorem dX5_without_33 : decode cX5_without 33 = .ok (.iload_n 2, 1) := by decide +kernel
theorem dX5_without_34 : decode cX5_without 34 = .ok (.invokevirtual 200, 3) := by decide +kernel
theorem dX5_without_37 : decode cX5_without 37 = .ok (.istore 4, 2) := by decide +kernel
theorem dX5_without_39 : decode cX5_without 39 = .ok (.aload_n 0, 1) := by decide +kernel
theorem dX5_without_40 : decode cX5_without 40 = .ok (.iload_n 3, 1) := by decide +kernel
theorem dX5_without_41 : decode cX5_without 41 = .ok (.putfield 51, 3) := by decide +kernel
theorem dX5_without_44 : decode cX5_without 44 = .ok (.aload_n 0, 1) := by decide +kernel
theorem dX5_without_45 : decode cX5_without 45 = .ok (.iload_n 1, 1) := by decide +kernel
theorem dX5_without_46 : decode cX5_without 46 = .ok (.iload_n 2, 1) := by decide +kernel
theorem dX5_without_47 : decode cX5_without 47 = .ok (.invokevirtual 200, 3) := by decide +kernel
theorem dX5_without_50 : decode cX5_without 50 = .ok (.istore 5, 2) := by decide +kernel
theorem dX5_without_52 : decode cX5_without 52 = .ok (.aload_n 0, 1) := by decide +kernel
theorem dX5_without_53 : decode cX5_without 53 = .ok (.iconst (-1), 1) := by decide +kernel
theorem dX5_without_54 : decode cX5_without 54 = .ok (.putfield 51, 3) := by decide +kernel
theorem dX5_without_57 : decode cX5_without 57 = .ok (.iload 5, 2) := by decide +kernel
theorem dX5_without_59 : decode cX5_without 59 = .ok (.iload 4, 2) := by decide +kernel
theorem dX5_without_61 : decode cX5_without 61 = .ok (.isub, 1) := by decide +kernel
theorem dX5_without_62 : decode cX5_without 62 = .ok (.ireturn, 1) := by decide +kernel
theorem dX5_ahead_0 : decode cX5_ahead 0 = .ok (.aload_n 0, 1) := by decide +kernel
theorem dX5_ahead_1 : decode cX5_ahead 1 = .ok (.iconst 0, 1) := by decide +kernel
theorem dX5_ahead_2 : decode cX5_ahead 2 = .ok (.putfield 61, 3) := by decide +kernel
theorem dX5_ahead_5 : decode cX5_ahead 5 = .ok (.aload_n 0, 1) := by decide +kernel
theorem dX5_ahead_6 : decode cX5_ahead 6 = .ok (.iload_n 1, 1) := by decide +kernel
theorem dX5_ahead_7 : decode cX5_ahead 7 = .ok (.iload_n 3, 1) := by decide +kernel
theorem dX5_ahead_8 : decode cX5_ahead 8 = .ok (.invokevirtual 79, 3) := by decide +kernel
theorem dX5_ahead_11 : decode cX5_ahead 11 = .ok (.ifCond .eq 11, 3) := by decide +kernel
theorem dX5_ahead_14 : decode cX5_ahead 14 = .ok (.aload_n 0, 1) := by decide +kernel
theorem dX5_ahead_15 : decode cX5_ahead 15 = .ok (.iload_n 2, 1) := by decide +kernel
theorem dX5_ahead_16 : decode cX5_ahead 16 = .ok (.invokevirtual 72, 3) := by decide +kernel
theorem dX5_ahead_19 : decode cX5_ahead 19 = .ok (.ifCond .ne 5, 3) := by decide +kernel
theorem dX5_ahead_22 : decode cX5_ahead 22 = .ok (.iconst (-1), 1) := by decide +kernel
theorem dX5_ahead_23 : decode cX5_ahead 23 = .ok (.ireturn, 1) := by decide +kernel
theorem dX5_ahead_24 : decode cX5_ahead 24 = .ok (.iload_n 3, 1) := by decide +kernel
theorem dX5_ahead_25 : decode cX5_ahead 25 = .ok (.istore 4, 2) := by decide +kernel
theorem dX5_ahead_27 : decode cX5_ahead 27 = .ok (.iload 4, 2) := by decide +kernel
theorem dX5_ahead_29 : decode cX5_ahead 29 = .ok (.bipush 70, 2) := by decide +kernel
theorem dX5_ahead_31 : decode cX5_ahead 31 = .ok (.if_icmp .ge 29, 3) := by decide +kernel
theorem dX5_ahead_34 : decode cX5_ahead 34 = .ok (.aload_n 0, 1) := by decide +kernel
theorem dX5_ahead_35 : decode cX5_ahead 35 = .ok (.iload_n 1, 1) := by decide +kernel
theorem dX5_ahead_36 : decode cX5_ahead 36 = .ok (.iload 4, 2) := by decide +kernel
theorem dX5_ahead_38 : decode cX5_ahead 38 = .ok (.invokevirtual 200, 3) := by decide +kernel
theorem dX5_ahead_41 : decode cX5_ahead 41 = .ok (.aload_n 0, 1) := by decide +kernel
theorem dX5_ahead_42 : decode cX5_ahead 42 = .ok (.iload_n 2, 1) := by decide +kernel
theorem dX5_ahead_43 : decode cX5_ahead 43 = .ok (.iload 4, 2) := by decide +kernel
theorem dX5_ahead_45 : decode cX5_ahead 45 = .ok (.invokevirtual 200, 3) := by decide +kernel
theorem dX5_ahead_48 : decode cX5_ahead 48 = .ok (.if_icmp .le 6, 3) := by decide +kernel
theorem dX5_ahead_51 : decode cX5_ahead 51 = .ok (.iload 4, 2) := by decide +kernel
theorem dX5_ahead_53 : decode cX5_ahead 53 = .ok (.ireturn, 1) := by decide +kernel
theorem dX5_ahead_54 : decode cX5_ahead 54 = .ok (.iinc 4 1, 3) := by decide +kernel
theorem dX5_ahead_57 : decode cX5_ahead 57 = .ok (.goto (-30), 3) := by decide +kernel
theorem dX5_ahead_60 : decode cX5_ahead 60 = .ok (.iconst (-1), 1) := by decide +kernel
theorem dX5_ahead_61 : decode cX5_ahead 61 = .ok (.ireturn, 1) := by decide +kernel
theorem dX5_remembers_0 : decode cX5_remembers 0 = .ok (.iconst 0, 1) := by decide +kernel
theorem dX5_remembers_1 : decode cX5_remembers 1 = .ok (.istore_n 2, 1) := by decide +kernel
theorem dX5_remembers_2 : decode cX5_remembers 2 = .ok (.iload_n 2, 1) := by decide +kernel
theorem dX5_remembers_3 : decode cX5_remembers 3 = .ok (.bipush 70, 2) := by decide +kernel
theorem dX5_remembers_5 : decode cX5_remembers 5 = .ok (.if_icmp .ge 21, 3) := by decide +kernel
theorem dX5_remembers_8 : decode cX5_remembers 8 = .ok (.aload_n 0, 1) := by decide +kernel
theorem dX5_remembers_9 : decode cX5_remembers 9 = .ok (.getfield 58, 3) := by decide +kernel
theorem dX5_remembers_12 : decode cX5_remembers 12 = .ok (.iload_n 2, 1) := by decide +kernel
theorem dX5_remembers_13 : decode cX5_remembers 13 = .ok (.aload_n 0, 1) := by decide +kernel
theorem dX5_remembers_14 : decode cX5_remembers 14 = .ok (.iload_n 1, 1) := by decide +kernel
theorem dX5_remembers_15 : decode cX5_remembers 15 = .ok (.iload_n 2, 1) := by decide +kernel
theorem dX5_remembers_16 : decode cX5_remembers 16 = .ok (.invokevirtual 113, 3) := by decide +kernel
theorem dX5_remembers_19 : decode cX5_remembers 19 = .ok (.iastore, 1) := by decide +kernel
theorem dX5_remembers_20 : decode cX5_remembers 20 = .ok (.iinc 2 1, 3) := by decide +kernel
theorem dX5_remembers_23 : decode cX5_remembers 23 = .ok (.goto (-21), 3) := by decide +kernel
theorem dX5_remembers_26 : decode cX5_remembers 26 = .ok (.return_, 1) := by decide +kernel
theorem dX5_comesBack_0 : decode cX5_comesBack 0 = .ok (.iconst 0, 1) := by decide +kernel
theorem dX5_comesBack_1 : decode cX5_comesBack 1 = .ok (.istore_n 2, 1) := by decide +kernel
theorem dX5_comesBack_2 : decode cX5_comesBack 2 = .ok (.iload_n 2, 1) := by decide +kernel
theorem dX5_comesBack_3 : decode cX5_comesBack 3 = .ok (.bipush 70, 2) := by decide +kernel
theorem dX5_comesBack_5 : decode cX5_comesBack 5 = .ok (.if_icmp .ge 29, 3) := by decide +kernel
theorem dX5_comesBack_8 : decode cX5_comesBack 8 = .ok (.aload_n 0, 1) := by decide +kernel
theorem dX5_comesBack_9 : decode cX5_comesBack 9 = .ok (.getfield 7, 3) := by decide +kernel
theorem dX5_comesBack_12 : decode cX5_comesBack 12 = .ok (.bipush 40, 2) := by decide +kernel
theorem dX5_comesBack_14 : decode cX5_comesBack 14 = .ok (.bipush 70, 2) := by decide +kernel
theorem dX5_comesBack_16 : decode cX5_comesBack 16 = .ok (.iload_n 1, 1) := by decide +kernel
theorem dX5_comesBack_17 : decode cX5_comesBack 17 = .ok (.imul, 1) := by decide +kernel
theorem dX5_comesBack_18 : decode cX5_comesBack 18 = .ok (.iadd, 1) := by decide +kernel
theorem dX5_comesBack_19 : decode cX5_comesBack 19 = .ok (.iload_n 2, 1) := by decide +kernel
theorem dX5_comesBack_20 : decode cX5_comesBack 20 = .ok (.iadd, 1) := by decide +kernel
theorem dX5_comesBack_21 : decode cX5_comesBack 21 = .ok (.aload_n 0, 1) := by decide +kernel
theorem dX5_comesBack_22 : decode cX5_comesBack 22 = .ok (.getfield 58, 3) := by decide +kernel
theorem dX5_comesBack_25 : decode cX5_comesBack 25 = .ok (.iload_n 2, 1) := by decide +kernel
theorem dX5_comesBack_26 : decode cX5_comesBack 26 = .ok (.iaload, 1) := by decide +kernel
theorem dX5_comesBack_27 : decode cX5_comesBack 27 = .ok (.iastore, 1) := by decide +kernel
theorem dX5_comesBack_28 : decode cX5_comesBack 28 = .ok (.iinc 2 1, 3) := by decide +kernel
theorem dX5_comesBack_31 : decode cX5_comesBack 31 = .ok (.goto (-29), 3) := by decide +kernel
theorem dX5_comesBack_34 : decode cX5_comesBack 34 = .ok (.return_, 1) := by decide +kernel

/-- what day answers -/
def dayR (f : Nat → Int32) (g c e : Nat) : Nat → Int32
  | 0 => f (40 + 70 * g + e)
  | 1 => sLoad (pQ f g c (-1)) e
  | 2 => sFit (pQ f g c (-1)) (e + 1)
  | 3 => sTir (pQ f g c (-1)) (e + 1)
  | 4 => bI (decide (e < sHl (pQ f g c (-1)) e))
  | 5 => bI (sInj (pQ f g c (-1)) e)
  | 6 => sSum (pQ f g c (-1)) (e + 1) - sSum (pQ f g c (-1)) (e + 1 - 7)
  | 7 => sSum (pQ f g c (-1)) (e + 1) - sSum (pQ f g c (-1)) (e + 1 - 28)
  | _ => -1
section QA
variable {G : mG} {d n c : Nat} {σ : mS}
theorem pred_s (e : Nat) (h : e < 70) : nI e = nI (e + 1) - nI 1 := by rw [nI_sub (by omega)]; rfl
theorem q_goesR {g to : Nat} (hq : QR σ n c) (hg : g < n) (ht : to < 70) : ∃ τ, mV G mX5_goes (d + 2) [.ref 116, .int (nI g), .int (nI to)] σ none τ ∧ Gone τ (pQ (σ 117) g c (-1)) (to + 1) ∧ τ 117 = σ 117 ∧ Fr σ τ := by
  obtain ⟨τ, h1, h2, h3⟩ := q_goes (G := G) (d := d) hq.1.1 hq.2.2.1 hq.2.2.2.1 hg ht
  rw [hq.2.1] at h2
  exact ⟨τ, h1, h2, h3 117 (by omega), q_frM hq (h2.1 0 (by omega)) (fun b hb => h3 b (by omega))⟩
theorem q_formR {g to : Nat} (hq : QR σ n c) (hg : g < n) (ht : to < 70) : ∃ τ, mV G mX5_formOf (d + 3) [.ref 116, .int (nI g), .int (nI to)] σ (some (.int (sForm (pQ (σ 117) g c (-1)) to))) τ ∧ Gone τ (pQ (σ 117) g c (-1)) (to + 1) ∧ τ 117 = σ 117 ∧ Fr σ τ := by
  obtain ⟨τ, h1, h2, h3⟩ := q_form (G := G) (d := d) hq.1.1 hq.2.2.1 hq.2.2.2.1 hg ht
  rw [hq.2.1] at h1 h2
  exact ⟨τ, h1, h2, h3 117 (by omega), q_frM hq (h2.1 0 (by omega)) (fun b hb => h3 b (by omega))⟩
theorem q_formAt {p : sP} {N k : Nat} (hG : Gone σ p N) (hs : ∀ k, k < 8 → σ 117 (6 + k) = p.1 k) (hk : k < N) (hN : N ≤ 70) : mV G mX5_formAt (d + 1) [.ref 116, .int (nI k)] σ (some (.int (sForm p k))) σ := by
  have hv := v_formAt (G := G) (d := d) (σ := σ) (n := k) (by omega)
  have h1 := hG.2 k hk
  rw [show σ 117 8 = p.1 2 from hs 2 (by omega), show σ 117 9 = p.1 3 from hs 3 (by omega), h1.2.1, h1.2.2.1] at hv
  exact hv

theorem b_dayA (hq : QR σ n c) {g e : Int32} (w : Int32) (h : (grB (nI n) g && dB e) = false) : Ask G mX4_day [.ref 3, .int g, .int e, .int w] (-1) σ := by
  have hn := hq.1.2.1
  have h23 := hq.1.1.2.2.1
  have hn6 := hq.1.1.1
  refine ⟨σ, mV_of fun Q hQ => ?_, Fr.rfl hq⟩
  refine F_aload_n dX4_day_0 rfl ?_
  refine F_getr dX4_day_1 rfl rfl (by first | assumption | rfl) rfl ?_
  refine F_iload_n dX4_day_4 rfl ?_
  refine F_cV1i (v_hasGroup (d := 11) isTold_4 _) dX4_day_5 rfl rfl (by decide) (by first | assumption | rfl) rfl rfl rfl (by decide) (Nat.le_of_ble_eq_true rfl) (by omega) ?_
  refine F_if_eqB (tgt := 18) dX4_day_8 rfl (fun c8 => ?_) (fun c8 => ?_)
  · refine F_iconst (v := (-1)) dX4_day_18 rfl ?_
    refine F_iret dX4_day_19 rfl ?_
    exact hQ
  · refine F_iload_n dX4_day_11 rfl ?_
    refine F_cS1i (v_bIsDay (d := 11) _) dX4_day_12 rfl rfl rfl (by decide) (Nat.le_of_ble_eq_true rfl) (by omega) ?_
    refine F_if_neB (tgt := 20) dX4_day_15 rfl (fun c15 => ?_) (fun c15 => ?_)
    · exfalso
      have c8 : grB (σ 4 0) g = true := c8
      rw [hn] at c8
      rw [c8, c15] at h
      cases h
    · refine F_iconst (v := (-1)) dX4_day_18 rfl ?_
      refine F_iret dX4_day_19 rfl ?_
      exact hQ

theorem m_dayA (hq : QR σ n c) {g e : Int32} (w : Int32) (h : (grB (nI n) g && dB e) = false) : Ask G mX5_day [.ref 116, .int g, .int e, .int w] (-1) σ := by
  have hn := hq.1.2.1
  have h23 := hq.1.1.2.2.1
  have hn6 := hq.1.1.1
  have hq1 := (Fr.thrown hq (nI 0)).qr hq
  refine ⟨(up σ 116 0 (nI 0)), mV_of fun Q hQ => ?_, Fr.thrown hq _⟩
  refine F_aload_n dX5_day_0 rfl ?_
  refine F_iconst (v := nI 0) dX5_day_1 rfl ?_
  refine F_put dX5_day_2 rfl rfl (by first | assumption | rfl) rfl rfl rfl rfl ?_
  refine F_aload_n dX5_day_5 rfl ?_
  refine F_iload_n dX5_day_6 rfl ?_
  refine F_iload_n dX5_day_7 rfl ?_
  refine F_cV2i (v_isOne (d := 5) _ _ (n := n) h23 (by omega)) dX5_day_8 rfl rfl (by decide) (by first | assumption | rfl) rfl rfl rfl (by decide) (Nat.le_of_ble_eq_true rfl) (by omega) ?_
  refine F_if_neB (tgt := 16) dX5_day_11 rfl (fun c11 => ?_) (fun c11 => ?_)
  · rw [show (up σ 116 0 (nI 0)) 117 23 = nI n from h23, h] at c11
    cases c11
  · refine F_iconst (v := (-1)) dX5_day_14 rfl ?_
    refine F_iret dX5_day_15 rfl ?_
    exact hQ

theorem b_day0 (hq : QR σ n c) {g e : Nat} (hg : g < n) (he : e < 70) : Ask G mX4_day [.ref 3, .int (nI g), .int (nI e), .int (nI 0)] (dayR (σ 117) g c e 0) σ := by
  have hn := hq.1.2.1
  have h23 := hq.1.1.2.2.1
  have hn6 := hq.1.1.1
  obtain ⟨τ, hv, hL, hC, far⟩ := q_follow (G := G) (d := 7) (a := 29) (N := e + 1) (Or.inl rfl) hq hg (by omega) (-1) (pred_s _ (by omega))
  have hh := sHl_le (pQ (σ 117) g c (-1)) (hq.1.1.s g c (-1)) e
  refine ⟨τ, mV_of fun Q hQ => ?_, q_frB (n := n) (c := c) (Or.inl rfl) hC far⟩
  refine F_aload_n dX4_day_0 rfl ?_
  refine F_getr dX4_day_1 rfl rfl (by first | assumption | rfl) rfl ?_
  refine F_iload_n dX4_day_4 rfl ?_
  refine F_cV1i (v_hasGroup (d := 11) isTold_4 _) dX4_day_5 rfl rfl (by decide) (by first | assumption | rfl) rfl rfl rfl (by decide) (Nat.le_of_ble_eq_true rfl) (by omega) ?_
  refine F_if_eqB (tgt := 18) dX4_day_8 rfl (fun c8 => ?_) (fun c8 => ?_)
  · have c8 : grB (σ 4 0) (nI g) = false := c8
    rw [hn, grB_nI hg (by omega)] at c8
    cases c8
  · refine F_iload_n dX4_day_11 rfl ?_
    refine F_cS1i (v_bIsDay (d := 11) _) dX4_day_12 rfl rfl rfl (by decide) (Nat.le_of_ble_eq_true rfl) (by omega) ?_
    refine F_if_neB (tgt := 20) dX4_day_15 rfl (fun c15 => ?_) (fun c15 => ?_)
    · refine F_aload_n dX4_day_20 rfl ?_
      refine F_getr dX4_day_21 rfl rfl (by first | assumption | rfl) rfl ?_
      refine F_aload_n dX4_day_24 rfl ?_
      refine F_getr dX4_day_25 rfl rfl (by first | assumption | rfl) rfl ?_
      refine F_iload_n dX4_day_28 rfl ?_
      refine F_iconst (v := (-1)) dX4_day_29 rfl ?_
      refine F_iload_n dX4_day_30 rfl ?_
      refine F_cV_riii_v (hv) dX4_day_31 rfl rfl (by decide) (by first | assumption | rfl) rfl rfl rfl (by decide) (Nat.le_of_ble_eq_true rfl) (by omega) ?_
      refine F_iload_n dX4_day_34 rfl ?_
      refine F_tableIn (off := 45) (tgt := 80) dX4_day_35 (by decide) (by decide) (by decide +kernel) rfl ?_
      refine F_aload_n dX4_day_80 rfl ?_
      refine F_getr dX4_day_81 rfl rfl (by first | assumption | rfl) rfl ?_
      refine F_getr dX4_day_84 rfl rfl (by first | assumption | rfl) rfl ?_
      refine F_iload_n dX4_day_87 rfl ?_
      refine F_ialdE (v := dayR (σ 117) g c e 0) dX4_day_88 (by first | assumption | rfl) (by decide) (by omega) (hL.2.1 e he) ?_
      refine F_iret dX4_day_89 rfl ?_
      exact hQ
    · rw [dB_nI he] at c15
      cases c15

theorem m_day0 (hq : QR σ n c) {g e : Nat} (hg : g < n) (he : e < 70) : Ask G mX5_day [.ref 116, .int (nI g), .int (nI e), .int (nI 0)] (dayR (σ 117) g c e 0) σ := by
  have hn := hq.1.2.1
  have h23 := hq.1.1.2.2.1
  have hn6 := hq.1.1.1
  have hq1 := (Fr.thrown hq (nI 0)).qr hq
  obtain ⟨τ, hv, hG, h7, hf⟩ := q_goesR (G := G) (d := 5) (to := e) hq1 hg (by omega)
  have hG : Gone τ (pQ (σ 117) g c (-1)) (e + 1) := hG
  refine ⟨τ, mV_of fun Q hQ => ?_, (Fr.thrown hq (nI 0)).trans hf⟩
  refine F_aload_n dX5_day_0 rfl ?_
  refine F_iconst (v := nI 0) dX5_day_1 rfl ?_
  refine F_put dX5_day_2 rfl rfl (by first | assumption | rfl) rfl rfl rfl rfl ?_
  refine F_aload_n dX5_day_5 rfl ?_
  refine F_iload_n dX5_day_6 rfl ?_
  refine F_iload_n dX5_day_7 rfl ?_
  refine F_cV2i (v_isOne (d := 5) _ _ (n := n) h23 (by omega)) dX5_day_8 rfl rfl (by decide) (by first | assumption | rfl) rfl rfl rfl (by decide) (Nat.le_of_ble_eq_true rfl) (by omega) ?_
  refine F_if_neB (tgt := 16) dX5_day_11 rfl (fun c11 => ?_) (fun c11 => ?_)
  · refine F_aload_n dX5_day_16 rfl ?_
    refine F_iload_n dX5_day_17 rfl ?_
    refine F_iload_n dX5_day_18 rfl ?_
    refine F_cV2v (hv) dX5_day_19 rfl rfl (by decide) (by first | assumption | rfl) rfl rfl rfl (by decide) (Nat.le_of_ble_eq_true rfl) (by omega) ?_
    refine F_iload_n dX5_day_22 rfl ?_
    refine F_tableIn (off := 45) (tgt := 68) dX5_day_23 (by decide) (by decide) (by decide +kernel) rfl ?_
    refine F_aload_n dX5_day_68 rfl ?_
    refine F_iload_n dX5_day_69 rfl ?_
    refine F_iload_n dX5_day_70 rfl ?_
    refine F_cV2i (v_kindOf (d := 9) (by omega) he) dX5_day_71 rfl rfl (by decide) (by first | assumption | rfl) rfl rfl rfl (by decide) (Nat.le_of_ble_eq_true rfl) (by omega) ?_
    refine F_iret dX5_day_74 rfl ?_
    refine Qv hQ ?_ rfl
    rw [h7]
    rfl
  · rw [show (up σ 116 0 (nI 0)) 117 23 = nI n from h23, grB_nI hg (by omega), dB_nI he] at c11
    cases c11

theorem b_day1 (hq : QR σ n c) {g e : Nat} (hg : g < n) (he : e < 70) : Ask G mX4_day [.ref 3, .int (nI g), .int (nI e), .int (nI 1)] (dayR (σ 117) g c e 1) σ := by
  have hn := hq.1.2.1
  have h23 := hq.1.1.2.2.1
  have hn6 := hq.1.1.1
  obtain ⟨τ, hv, hL, hC, far⟩ := q_follow (G := G) (d := 7) (a := 29) (N := e + 1) (Or.inl rfl) hq hg (by omega) (-1) (pred_s _ (by omega))
  have hh := sHl_le (pQ (σ 117) g c (-1)) (hq.1.1.s g c (-1)) e
  refine ⟨τ, mV_of fun Q hQ => ?_, q_frB (n := n) (c := c) (Or.inl rfl) hC far⟩
  refine F_aload_n dX4_day_0 rfl ?_
  refine F_getr dX4_day_1 rfl rfl (by first | assumption | rfl) rfl ?_
  refine F_iload_n dX4_day_4 rfl ?_
  refine F_cV1i (v_hasGroup (d := 11) isTold_4 _) dX4_day_5 rfl rfl (by decide) (by first | assumption | rfl) rfl rfl rfl (by decide) (Nat.le_of_ble_eq_true rfl) (by omega) ?_
  refine F_if_eqB (tgt := 18) dX4_day_8 rfl (fun c8 => ?_) (fun c8 => ?_)
  · have c8 : grB (σ 4 0) (nI g) = false := c8
    rw [hn, grB_nI hg (by omega)] at c8
    cases c8
  · refine F_iload_n dX4_day_11 rfl ?_
    refine F_cS1i (v_bIsDay (d := 11) _) dX4_day_12 rfl rfl rfl (by decide) (Nat.le_of_ble_eq_true rfl) (by omega) ?_
    refine F_if_neB (tgt := 20) dX4_day_15 rfl (fun c15 => ?_) (fun c15 => ?_)
    · refine F_aload_n dX4_day_20 rfl ?_
      refine F_getr dX4_day_21 rfl rfl (by first | assumption | rfl) rfl ?_
      refine F_aload_n dX4_day_24 rfl ?_
      refine F_getr dX4_day_25 rfl rfl (by first | assumption | rfl) rfl ?_
      refine F_iload_n dX4_day_28 rfl ?_
      refine F_iconst (v := (-1)) dX4_day_29 rfl ?_
      refine F_iload_n dX4_day_30 rfl ?_
      refine F_cV_riii_v (hv) dX4_day_31 rfl rfl (by decide) (by first | assumption | rfl) rfl rfl rfl (by decide) (Nat.le_of_ble_eq_true rfl) (by omega) ?_
      refine F_iload_n dX4_day_34 rfl ?_
      refine F_tableIn (off := 55) (tgt := 90) dX4_day_35 (by decide) (by decide) (by decide +kernel) rfl ?_
      refine F_aload_n dX4_day_90 rfl ?_
      refine F_getr dX4_day_91 rfl rfl (by first | assumption | rfl) rfl ?_
      refine F_getr dX4_day_94 rfl rfl (by first | assumption | rfl) rfl ?_
      refine F_iload_n dX4_day_97 rfl ?_
      refine F_ialdE (v := dayR (σ 117) g c e 1) dX4_day_98 (by first | assumption | rfl) (by decide) (by omega) (hL.1.2.2.2 e (by omega)).1 ?_
      refine F_iret dX4_day_99 rfl ?_
      exact hQ
    · rw [dB_nI he] at c15
      cases c15

theorem m_day1 (hq : QR σ n c) {g e : Nat} (hg : g < n) (he : e < 70) : Ask G mX5_day [.ref 116, .int (nI g), .int (nI e), .int (nI 1)] (dayR (σ 117) g c e 1) σ := by
  have hn := hq.1.2.1
  have h23 := hq.1.1.2.2.1
  have hn6 := hq.1.1.1
  have hq1 := (Fr.thrown hq (nI 0)).qr hq
  obtain ⟨τ, hv, hG, h7, hf⟩ := q_goesR (G := G) (d := 5) (to := e) hq1 hg (by omega)
  have hG : Gone τ (pQ (σ 117) g c (-1)) (e + 1) := hG
  refine ⟨τ, mV_of fun Q hQ => ?_, (Fr.thrown hq (nI 0)).trans hf⟩
  refine F_aload_n dX5_day_0 rfl ?_
  refine F_iconst (v := nI 0) dX5_day_1 rfl ?_
  refine F_put dX5_day_2 rfl rfl (by first | assumption | rfl) rfl rfl rfl rfl ?_
  refine F_aload_n dX5_day_5 rfl ?_
  refine F_iload_n dX5_day_6 rfl ?_
  refine F_iload_n dX5_day_7 rfl ?_
  refine F_cV2i (v_isOne (d := 5) _ _ (n := n) h23 (by omega)) dX5_day_8 rfl rfl (by decide) (by first | assumption | rfl) rfl rfl rfl (by decide) (Nat.le_of_ble_eq_true rfl) (by omega) ?_
  refine F_if_neB (tgt := 16) dX5_day_11 rfl (fun c11 => ?_) (fun c11 => ?_)
  · refine F_aload_n dX5_day_16 rfl ?_
    refine F_iload_n dX5_day_17 rfl ?_
    refine F_iload_n dX5_day_18 rfl ?_
    refine F_cV2v (hv) dX5_day_19 rfl rfl (by decide) (by first | assumption | rfl) rfl rfl rfl (by decide) (Nat.le_of_ble_eq_true rfl) (by omega) ?_
    refine F_iload_n dX5_day_22 rfl ?_
    refine F_tableIn (off := 52) (tgt := 75) dX5_day_23 (by decide) (by decide) (by decide +kernel) rfl ?_
    refine F_aload_n dX5_day_75 rfl ?_
    refine F_getr dX5_day_76 rfl rfl (by first | assumption | rfl) rfl ?_
    refine F_iload_n dX5_day_79 rfl ?_
    refine F_ialdE (v := dayR (σ 117) g c e 1) dX5_day_80 (by first | assumption | rfl) (by decide) (by omega) (hG.2 e (by omega)).1 ?_
    refine F_iret dX5_day_81 rfl ?_
    exact hQ
  · rw [show (up σ 116 0 (nI 0)) 117 23 = nI n from h23, grB_nI hg (by omega), dB_nI he] at c11
    cases c11

theorem b_day2 (hq : QR σ n c) {g e : Nat} (hg : g < n) (he : e < 70) : Ask G mX4_day [.ref 3, .int (nI g), .int (nI e), .int (nI 2)] (dayR (σ 117) g c e 2) σ := by
  have hn := hq.1.2.1
  have h23 := hq.1.1.2.2.1
  have hn6 := hq.1.1.1
  obtain ⟨τ, hv, hL, hC, far⟩ := q_follow (G := G) (d := 7) (a := 29) (N := e + 1) (Or.inl rfl) hq hg (by omega) (-1) (pred_s _ (by omega))
  have hh := sHl_le (pQ (σ 117) g c (-1)) (hq.1.1.s g c (-1)) e
  refine ⟨τ, mV_of fun Q hQ => ?_, q_frB (n := n) (c := c) (Or.inl rfl) hC far⟩
  refine F_aload_n dX4_day_0 rfl ?_
  refine F_getr dX4_day_1 rfl rfl (by first | assumption | rfl) rfl ?_
  refine F_iload_n dX4_day_4 rfl ?_
  refine F_cV1i (v_hasGroup (d := 11) isTold_4 _) dX4_day_5 rfl rfl (by decide) (by first | assumption | rfl) rfl rfl rfl (by decide) (Nat.le_of_ble_eq_true rfl) (by omega) ?_
  refine F_if_eqB (tgt := 18) dX4_day_8 rfl (fun c8 => ?_) (fun c8 => ?_)
  · have c8 : grB (σ 4 0) (nI g) = false := c8
    rw [hn, grB_nI hg (by omega)] at c8
    cases c8
  · refine F_iload_n dX4_day_11 rfl ?_
    refine F_cS1i (v_bIsDay (d := 11) _) dX4_day_12 rfl rfl rfl (by decide) (Nat.le_of_ble_eq_true rfl) (by omega) ?_
    refine F_if_neB (tgt := 20) dX4_day_15 rfl (fun c15 => ?_) (fun c15 => ?_)
    · refine F_aload_n dX4_day_20 rfl ?_
      refine F_getr dX4_day_21 rfl rfl (by first | assumption | rfl) rfl ?_
      refine F_aload_n dX4_day_24 rfl ?_
      refine F_getr dX4_day_25 rfl rfl (by first | assumption | rfl) rfl ?_
      refine F_iload_n dX4_day_28 rfl ?_
      refine F_iconst (v := (-1)) dX4_day_29 rfl ?_
      refine F_iload_n dX4_day_30 rfl ?_
      refine F_cV_riii_v (hv) dX4_day_31 rfl rfl (by decide) (by first | assumption | rfl) rfl rfl rfl (by decide) (Nat.le_of_ble_eq_true rfl) (by omega) ?_
      refine F_iload_n dX4_day_34 rfl ?_
      refine F_tableIn (off := 65) (tgt := 100) dX4_day_35 (by decide) (by decide) (by decide +kernel) rfl ?_
      refine F_aload_n dX4_day_100 rfl ?_
      refine F_getr dX4_day_101 rfl rfl (by first | assumption | rfl) rfl ?_
      refine F_getr dX4_day_104 rfl rfl (by first | assumption | rfl) rfl ?_
      refine F_iload_n dX4_day_107 rfl ?_
      refine F_iconst (v := nI 1) dX4_day_108 rfl ?_
      refine F_iaddN dX4_day_109 ?_
      refine F_ialdE (v := dayR (σ 117) g c e 2) dX4_day_110 (by first | assumption | rfl) (by decide) (by omega) (hL.1.2.2.1 (e + 1) (by omega)).1 ?_
      refine F_iret dX4_day_111 rfl ?_
      exact hQ
    · rw [dB_nI he] at c15
      cases c15

theorem m_day2 (hq : QR σ n c) {g e : Nat} (hg : g < n) (he : e < 70) : Ask G mX5_day [.ref 116, .int (nI g), .int (nI e), .int (nI 2)] (dayR (σ 117) g c e 2) σ := by
  have hn := hq.1.2.1
  have h23 := hq.1.1.2.2.1
  have hn6 := hq.1.1.1
  have hq1 := (Fr.thrown hq (nI 0)).qr hq
  obtain ⟨τ, hv, hG, h7, hf⟩ := q_goesR (G := G) (d := 5) (to := e) hq1 hg (by omega)
  have hG : Gone τ (pQ (σ 117) g c (-1)) (e + 1) := hG
  refine ⟨τ, mV_of fun Q hQ => ?_, (Fr.thrown hq (nI 0)).trans hf⟩
  refine F_aload_n dX5_day_0 rfl ?_
  refine F_iconst (v := nI 0) dX5_day_1 rfl ?_
  refine F_put dX5_day_2 rfl rfl (by first | assumption | rfl) rfl rfl rfl rfl ?_
  refine F_aload_n dX5_day_5 rfl ?_
  refine F_iload_n dX5_day_6 rfl ?_
  refine F_iload_n dX5_day_7 rfl ?_
  refine F_cV2i (v_isOne (d := 5) _ _ (n := n) h23 (by omega)) dX5_day_8 rfl rfl (by decide) (by first | assumption | rfl) rfl rfl rfl (by decide) (Nat.le_of_ble_eq_true rfl) (by omega) ?_
  refine F_if_neB (tgt := 16) dX5_day_11 rfl (fun c11 => ?_) (fun c11 => ?_)
  · refine F_aload_n dX5_day_16 rfl ?_
    refine F_iload_n dX5_day_17 rfl ?_
    refine F_iload_n dX5_day_18 rfl ?_
    refine F_cV2v (hv) dX5_day_19 rfl rfl (by decide) (by first | assumption | rfl) rfl rfl rfl (by decide) (Nat.le_of_ble_eq_true rfl) (by omega) ?_
    refine F_iload_n dX5_day_22 rfl ?_
    refine F_tableIn (off := 59) (tgt := 82) dX5_day_23 (by decide) (by decide) (by decide +kernel) rfl ?_
    refine F_aload_n dX5_day_82 rfl ?_
    refine F_getr dX5_day_83 rfl rfl (by first | assumption | rfl) rfl ?_
    refine F_iload_n dX5_day_86 rfl ?_
    refine F_ialdE (v := dayR (σ 117) g c e 2) dX5_day_87 (by first | assumption | rfl) (by decide) (by omega) (hG.2 e (by omega)).2.1 ?_
    refine F_iret dX5_day_88 rfl ?_
    exact hQ
  · rw [show (up σ 116 0 (nI 0)) 117 23 = nI n from h23, grB_nI hg (by omega), dB_nI he] at c11
    cases c11

theorem b_day3 (hq : QR σ n c) {g e : Nat} (hg : g < n) (he : e < 70) : Ask G mX4_day [.ref 3, .int (nI g), .int (nI e), .int (nI 3)] (dayR (σ 117) g c e 3) σ := by
  have hn := hq.1.2.1
  have h23 := hq.1.1.2.2.1
  have hn6 := hq.1.1.1
  obtain ⟨τ, hv, hL, hC, far⟩ := q_follow (G := G) (d := 7) (a := 29) (N := e + 1) (Or.inl rfl) hq hg (by omega) (-1) (pred_s _ (by omega))
  have hh := sHl_le (pQ (σ 117) g c (-1)) (hq.1.1.s g c (-1)) e
  refine ⟨τ, mV_of fun Q hQ => ?_, q_frB (n := n) (c := c) (Or.inl rfl) hC far⟩
  refine F_aload_n dX4_day_0 rfl ?_
  refine F_getr dX4_day_1 rfl rfl (by first | assumption | rfl) rfl ?_
  refine F_iload_n dX4_day_4 rfl ?_
  refine F_cV1i (v_hasGroup (d := 11) isTold_4 _) dX4_day_5 rfl rfl (by decide) (by first | assumption | rfl) rfl rfl rfl (by decide) (Nat.le_of_ble_eq_true rfl) (by omega) ?_
  refine F_if_eqB (tgt := 18) dX4_day_8 rfl (fun c8 => ?_) (fun c8 => ?_)
  · have c8 : grB (σ 4 0) (nI g) = false := c8
    rw [hn, grB_nI hg (by omega)] at c8
    cases c8
  · refine F_iload_n dX4_day_11 rfl ?_
    refine F_cS1i (v_bIsDay (d := 11) _) dX4_day_12 rfl rfl rfl (by decide) (Nat.le_of_ble_eq_true rfl) (by omega) ?_
    refine F_if_neB (tgt := 20) dX4_day_15 rfl (fun c15 => ?_) (fun c15 => ?_)
    · refine F_aload_n dX4_day_20 rfl ?_
      refine F_getr dX4_day_21 rfl rfl (by first | assumption | rfl) rfl ?_
      refine F_aload_n dX4_day_24 rfl ?_
      refine F_getr dX4_day_25 rfl rfl (by first | assumption | rfl) rfl ?_
      refine F_iload_n dX4_day_28 rfl ?_
      refine F_iconst (v := (-1)) dX4_day_29 rfl ?_
      refine F_iload_n dX4_day_30 rfl ?_
      refine F_cV_riii_v (hv) dX4_day_31 rfl rfl (by decide) (by first | assumption | rfl) rfl rfl rfl (by decide) (Nat.le_of_ble_eq_true rfl) (by omega) ?_
      refine F_iload_n dX4_day_34 rfl ?_
      refine F_tableIn (off := 77) (tgt := 112) dX4_day_35 (by decide) (by decide) (by decide +kernel) rfl ?_
      refine F_aload_n dX4_day_112 rfl ?_
      refine F_getr dX4_day_113 rfl rfl (by first | assumption | rfl) rfl ?_
      refine F_getr dX4_day_116 rfl rfl (by first | assumption | rfl) rfl ?_
      refine F_iload_n dX4_day_119 rfl ?_
      refine F_iconst (v := nI 1) dX4_day_120 rfl ?_
      refine F_iaddN dX4_day_121 ?_
      refine F_ialdE (v := dayR (σ 117) g c e 3) dX4_day_122 (by first | assumption | rfl) (by decide) (by omega) (hL.1.2.2.1 (e + 1) (by omega)).2.1 ?_
      refine F_iret dX4_day_123 rfl ?_
      exact hQ
    · rw [dB_nI he] at c15
      cases c15

theorem m_day3 (hq : QR σ n c) {g e : Nat} (hg : g < n) (he : e < 70) : Ask G mX5_day [.ref 116, .int (nI g), .int (nI e), .int (nI 3)] (dayR (σ 117) g c e 3) σ := by
  have hn := hq.1.2.1
  have h23 := hq.1.1.2.2.1
  have hn6 := hq.1.1.1
  have hq1 := (Fr.thrown hq (nI 0)).qr hq
  obtain ⟨τ, hv, hG, h7, hf⟩ := q_goesR (G := G) (d := 5) (to := e) hq1 hg (by omega)
  have hG : Gone τ (pQ (σ 117) g c (-1)) (e + 1) := hG
  refine ⟨τ, mV_of fun Q hQ => ?_, (Fr.thrown hq (nI 0)).trans hf⟩
  refine F_aload_n dX5_day_0 rfl ?_
  refine F_iconst (v := nI 0) dX5_day_1 rfl ?_
  refine F_put dX5_day_2 rfl rfl (by first | assumption | rfl) rfl rfl rfl rfl ?_
  refine F_aload_n dX5_day_5 rfl ?_
  refine F_iload_n dX5_day_6 rfl ?_
  refine F_iload_n dX5_day_7 rfl ?_
  refine F_cV2i (v_isOne (d := 5) _ _ (n := n) h23 (by omega)) dX5_day_8 rfl rfl (by decide) (by first | assumption | rfl) rfl rfl rfl (by decide) (Nat.le_of_ble_eq_true rfl) (by omega) ?_
  refine F_if_neB (tgt := 16) dX5_day_11 rfl (fun c11 => ?_) (fun c11 => ?_)
  · refine F_aload_n dX5_day_16 rfl ?_
    refine F_iload_n dX5_day_17 rfl ?_
    refine F_iload_n dX5_day_18 rfl ?_
    refine F_cV2v (hv) dX5_day_19 rfl rfl (by decide) (by first | assumption | rfl) rfl rfl rfl (by decide) (Nat.le_of_ble_eq_true rfl) (by omega) ?_
    refine F_iload_n dX5_day_22 rfl ?_
    refine F_tableIn (off := 66) (tgt := 89) dX5_day_23 (by decide) (by decide) (by decide +kernel) rfl ?_
    refine F_aload_n dX5_day_89 rfl ?_
    refine F_getr dX5_day_90 rfl rfl (by first | assumption | rfl) rfl ?_
    refine F_iload_n dX5_day_93 rfl ?_
    refine F_ialdE (v := dayR (σ 117) g c e 3) dX5_day_94 (by first | assumption | rfl) (by decide) (by omega) (hG.2 e (by omega)).2.2.1 ?_
    refine F_iret dX5_day_95 rfl ?_
    exact hQ
  · rw [show (up σ 116 0 (nI 0)) 117 23 = nI n from h23, grB_nI hg (by omega), dB_nI he] at c11
    cases c11

theorem b_day4 (hq : QR σ n c) {g e : Nat} (hg : g < n) (he : e < 70) : Ask G mX4_day [.ref 3, .int (nI g), .int (nI e), .int (nI 4)] (dayR (σ 117) g c e 4) σ := by
  have hn := hq.1.2.1
  have h23 := hq.1.1.2.2.1
  have hn6 := hq.1.1.1
  obtain ⟨τ, hv, hL, hC, far⟩ := q_follow (G := G) (d := 7) (a := 29) (N := e + 1) (Or.inl rfl) hq hg (by omega) (-1) (pred_s _ (by omega))
  have hh := sHl_le (pQ (σ 117) g c (-1)) (hq.1.1.s g c (-1)) e
  refine ⟨τ, mV_of fun Q hQ => ?_, q_frB (n := n) (c := c) (Or.inl rfl) hC far⟩
  refine F_aload_n dX4_day_0 rfl ?_
  refine F_getr dX4_day_1 rfl rfl (by first | assumption | rfl) rfl ?_
  refine F_iload_n dX4_day_4 rfl ?_
  refine F_cV1i (v_hasGroup (d := 11) isTold_4 _) dX4_day_5 rfl rfl (by decide) (by first | assumption | rfl) rfl rfl rfl (by decide) (Nat.le_of_ble_eq_true rfl) (by omega) ?_
  refine F_if_eqB (tgt := 18) dX4_day_8 rfl (fun c8 => ?_) (fun c8 => ?_)
  · have c8 : grB (σ 4 0) (nI g) = false := c8
    rw [hn, grB_nI hg (by omega)] at c8
    cases c8
  · refine F_iload_n dX4_day_11 rfl ?_
    refine F_cS1i (v_bIsDay (d := 11) _) dX4_day_12 rfl rfl rfl (by decide) (Nat.le_of_ble_eq_true rfl) (by omega) ?_
    refine F_if_neB (tgt := 20) dX4_day_15 rfl (fun c15 => ?_) (fun c15 => ?_)
    · refine F_aload_n dX4_day_20 rfl ?_
      refine F_getr dX4_day_21 rfl rfl (by first | assumption | rfl) rfl ?_
      refine F_aload_n dX4_day_24 rfl ?_
      refine F_getr dX4_day_25 rfl rfl (by first | assumption | rfl) rfl ?_
      refine F_iload_n dX4_day_28 rfl ?_
      refine F_iconst (v := (-1)) dX4_day_29 rfl ?_
      refine F_iload_n dX4_day_30 rfl ?_
      refine F_cV_riii_v (hv) dX4_day_31 rfl rfl (by decide) (by first | assumption | rfl) rfl rfl rfl (by decide) (Nat.le_of_ble_eq_true rfl) (by omega) ?_
      refine F_iload_n dX4_day_34 rfl ?_
      refine F_tableIn (off := 89) (tgt := 124) dX4_day_35 (by decide) (by decide) (by decide +kernel) rfl ?_
      refine F_aload_n dX4_day_124 rfl ?_
      refine F_getr dX4_day_125 rfl rfl (by first | assumption | rfl) rfl ?_
      refine F_iload_n dX4_day_128 rfl ?_
      refine F_cV1i (v_isHurt (d := 9) isCourse_29 he (h := sHl (pQ (σ 117) g c (-1)) e) (hL.1.2.2.1 e (by omega)).2.2.2 (by omega)) dX4_day_129 rfl rfl (by decide) (by first | assumption | rfl) rfl rfl rfl (by decide) (Nat.le_of_ble_eq_true rfl) (by omega) ?_
      refine F_if_eqB (tgt := 139) dX4_day_132 rfl (fun c132 => ?_) (fun c132 => ?_)
      · refine F_iconst (v := nI 0) dX4_day_139 rfl ?_
        refine F_iret dX4_day_140 rfl ?_
        first | exact Qb1 hQ c132 | exact Qb0 hQ c132
      · refine F_iconst (v := nI 1) dX4_day_135 rfl ?_
        refine F_goto (tgt := 140) dX4_day_136 rfl ?_
        refine F_iret dX4_day_140 rfl ?_
        first | exact Qb1 hQ c132 | exact Qb0 hQ c132
    · rw [dB_nI he] at c15
      cases c15

theorem m_day4 (hq : QR σ n c) {g e : Nat} (hg : g < n) (he : e < 70) : Ask G mX5_day [.ref 116, .int (nI g), .int (nI e), .int (nI 4)] (dayR (σ 117) g c e 4) σ := by
  have hn := hq.1.2.1
  have h23 := hq.1.1.2.2.1
  have hn6 := hq.1.1.1
  have hq1 := (Fr.thrown hq (nI 0)).qr hq
  obtain ⟨τ, hv, hG, h7, hf⟩ := q_goesR (G := G) (d := 5) (to := e) hq1 hg (by omega)
  have hG : Gone τ (pQ (σ 117) g c (-1)) (e + 1) := hG
  refine ⟨τ, mV_of fun Q hQ => ?_, (Fr.thrown hq (nI 0)).trans hf⟩
  refine F_aload_n dX5_day_0 rfl ?_
  refine F_iconst (v := nI 0) dX5_day_1 rfl ?_
  refine F_put dX5_day_2 rfl rfl (by first | assumption | rfl) rfl rfl rfl rfl ?_
  refine F_aload_n dX5_day_5 rfl ?_
  refine F_iload_n dX5_day_6 rfl ?_
  refine F_iload_n dX5_day_7 rfl ?_
  refine F_cV2i (v_isOne (d := 5) _ _ (n := n) h23 (by omega)) dX5_day_8 rfl rfl (by decide) (by first | assumption | rfl) rfl rfl rfl (by decide) (Nat.le_of_ble_eq_true rfl) (by omega) ?_
  refine F_if_neB (tgt := 16) dX5_day_11 rfl (fun c11 => ?_) (fun c11 => ?_)
  · refine F_aload_n dX5_day_16 rfl ?_
    refine F_iload_n dX5_day_17 rfl ?_
    refine F_iload_n dX5_day_18 rfl ?_
    refine F_cV2v (hv) dX5_day_19 rfl rfl (by decide) (by first | assumption | rfl) rfl rfl rfl (by decide) (Nat.le_of_ble_eq_true rfl) (by omega) ?_
    refine F_iload_n dX5_day_22 rfl ?_
    refine F_tableIn (off := 73) (tgt := 96) dX5_day_23 (by decide) (by decide) (by decide +kernel) rfl ?_
    refine F_aload_n dX5_day_96 rfl ?_
    refine F_getr dX5_day_97 rfl rfl (by first | assumption | rfl) rfl ?_
    refine F_iload_n dX5_day_100 rfl ?_
    refine F_zaldE (v := bI (decide (e < sHl (pQ (σ 117) g c (-1)) e))) dX5_day_101 (by first | assumption | rfl) (by decide) (by omega) (hG.2 e (by omega)).2.2.2.1 ?_
    refine F_if_eqB (tgt := 109) dX5_day_102 rfl (fun c102 => ?_) (fun c102 => ?_)
    · refine F_iconst (v := nI 0) dX5_day_109 rfl ?_
      refine F_iret dX5_day_110 rfl ?_
      first | exact Qb1 hQ c102 | exact Qb0 hQ c102
    · refine F_iconst (v := nI 1) dX5_day_105 rfl ?_
      refine F_goto (tgt := 110) dX5_day_106 rfl ?_
      refine F_iret dX5_day_110 rfl ?_
      first | exact Qb1 hQ c102 | exact Qb0 hQ c102
  · rw [show (up σ 116 0 (nI 0)) 117 23 = nI n from h23, grB_nI hg (by omega), dB_nI he] at c11
    cases c11

theorem b_day5 (hq : QR σ n c) {g e : Nat} (hg : g < n) (he : e < 70) : Ask G mX4_day [.ref 3, .int (nI g), .int (nI e), .int (nI 5)] (dayR (σ 117) g c e 5) σ := by
  have hn := hq.1.2.1
  have h23 := hq.1.1.2.2.1
  have hn6 := hq.1.1.1
  obtain ⟨τ, hv, hL, hC, far⟩ := q_follow (G := G) (d := 7) (a := 29) (N := e + 1) (Or.inl rfl) hq hg (by omega) (-1) (pred_s _ (by omega))
  have hh := sHl_le (pQ (σ 117) g c (-1)) (hq.1.1.s g c (-1)) e
  refine ⟨τ, mV_of fun Q hQ => ?_, q_frB (n := n) (c := c) (Or.inl rfl) hC far⟩
  refine F_aload_n dX4_day_0 rfl ?_
  refine F_getr dX4_day_1 rfl rfl (by first | assumption | rfl) rfl ?_
  refine F_iload_n dX4_day_4 rfl ?_
  refine F_cV1i (v_hasGroup (d := 11) isTold_4 _) dX4_day_5 rfl rfl (by decide) (by first | assumption | rfl) rfl rfl rfl (by decide) (Nat.le_of_ble_eq_true rfl) (by omega) ?_
  refine F_if_eqB (tgt := 18) dX4_day_8 rfl (fun c8 => ?_) (fun c8 => ?_)
  · have c8 : grB (σ 4 0) (nI g) = false := c8
    rw [hn, grB_nI hg (by omega)] at c8
    cases c8
  · refine F_iload_n dX4_day_11 rfl ?_
    refine F_cS1i (v_bIsDay (d := 11) _) dX4_day_12 rfl rfl rfl (by decide) (Nat.le_of_ble_eq_true rfl) (by omega) ?_
    refine F_if_neB (tgt := 20) dX4_day_15 rfl (fun c15 => ?_) (fun c15 => ?_)
    · refine F_aload_n dX4_day_20 rfl ?_
      refine F_getr dX4_day_21 rfl rfl (by first | assumption | rfl) rfl ?_
      refine F_aload_n dX4_day_24 rfl ?_
      refine F_getr dX4_day_25 rfl rfl (by first | assumption | rfl) rfl ?_
      refine F_iload_n dX4_day_28 rfl ?_
      refine F_iconst (v := (-1)) dX4_day_29 rfl ?_
      refine F_iload_n dX4_day_30 rfl ?_
      refine F_cV_riii_v (hv) dX4_day_31 rfl rfl (by decide) (by first | assumption | rfl) rfl rfl rfl (by decide) (Nat.le_of_ble_eq_true rfl) (by omega) ?_
      refine F_iload_n dX4_day_34 rfl ?_
      refine F_tableIn (off := 106) (tgt := 141) dX4_day_35 (by decide) (by decide) (by decide +kernel) rfl ?_
      refine F_aload_n dX4_day_141 rfl ?_
      refine F_getr dX4_day_142 rfl rfl (by first | assumption | rfl) rfl ?_
      refine F_getr dX4_day_145 rfl rfl (by first | assumption | rfl) rfl ?_
      refine F_iload_n dX4_day_148 rfl ?_
      refine F_zaldE (v := bI (sInj (pQ (σ 117) g c (-1)) e)) dX4_day_149 (by first | assumption | rfl) (by decide) (by omega) (hL.1.2.2.2 e (by omega)).2 ?_
      refine F_if_eqB (tgt := 157) dX4_day_150 rfl (fun c150 => ?_) (fun c150 => ?_)
      · refine F_iconst (v := nI 0) dX4_day_157 rfl ?_
        refine F_iret dX4_day_158 rfl ?_
        first | exact Qb1 hQ c150 | exact Qb0 hQ c150
      · refine F_iconst (v := nI 1) dX4_day_153 rfl ?_
        refine F_goto (tgt := 158) dX4_day_154 rfl ?_
        refine F_iret dX4_day_158 rfl ?_
        first | exact Qb1 hQ c150 | exact Qb0 hQ c150
    · rw [dB_nI he] at c15
      cases c15

theorem m_day5 (hq : QR σ n c) {g e : Nat} (hg : g < n) (he : e < 70) : Ask G mX5_day [.ref 116, .int (nI g), .int (nI e), .int (nI 5)] (dayR (σ 117) g c e 5) σ := by
  have hn := hq.1.2.1
  have h23 := hq.1.1.2.2.1
  have hn6 := hq.1.1.1
  have hq1 := (Fr.thrown hq (nI 0)).qr hq
  obtain ⟨τ, hv, hG, h7, hf⟩ := q_goesR (G := G) (d := 5) (to := e) hq1 hg (by omega)
  have hG : Gone τ (pQ (σ 117) g c (-1)) (e + 1) := hG
  refine ⟨τ, mV_of fun Q hQ => ?_, (Fr.thrown hq (nI 0)).trans hf⟩
  refine F_aload_n dX5_day_0 rfl ?_
  refine F_iconst (v := nI 0) dX5_day_1 rfl ?_
  refine F_put dX5_day_2 rfl rfl (by first | assumption | rfl) rfl rfl rfl rfl ?_
  refine F_aload_n dX5_day_5 rfl ?_
  refine F_iload_n dX5_day_6 rfl ?_
  refine F_iload_n dX5_day_7 rfl ?_
  refine F_cV2i (v_isOne (d := 5) _ _ (n := n) h23 (by omega)) dX5_day_8 rfl rfl (by decide) (by first | assumption | rfl) rfl rfl rfl (by decide) (Nat.le_of_ble_eq_true rfl) (by omega) ?_
  refine F_if_neB (tgt := 16) dX5_day_11 rfl (fun c11 => ?_) (fun c11 => ?_)
  · refine F_aload_n dX5_day_16 rfl ?_
    refine F_iload_n dX5_day_17 rfl ?_
    refine F_iload_n dX5_day_18 rfl ?_
    refine F_cV2v (hv) dX5_day_19 rfl rfl (by decide) (by first | assumption | rfl) rfl rfl rfl (by decide) (Nat.le_of_ble_eq_true rfl) (by omega) ?_
    refine F_iload_n dX5_day_22 rfl ?_
    refine F_tableIn (off := 88) (tgt := 111) dX5_day_23 (by decide) (by decide) (by decide +kernel) rfl ?_
    refine F_aload_n dX5_day_111 rfl ?_
    refine F_getr dX5_day_112 rfl rfl (by first | assumption | rfl) rfl ?_
    refine F_iload_n dX5_day_115 rfl ?_
    refine F_zaldE (v := bI (sInj (pQ (σ 117) g c (-1)) e)) dX5_day_116 (by first | assumption | rfl) (by decide) (by omega) (hG.2 e (by omega)).2.2.2.2 ?_
    refine F_if_eqB (tgt := 124) dX5_day_117 rfl (fun c117 => ?_) (fun c117 => ?_)
    · refine F_iconst (v := nI 0) dX5_day_124 rfl ?_
      refine F_iret dX5_day_125 rfl ?_
      first | exact Qb1 hQ c117 | exact Qb0 hQ c117
    · refine F_iconst (v := nI 1) dX5_day_120 rfl ?_
      refine F_goto (tgt := 125) dX5_day_121 rfl ?_
      refine F_iret dX5_day_125 rfl ?_
      first | exact Qb1 hQ c117 | exact Qb0 hQ c117
  · rw [show (up σ 116 0 (nI 0)) 117 23 = nI n from h23, grB_nI hg (by omega), dB_nI he] at c11
    cases c11

theorem b_day6 (hq : QR σ n c) {g e : Nat} (hg : g < n) (he : e < 70) : Ask G mX4_day [.ref 3, .int (nI g), .int (nI e), .int (nI 6)] (dayR (σ 117) g c e 6) σ := by
  have hn := hq.1.2.1
  have h23 := hq.1.1.2.2.1
  have hn6 := hq.1.1.1
  obtain ⟨τ, hv, hL, hC, far⟩ := q_follow (G := G) (d := 7) (a := 29) (N := e + 1) (Or.inl rfl) hq hg (by omega) (-1) (pred_s _ (by omega))
  have hh := sHl_le (pQ (σ 117) g c (-1)) (hq.1.1.s g c (-1)) e
  refine ⟨τ, mV_of fun Q hQ => ?_, q_frB (n := n) (c := c) (Or.inl rfl) hC far⟩
  refine F_aload_n dX4_day_0 rfl ?_
  refine F_getr dX4_day_1 rfl rfl (by first | assumption | rfl) rfl ?_
  refine F_iload_n dX4_day_4 rfl ?_
  refine F_cV1i (v_hasGroup (d := 11) isTold_4 _) dX4_day_5 rfl rfl (by decide) (by first | assumption | rfl) rfl rfl rfl (by decide) (Nat.le_of_ble_eq_true rfl) (by omega) ?_
  refine F_if_eqB (tgt := 18) dX4_day_8 rfl (fun c8 => ?_) (fun c8 => ?_)
  · have c8 : grB (σ 4 0) (nI g) = false := c8
    rw [hn, grB_nI hg (by omega)] at c8
    cases c8
  · refine F_iload_n dX4_day_11 rfl ?_
    refine F_cS1i (v_bIsDay (d := 11) _) dX4_day_12 rfl rfl rfl (by decide) (Nat.le_of_ble_eq_true rfl) (by omega) ?_
    refine F_if_neB (tgt := 20) dX4_day_15 rfl (fun c15 => ?_) (fun c15 => ?_)
    · refine F_aload_n dX4_day_20 rfl ?_
      refine F_getr dX4_day_21 rfl rfl (by first | assumption | rfl) rfl ?_
      refine F_aload_n dX4_day_24 rfl ?_
      refine F_getr dX4_day_25 rfl rfl (by first | assumption | rfl) rfl ?_
      refine F_iload_n dX4_day_28 rfl ?_
      refine F_iconst (v := (-1)) dX4_day_29 rfl ?_
      refine F_iload_n dX4_day_30 rfl ?_
      refine F_cV_riii_v (hv) dX4_day_31 rfl rfl (by decide) (by first | assumption | rfl) rfl rfl rfl (by decide) (Nat.le_of_ble_eq_true rfl) (by omega) ?_
      refine F_iload_n dX4_day_34 rfl ?_
      refine F_tableIn (off := 124) (tgt := 159) dX4_day_35 (by decide) (by decide) (by decide +kernel) rfl ?_
      refine F_aload_n dX4_day_159 rfl ?_
      refine F_getr dX4_day_160 rfl rfl (by first | assumption | rfl) rfl ?_
      refine F_iload_n dX4_day_163 rfl ?_
      refine F_cV1i (v_acute (d := 9) isCourse_29 he) dX4_day_164 rfl rfl (by decide) (by first | assumption | rfl) rfl rfl rfl (by decide) (Nat.le_of_ble_eq_true rfl) (by omega) ?_
      refine F_iret dX4_day_167 rfl ?_
      refine Qv hQ ?_ rfl
      show some (Value.int (τ (29 + 8) (e + 1) - τ (29 + 8) (e + 1 - 7))) = _
      rw [(hL.1.2.2.1 (e + 1) (by omega)).2.2.1, (hL.1.2.2.1 (e + 1 - 7) (by omega)).2.2.1]
      rfl
    · rw [dB_nI he] at c15
      cases c15

theorem m_day6 (hq : QR σ n c) {g e : Nat} (hg : g < n) (he : e < 70) : Ask G mX5_day [.ref 116, .int (nI g), .int (nI e), .int (nI 6)] (dayR (σ 117) g c e 6) σ := by
  have hn := hq.1.2.1
  have h23 := hq.1.1.2.2.1
  have hn6 := hq.1.1.1
  have hq1 := (Fr.thrown hq (nI 0)).qr hq
  obtain ⟨τ, hv, hG, h7, hf⟩ := q_goesR (G := G) (d := 5) (to := e) hq1 hg (by omega)
  have hG : Gone τ (pQ (σ 117) g c (-1)) (e + 1) := hG
  refine ⟨τ, mV_of fun Q hQ => ?_, (Fr.thrown hq (nI 0)).trans hf⟩
  refine F_aload_n dX5_day_0 rfl ?_
  refine F_iconst (v := nI 0) dX5_day_1 rfl ?_
  refine F_put dX5_day_2 rfl rfl (by first | assumption | rfl) rfl rfl rfl rfl ?_
  refine F_aload_n dX5_day_5 rfl ?_
  refine F_iload_n dX5_day_6 rfl ?_
  refine F_iload_n dX5_day_7 rfl ?_
  refine F_cV2i (v_isOne (d := 5) _ _ (n := n) h23 (by omega)) dX5_day_8 rfl rfl (by decide) (by first | assumption | rfl) rfl rfl rfl (by decide) (Nat.le_of_ble_eq_true rfl) (by omega) ?_
  refine F_if_neB (tgt := 16) dX5_day_11 rfl (fun c11 => ?_) (fun c11 => ?_)
  · refine F_aload_n dX5_day_16 rfl ?_
    refine F_iload_n dX5_day_17 rfl ?_
    refine F_iload_n dX5_day_18 rfl ?_
    refine F_cV2v (hv) dX5_day_19 rfl rfl (by decide) (by first | assumption | rfl) rfl rfl rfl (by decide) (Nat.le_of_ble_eq_true rfl) (by omega) ?_
    refine F_iload_n dX5_day_22 rfl ?_
    refine F_tableIn (off := 103) (tgt := 126) dX5_day_23 (by decide) (by decide) (by decide +kernel) rfl ?_
    refine F_aload_n dX5_day_126 rfl ?_
    refine F_iload_n dX5_day_127 rfl ?_
    refine F_cV1i (v_macute (d := 9) he) dX5_day_128 rfl rfl (by decide) (by first | assumption | rfl) rfl rfl rfl (by decide) (Nat.le_of_ble_eq_true rfl) (by omega) ?_
    refine F_iret dX5_day_131 rfl ?_
    refine Qv hQ ?_ rfl
    show some (Value.int (τ 127 (e + 1) - τ 127 (e + 1 - 7))) = _
    rw [hG.1 (e + 1) (by omega), hG.1 (e + 1 - 7) (by omega)]
    rfl
  · rw [show (up σ 116 0 (nI 0)) 117 23 = nI n from h23, grB_nI hg (by omega), dB_nI he] at c11
    cases c11

theorem b_day7 (hq : QR σ n c) {g e : Nat} (hg : g < n) (he : e < 70) : Ask G mX4_day [.ref 3, .int (nI g), .int (nI e), .int (nI 7)] (dayR (σ 117) g c e 7) σ := by
  have hn := hq.1.2.1
  have h23 := hq.1.1.2.2.1
  have hn6 := hq.1.1.1
  obtain ⟨τ, hv, hL, hC, far⟩ := q_follow (G := G) (d := 7) (a := 29) (N := e + 1) (Or.inl rfl) hq hg (by omega) (-1) (pred_s _ (by omega))
  have hh := sHl_le (pQ (σ 117) g c (-1)) (hq.1.1.s g c (-1)) e
  refine ⟨τ, mV_of fun Q hQ => ?_, q_frB (n := n) (c := c) (Or.inl rfl) hC far⟩
  refine F_aload_n dX4_day_0 rfl ?_
  refine F_getr dX4_day_1 rfl rfl (by first | assumption | rfl) rfl ?_
  refine F_iload_n dX4_day_4 rfl ?_
  refine F_cV1i (v_hasGroup (d := 11) isTold_4 _) dX4_day_5 rfl rfl (by decide) (by first | assumption | rfl) rfl rfl rfl (by decide) (Nat.le_of_ble_eq_true rfl) (by omega) ?_
  refine F_if_eqB (tgt := 18) dX4_day_8 rfl (fun c8 => ?_) (fun c8 => ?_)
  · have c8 : grB (σ 4 0) (nI g) = false := c8
    rw [hn, grB_nI hg (by omega)] at c8
    cases c8
  · refine F_iload_n dX4_day_11 rfl ?_
    refine F_cS1i (v_bIsDay (d := 11) _) dX4_day_12 rfl rfl rfl (by decide) (Nat.le_of_ble_eq_true rfl) (by omega) ?_
    refine F_if_neB (tgt := 20) dX4_day_15 rfl (fun c15 => ?_) (fun c15 => ?_)
    · refine F_aload_n dX4_day_20 rfl ?_
      refine F_getr dX4_day_21 rfl rfl (by first | assumption | rfl) rfl ?_
      refine F_aload_n dX4_day_24 rfl ?_
      refine F_getr dX4_day_25 rfl rfl (by first | assumption | rfl) rfl ?_
      refine F_iload_n dX4_day_28 rfl ?_
      refine F_iconst (v := (-1)) dX4_day_29 rfl ?_
      refine F_iload_n dX4_day_30 rfl ?_
      refine F_cV_riii_v (hv) dX4_day_31 rfl rfl (by decide) (by first | assumption | rfl) rfl rfl rfl (by decide) (Nat.le_of_ble_eq_true rfl) (by omega) ?_
      refine F_iload_n dX4_day_34 rfl ?_
      refine F_tableIn (off := 133) (tgt := 168) dX4_day_35 (by decide) (by decide) (by decide +kernel) rfl ?_
      refine F_aload_n dX4_day_168 rfl ?_
      refine F_getr dX4_day_169 rfl rfl (by first | assumption | rfl) rfl ?_
      refine F_iload_n dX4_day_172 rfl ?_
      refine F_cV1i (v_chronic (d := 9) isCourse_29 he) dX4_day_173 rfl rfl (by decide) (by first | assumption | rfl) rfl rfl rfl (by decide) (Nat.le_of_ble_eq_true rfl) (by omega) ?_
      refine F_iret dX4_day_176 rfl ?_
      refine Qv hQ ?_ rfl
      show some (Value.int (τ (29 + 8) (e + 1) - τ (29 + 8) (e + 1 - 28))) = _
      rw [(hL.1.2.2.1 (e + 1) (by omega)).2.2.1, (hL.1.2.2.1 (e + 1 - 28) (by omega)).2.2.1]
      rfl
    · rw [dB_nI he] at c15
      cases c15

theorem m_day7 (hq : QR σ n c) {g e : Nat} (hg : g < n) (he : e < 70) : Ask G mX5_day [.ref 116, .int (nI g), .int (nI e), .int (nI 7)] (dayR (σ 117) g c e 7) σ := by
  have hn := hq.1.2.1
  have h23 := hq.1.1.2.2.1
  have hn6 := hq.1.1.1
  have hq1 := (Fr.thrown hq (nI 0)).qr hq
  obtain ⟨τ, hv, hG, h7, hf⟩ := q_goesR (G := G) (d := 5) (to := e) hq1 hg (by omega)
  have hG : Gone τ (pQ (σ 117) g c (-1)) (e + 1) := hG
  refine ⟨τ, mV_of fun Q hQ => ?_, (Fr.thrown hq (nI 0)).trans hf⟩
  refine F_aload_n dX5_day_0 rfl ?_
  refine F_iconst (v := nI 0) dX5_day_1 rfl ?_
  refine F_put dX5_day_2 rfl rfl (by first | assumption | rfl) rfl rfl rfl rfl ?_
  refine F_aload_n dX5_day_5 rfl ?_
  refine F_iload_n dX5_day_6 rfl ?_
  refine F_iload_n dX5_day_7 rfl ?_
  refine F_cV2i (v_isOne (d := 5) _ _ (n := n) h23 (by omega)) dX5_day_8 rfl rfl (by decide) (by first | assumption | rfl) rfl rfl rfl (by decide) (Nat.le_of_ble_eq_true rfl) (by omega) ?_
  refine F_if_neB (tgt := 16) dX5_day_11 rfl (fun c11 => ?_) (fun c11 => ?_)
  · refine F_aload_n dX5_day_16 rfl ?_
    refine F_iload_n dX5_day_17 rfl ?_
    refine F_iload_n dX5_day_18 rfl ?_
    refine F_cV2v (hv) dX5_day_19 rfl rfl (by decide) (by first | assumption | rfl) rfl rfl rfl (by decide) (Nat.le_of_ble_eq_true rfl) (by omega) ?_
    refine F_iload_n dX5_day_22 rfl ?_
    refine F_tableIn (off := 109) (tgt := 132) dX5_day_23 (by decide) (by decide) (by decide +kernel) rfl ?_
    refine F_aload_n dX5_day_132 rfl ?_
    refine F_iload_n dX5_day_133 rfl ?_
    refine F_cV1i (v_mchronic (d := 9) he) dX5_day_134 rfl rfl (by decide) (by first | assumption | rfl) rfl rfl rfl (by decide) (Nat.le_of_ble_eq_true rfl) (by omega) ?_
    refine F_iret dX5_day_137 rfl ?_
    refine Qv hQ ?_ rfl
    show some (Value.int (τ 127 (e + 1) - τ 127 (e + 1 - 28))) = _
    rw [hG.1 (e + 1) (by omega), hG.1 (e + 1 - 28) (by omega)]
    rfl
  · rw [show (up σ 116 0 (nI 0)) 117 23 = nI n from h23, grB_nI hg (by omega), dB_nI he] at c11
    cases c11

theorem b_dayX (hq : QR σ n c) {g e : Nat} (hg : g < n) (he : e < 70) {w : Int32} (hw : w.toInt < 0 ∨ 7 < w.toInt) : Ask G mX4_day [.ref 3, .int (nI g), .int (nI e), .int w] (-1) σ := by
  have hn := hq.1.2.1
  have h23 := hq.1.1.2.2.1
  have hn6 := hq.1.1.1
  obtain ⟨τ, hv, hL, hC, far⟩ := q_follow (G := G) (d := 7) (a := 29) (N := e + 1) (Or.inl rfl) hq hg (by omega) (-1) (pred_s _ (by omega))
  have hh := sHl_le (pQ (σ 117) g c (-1)) (hq.1.1.s g c (-1)) e
  refine ⟨τ, mV_of fun Q hQ => ?_, q_frB (n := n) (c := c) (Or.inl rfl) hC far⟩
  refine F_aload_n dX4_day_0 rfl ?_
  refine F_getr dX4_day_1 rfl rfl (by first | assumption | rfl) rfl ?_
  refine F_iload_n dX4_day_4 rfl ?_
  refine F_cV1i (v_hasGroup (d := 11) isTold_4 _) dX4_day_5 rfl rfl (by decide) (by first | assumption | rfl) rfl rfl rfl (by decide) (Nat.le_of_ble_eq_true rfl) (by omega) ?_
  refine F_if_eqB (tgt := 18) dX4_day_8 rfl (fun c8 => ?_) (fun c8 => ?_)
  · have c8 : grB (σ 4 0) (nI g) = false := c8
    rw [hn, grB_nI hg (by omega)] at c8
    cases c8
  · refine F_iload_n dX4_day_11 rfl ?_
    refine F_cS1i (v_bIsDay (d := 11) _) dX4_day_12 rfl rfl rfl (by decide) (Nat.le_of_ble_eq_true rfl) (by omega) ?_
    refine F_if_neB (tgt := 20) dX4_day_15 rfl (fun c15 => ?_) (fun c15 => ?_)
    · refine F_aload_n dX4_day_20 rfl ?_
      refine F_getr dX4_day_21 rfl rfl (by first | assumption | rfl) rfl ?_
      refine F_aload_n dX4_day_24 rfl ?_
      refine F_getr dX4_day_25 rfl rfl (by first | assumption | rfl) rfl ?_
      refine F_iload_n dX4_day_28 rfl ?_
      refine F_iconst (v := (-1)) dX4_day_29 rfl ?_
      refine F_iload_n dX4_day_30 rfl ?_
      refine F_cV_riii_v (hv) dX4_day_31 rfl rfl (by decide) (by first | assumption | rfl) rfl rfl rfl (by decide) (Nat.le_of_ble_eq_true rfl) (by omega) ?_
      refine F_iload_n dX4_day_34 rfl ?_
      refine F_tableOut (tgt := 177) dX4_day_35 hw rfl ?_
      refine F_iconst (v := (-1)) dX4_day_177 rfl ?_
      refine F_iret dX4_day_178 rfl ?_
      exact hQ
    · rw [dB_nI he] at c15
      cases c15

theorem m_dayX (hq : QR σ n c) {g e : Nat} (hg : g < n) (he : e < 70) {w : Int32} (hw : w.toInt < 0 ∨ 7 < w.toInt) : Ask G mX5_day [.ref 116, .int (nI g), .int (nI e), .int w] (-1) σ := by
  have hn := hq.1.2.1
  have h23 := hq.1.1.2.2.1
  have hn6 := hq.1.1.1
  have hq1 := (Fr.thrown hq (nI 0)).qr hq
  obtain ⟨τ, hv, hG, h7, hf⟩ := q_goesR (G := G) (d := 5) (to := e) hq1 hg (by omega)
  have hG : Gone τ (pQ (σ 117) g c (-1)) (e + 1) := hG
  refine ⟨τ, mV_of fun Q hQ => ?_, (Fr.thrown hq (nI 0)).trans hf⟩
  refine F_aload_n dX5_day_0 rfl ?_
  refine F_iconst (v := nI 0) dX5_day_1 rfl ?_
  refine F_put dX5_day_2 rfl rfl (by first | assumption | rfl) rfl rfl rfl rfl ?_
  refine F_aload_n dX5_day_5 rfl ?_
  refine F_iload_n dX5_day_6 rfl ?_
  refine F_iload_n dX5_day_7 rfl ?_
  refine F_cV2i (v_isOne (d := 5) _ _ (n := n) h23 (by omega)) dX5_day_8 rfl rfl (by decide) (by first | assumption | rfl) rfl rfl rfl (by decide) (Nat.le_of_ble_eq_true rfl) (by omega) ?_
  refine F_if_neB (tgt := 16) dX5_day_11 rfl (fun c11 => ?_) (fun c11 => ?_)
  · refine F_aload_n dX5_day_16 rfl ?_
    refine F_iload_n dX5_day_17 rfl ?_
    refine F_iload_n dX5_day_18 rfl ?_
    refine F_cV2v (hv) dX5_day_19 rfl rfl (by decide) (by first | assumption | rfl) rfl rfl rfl (by decide) (Nat.le_of_ble_eq_true rfl) (by omega) ?_
    refine F_iload_n dX5_day_22 rfl ?_
    refine F_tableOut (tgt := 138) dX5_day_23 hw rfl ?_
    refine F_iconst (v := (-1)) dX5_day_138 rfl ?_
    refine F_iret dX5_day_139 rfl ?_
    exact hQ
  · rw [show (up σ 116 0 (nI 0)) 117 23 = nI n from h23, grB_nI hg (by omega), dB_nI he] at c11
    cases c11

theorem gd_n {g e : Int32} (h : (grB (nI n) g && dB e) = true) (hn : n ≤ 6) : ∃ i j, i < n ∧ j < 70 ∧ g = nI i ∧ e = nI j := by
  have hx := Bool.and_eq_true_iff.mp h
  obtain ⟨i, hi, e1⟩ := grB_n (x := nI n) rfl (by omega) hx.1
  obtain ⟨j, hj, e2⟩ := dB_n hx.2
  exact ⟨i, j, hi, hj, e1, e2⟩
theorem op_day (h : Rel σ) (g e w : Int32) : Same G mX4_day mX5_day [.int g, .int e, .int w] σ := by
  refine Same.of h fun n c hq => ?_
  by_cases hA : (grB (nI n) g && dB e) = true
  · obtain ⟨i, j, hi, hj, e1, e2⟩ := gd_n hA hq.1.1.1
    subst e1; subst e2
    by_cases hw : inR w (nI 0) (nI 7) = true
    · obtain ⟨k, hk, e3⟩ := inR_n (by decide) hw
      subst e3
      refine ⟨dayR (σ 117) i c j k, ?_, fun σ2 h7 hq2 => ?_⟩
      · match k, hk with
        | 0, _ => exact b_day0 hq hi hj
        | 1, _ => exact b_day1 hq hi hj
        | 2, _ => exact b_day2 hq hi hj
        | 3, _ => exact b_day3 hq hi hj
        | 4, _ => exact b_day4 hq hi hj
        | 5, _ => exact b_day5 hq hi hj
        | 6, _ => exact b_day6 hq hi hj
        | 7, _ => exact b_day7 hq hi hj
      · rw [← h7]
        match k, hk with
        | 0, _ => exact m_day0 hq2 hi hj
        | 1, _ => exact m_day1 hq2 hi hj
        | 2, _ => exact m_day2 hq2 hi hj
        | 3, _ => exact m_day3 hq2 hi hj
        | 4, _ => exact m_day4 hq2 hi hj
        | 5, _ => exact m_day5 hq2 hi hj
        | 6, _ => exact m_day6 hq2 hi hj
        | 7, _ => exact m_day7 hq2 hi hj
    · have hw2 : w.toInt < 0 ∨ 7 < w.toInt := by
        simp only [inR, Bool.and_eq_true, decide_eq_true_eq, not_and, Int32.le_iff_toInt_le] at hw
        rw [nI_toInt (by decide), nI_toInt (by decide)] at hw
        omega
      exact ⟨-1, b_dayX hq hi hj hw2, fun σ2 h7 hq2 => m_dayX hq2 hi hj hw2⟩
  · have hA := Bool.not_eq_true _ ▸ hA
    exact ⟨-1, b_dayA hq w hA, fun σ2 h7 hq2 => m_dayA hq2 w hA⟩
end QA
