/-! ===== bytes: runs of blanks, letters, digits; what both sides read of them ===== -/
theorem dX1_note_0 : decode cX1_note 0 = .ok (.aload_n 0, 1) := by decide +kernel
theorem dX1_note_1 : decode cX1_note 1 = .ok (.getfield 29, 3) := by decide +kernel
theorem dX1_note_4 : decode cX1_note 4 = .ok (.sipush 400, 3) := by decide +kernel
theorem dX1_note_7 : decode cX1_note 7 = .ok (.if_icmp .gt 43, 3) := by decide +kernel
theorem dX1_note_10 : decode cX1_note 10 = .ok (.aload_n 0, 1) := by decide +kernel
theorem dX1_note_11 : decode cX1_note 11 = .ok (.getfield 15, 3) := by decide +kernel
theorem dX1_note_14 : decode cX1_note 14 = .ok (.aload_n 0, 1) := by decide +kernel
theorem dX1_note_15 : decode cX1_note 15 = .ok (.getfield 29, 3) := by decide +kernel
theorem dX1_note_18 : decode cX1_note 18 = .ok (.iload_n 1, 1) := by decide +kernel
theorem dX1_note_19 : decode cX1_note 19 = .ok (.iastore, 1) := by decide +kernel
theorem dX1_note_20 : decode cX1_note 20 = .ok (.aload_n 0, 1) := by decide +kernel
theorem dX1_note_21 : decode cX1_note 21 = .ok (.getfield 19, 3) := by decide +kernel
theorem dX1_note_24 : decode cX1_note 24 = .ok (.aload_n 0, 1) := by decide +kernel
theorem dX1_note_25 : decode cX1_note 25 = .ok (.getfield 29, 3) := by decide +kernel
theorem dX1_note_28 : decode cX1_note 28 = .ok (.iload_n 2, 1) := by decide +kernel
theorem dX1_note_29 : decode cX1_note 29 = .ok (.iastore, 1) := by decide +kernel
theorem dX1_note_30 : decode cX1_note 30 = .ok (.aload_n 0, 1) := by decide +kernel
theorem dX1_note_31 : decode cX1_note 31 = .ok (.getfield 22, 3) := by decide +kernel
theorem dX1_note_34 : decode cX1_note 34 = .ok (.aload_n 0, 1) := by decide +kernel
theorem dX1_note_35 : decode cX1_note 35 = .ok (.getfield 29, 3) := by decide +kernel
theorem dX1_note_38 : decode cX1_note 38 = .ok (.iload_n 3, 1) := by decide +kernel
theorem dX1_note_39 : decode cX1_note 39 = .ok (.iastore, 1) := by decide +kernel
theorem dX1_note_40 : decode cX1_note 40 = .ok (.aload_n 0, 1) := by decide +kernel
theorem dX1_note_41 : decode cX1_note 41 = .ok (.dup, 1) := by decide +kernel
theorem dX1_note_42 : decode cX1_note 42 = .ok (.getfield 29, 3) := by decide +kernel
theorem dX1_note_45 : decode cX1_note 45 = .ok (.iconst 1, 1) := by decide +kernel
theorem dX1_note_46 : decode cX1_note 46 = .ok (.iadd, 1) := by decide +kernel
theorem dX1_note_47 : decode cX1_note 47 = .ok (.putfield 29, 3) := by decide +kernel
theorem dX1_note_50 : decode cX1_note 50 = .ok (.return_, 1) := by decide +kernel
theorem dX1_endOfWord_0 : decode cX1_endOfWord 0 = .ok (.iload_n 1, 1) := by decide +kernel
theorem dX1_endOfWord_1 : decode cX1_endOfWord 1 = .ok (.istore_n 2, 1) := by decide +kernel
theorem dX1_endOfWord_2 : decode cX1_endOfWord 2 = .ok (.iload_n 2, 1) := by decide +kernel
theorem dX1_endOfWord_3 : decode cX1_endOfWord 3 = .ok (.aload_n 0, 1) := by decide +kernel
theorem dX1_endOfWord_4 : decode cX1_endOfWord 4 = .ok (.getfield 25, 3) := by decide +kernel
theorem dX1_endOfWord_7 : decode cX1_endOfWord 7 = .ok (.if_icmp .ge 21, 3) := by decide +kernel
theorem dX1_endOfWord_10 : decode cX1_endOfWord 10 = .ok (.aload_n 0, 1) := by decide +kernel
theorem dX1_endOfWord_11 : decode cX1_endOfWord 11 = .ok (.getfield 9, 3) := by decide +kernel
theorem dX1_endOfWord_14 : decode cX1_endOfWord 14 = .ok (.iload_n 2, 1) := by decide +kernel
theorem dX1_endOfWord_15 : decode cX1_endOfWord 15 = .ok (.baload, 1) := by decide +kernel
theorem dX1_endOfWord_16 : decode cX1_endOfWord 16 = .ok (.invokestatic 32, 3) := by decide +kernel
theorem dX1_endOfWord_19 : decode cX1_endOfWord 19 = .ok (.ifCond .eq 9, 3) := by decide +kernel
theorem dX1_endOfWord_22 : decode cX1_endOfWord 22 = .ok (.iinc 2 1, 3) := by decide +kernel
theorem dX1_endOfWord_25 : decode cX1_endOfWord 25 = .ok (.goto (-23), 3) := by decide +kernel
theorem dX1_endOfWord_28 : decode cX1_endOfWord 28 = .ok (.iload_n 2, 1) := by decide +kernel
theorem dX1_endOfWord_29 : decode cX1_endOfWord 29 = .ok (.ireturn, 1) := by decide +kernel
theorem dX1_endOfInt_0 : decode cX1_endOfInt 0 = .ok (.iload_n 1, 1) := by decide +kernel
theorem dX1_endOfInt_1 : decode cX1_endOfInt 1 = .ok (.istore_n 2, 1) := by decide +kernel
theorem dX1_endOfInt_2 : decode cX1_endOfInt 2 = .ok (.iload_n 2, 1) := by decide +kernel
theorem dX1_endOfInt_3 : decode cX1_endOfInt 3 = .ok (.aload_n 0, 1) := by decide +kernel
theorem dX1_endOfInt_4 : decode cX1_endOfInt 4 = .ok (.getfield 25, 3) := by decide +kernel
theorem dX1_endOfInt_7 : decode cX1_endOfInt 7 = .ok (.if_icmp .ge 21, 3) := by decide +kernel
theorem dX1_endOfInt_10 : decode cX1_endOfInt 10 = .ok (.aload_n 0, 1) := by decide +kernel
theorem dX1_endOfInt_11 : decode cX1_endOfInt 11 = .ok (.getfield 9, 3) := by decide +kernel
theorem dX1_endOfInt_14 : decode cX1_endOfInt 14 = .ok (.iload_n 2, 1) := by decide +kernel
theorem dX1_endOfInt_15 : decode cX1_endOfInt 15 = .ok (.baload, 1) := by decide +kernel
theorem dX1_endOfInt_16 : decode cX1_endOfInt 16 = .ok (.invokestatic 48, 3) := by decide +kernel
theorem dX1_endOfInt_19 : decode cX1_endOfInt 19 = .ok (.ifCond .eq 9, 3) := by decide +kernel
theorem dX1_endOfInt_22 : decode cX1_endOfInt 22 = .ok (.iinc 2 1, 3) := by decide +kernel
theorem dX1_endOfInt_25 : decode cX1_endOfInt 25 = .ok (.goto (-23), 3) := by decide +kernel
theorem dX1_endOfInt_28 : decode cX1_endOfInt 28 = .ok (.iload_n 2, 1) := by decide +kernel
theorem dX1_endOfInt_29 : decode cX1_endOfInt 29 = .ok (.ireturn, 1) := by decide +kernel
theorem dX1_numberAt_0 : decode cX1_numberAt 0 = .ok (.iload_n 2, 1) := by decide +kernel
theorem dX1_numberAt_1 : decode cX1_numberAt 1 = .ok (.iload_n 1, 1) := by decide +kernel
theorem dX1_numberAt_2 : decode cX1_numberAt 2 = .ok (.isub, 1) := by decide +kernel
theorem dX1_numberAt_3 : decode cX1_numberAt 3 = .ok (.iconst 4, 1) := by decide +kernel
theorem dX1_numberAt_4 : decode cX1_numberAt 4 = .ok (.if_icmp .le 7, 3) := by decide +kernel
theorem dX1_numberAt_7 : decode cX1_numberAt 7 = .ok (.sipush 10000, 3) := by decide +kernel
theorem dX1_numberAt_10 : decode cX1_numberAt 10 = .ok (.ireturn, 1) := by decide +kernel
theorem dX1_numberAt_11 : decode cX1_numberAt 11 = .ok (.iconst 0, 1) := by decide +kernel
theorem dX1_numberAt_12 : decode cX1_numberAt 12 = .ok (.istore_n 3, 1) := by decide +kernel
theorem dX1_numberAt_13 : decode cX1_numberAt 13 = .ok (.iload_n 1, 1) := by decide +kernel
theorem dX1_numberAt_14 : decode cX1_numberAt 14 = .ok (.istore 4, 2) := by decide +kernel
theorem dX1_numberAt_16 : decode cX1_numberAt 16 = .ok (.iload 4, 2) := by decide +kernel
theorem dX1_numberAt_18 : decode cX1_numberAt 18 = .ok (.iload_n 2, 1) := by decide +kernel
theorem dX1_numberAt_19 : decode cX1_numberAt 19 = .ok (.if_icmp .ge 25, 3) := by decide +kernel
theorem dX1_numberAt_22 : decode cX1_numberAt 22 = .ok (.iload_n 3, 1) := by decide +kernel
theorem dX1_numberAt_23 : decode cX1_numberAt 23 = .ok (.bipush 10, 2) := by decide +kernel
theorem dX1_numberAt_25 : decode cX1_numberAt 25 = .ok (.imul, 1) := by decide +kernel
theorem dX1_numberAt_26 : decode cX1_numberAt 26 = .ok (.aload_n 0, 1) := by decide +kernel
theorem dX1_numberAt_27 : decode cX1_numberAt 27 = .ok (.getfield 9, 3) := by decide +kernel
theorem dX1_numberAt_30 : decode cX1_numberAt 30 = .ok (.iload 4, 2) := by decide +kernel
theorem dX1_numberAt_32 : decode cX1_numberAt 32 = .ok (.baload, 1) := by decide +kernel
theorem dX1_numberAt_33 : decode cX1_numberAt 33 = .ok (.iadd, 1) := by decide +kernel
theorem dX1_numberAt_34 : decode cX1_numberAt 34 = .ok (.bipush 48, 2) := by decide +kernel
theorem dX1_numberAt_36 : decode cX1_numberAt 36 = .ok (.isub, 1) := by decide +kernel
theorem dX1_numberAt_37 : decode cX1_numberAt 37 = .ok (.istore_n 3, 1) := by decide +kernel
theorem dX1_numberAt_38 : decode cX1_numberAt 38 = .ok (.iinc 4 1, 3) := by decide +kernel
theorem dX1_numberAt_41 : decode cX1_numberAt 41 = .ok (.goto (-25), 3) := by decide +kernel
theorem dX1_numberAt_44 : decode cX1_numberAt 44 = .ok (.iload_n 3, 1) := by decide +kernel
theorem dX1_numberAt_45 : decode cX1_numberAt 45 = .ok (.ireturn, 1) := by decide +kernel
theorem dX1_isLetter_0 : decode cX1_isLetter 0 = .ok (.iload_n 0, 1) := by decide +kernel
theorem dX1_isLetter_1 : decode cX1_isLetter 1 = .ok (.bipush 97, 2) := by decide +kernel
theorem dX1_isLetter_3 : decode cX1_isLetter 3 = .ok (.if_icmp .lt 13, 3) := by decide +kernel
theorem dX1_isLetter_6 : decode cX1_isLetter 6 = .ok (.iload_n 0, 1) := by decide +kernel
theorem dX1_isLetter_7 : decode cX1_isLetter 7 = .ok (.bipush 122, 2) := by decide +kernel
theorem dX1_isLetter_9 : decode cX1_isLetter 9 = .ok (.if_icmp .gt 7, 3) := by decide +kernel
theorem dX1_isLetter_12 : decode cX1_isLetter 12 = .ok (.iconst 1, 1) := by decide +kernel
theorem dX1_isLetter_13 : decode cX1_isLetter 13 = .ok (.goto 4, 3) := by decide +kernel
theorem dX1_isLetter_16 : decode cX1_isLetter 16 = .ok (.iconst 0, 1) := by decide +kernel
theorem dX1_isLetter_17 : decode cX1_isLetter 17 = .ok (.ireturn, 1) := by decide +kernel
theorem dX1_isDigit_0 : decode cX1_isDigit 0 = .ok (.iload_n 0, 1) := by decide +kernel
theorem dX1_isDigit_1 : decode cX1_isDigit 1 = .ok (.bipush 48, 2) := by decide +kernel
theorem dX1_isDigit_3 : decode cX1_isDigit 3 = .ok (.if_icmp .lt 13, 3) := by decide +kernel
theorem dX1_isDigit_6 : decode cX1_isDigit 6 = .ok (.iload_n 0, 1) := by decide +kernel
theorem dX1_isDigit_7 : decode cX1_isDigit 7 = .ok (.bipush 57, 2) := by decide +kernel
theorem dX1_isDigit_9 : decode cX1_isDigit 9 = .ok (.if_icmp .gt 7, 3) := by decide +kernel
theorem dX1_isDigit_12 : decode cX1_isDigit 12 = .ok (.iconst 1, 1) := by decide +kernel
theorem dX1_isDigit_13 : decode cX1_isDigit 13 = .ok (.goto 4, 3) := by decide +kernel
theorem dX1_isDigit_16 : decode cX1_isDigit 16 = .ok (.iconst 0, 1) := by decide +kernel
theorem dX1_isDigit_17 : decode cX1_isDigit 17 = .ok (.ireturn, 1) := by decide +kernel
theorem dX1_isBlank_0 : decode cX1_isBlank 0 = .ok (.iload_n 0, 1) := by decide +kernel
theorem dX1_isBlank_1 : decode cX1_isBlank 1 = .ok (.bipush 32, 2) := by decide +kernel
theorem dX1_isBlank_3 : decode cX1_isBlank 3 = .ok (.if_icmp .eq 9, 3) := by decide +kernel
theorem dX1_isBlank_6 : decode cX1_isBlank 6 = .ok (.iload_n 0, 1) := by decide +kernel
theorem dX1_isBlank_7 : decode cX1_isBlank 7 = .ok (.bipush 10, 2) := by decide +kernel
theorem dX1_isBlank_9 : decode cX1_isBlank 9 = .ok (.if_icmp .ne 7, 3) := by decide +kernel
theorem dX1_isBlank_12 : decode cX1_isBlank 12 = .ok (.iconst 1, 1) := by decide +kernel
theorem dX1_isBlank_13 : decode cX1_isBlank 13 = .ok (.goto 4, 3) := by decide +kernel
theorem dX1_isBlank_16 : decode cX1_isBlank 16 = .ok (.iconst 0, 1) := by decide +kernel
theorem dX1_isBlank_17 : decode cX1_isBlank 17 = .ok (.ireturn, 1) := by decide +kernel
theorem dX1_signOf_0 : decode cX1_signOf 0 = .ok (.iload_n 0, 1) := by decide +kernel
theorem dX1_signOf_1 : decode cX1_signOf 1 = .ok (.lookupswitch 44 #[(40, 35), (41, 38), (59, 41)], 35) := by decide +kernel
theorem dX1_signOf_36 : decode cX1_signOf 36 = .ok (.bipush 13, 2) := by decide +kernel
theorem dX1_signOf_38 : decode cX1_signOf 38 = .ok (.ireturn, 1) := by decide +kernel
theorem dX1_signOf_39 : decode cX1_signOf 39 = .ok (.bipush 14, 2) := by decide +kernel
theorem dX1_signOf_41 : decode cX1_signOf 41 = .ok (.ireturn, 1) := by decide +kernel
theorem dX1_signOf_42 : decode cX1_signOf 42 = .ok (.bipush 15, 2) := by decide +kernel
theorem dX1_signOf_44 : decode cX1_signOf 44 = .ok (.ireturn, 1) := by decide +kernel
theorem dX1_signOf_45 : decode cX1_signOf 45 = .ok (.bipush 17, 2) := by decide +kernel
theorem dX1_signOf_47 : decode cX1_signOf 47 = .ok (.ireturn, 1) := by decide +kernel
theorem dX5_here_0 : decode cX5_here 0 = .ok (.aload_n 0, 1) := by decide +kernel
theorem dX5_here_1 : decode cX5_here 1 = .ok (.getfield 123, 3) := by decide +kernel
theorem dX5_here_4 : decode cX5_here 4 = .ok (.aload_n 0, 1) := by decide +kernel
theorem dX5_here_5 : decode cX5_here 5 = .ok (.getfield 126, 3) := by decide +kernel
theorem dX5_here_8 : decode cX5_here 8 = .ok (.if_icmp .ge 44, 3) := by decide +kernel
theorem dX5_here_11 : decode cX5_here 11 = .ok (.aload_n 0, 1) := by decide +kernel
theorem dX5_here_12 : decode cX5_here 12 = .ok (.getfield 19, 3) := by decide +kernel
theorem dX5_here_15 : decode cX5_here 15 = .ok (.aload_n 0, 1) := by decide +kernel
theorem dX5_here_16 : decode cX5_here 16 = .ok (.getfield 123, 3) := by decide +kernel
theorem dX5_here_19 : decode cX5_here 19 = .ok (.baload, 1) := by decide +kernel
theorem dX5_here_20 : decode cX5_here 20 = .ok (.bipush 32, 2) := by decide +kernel
theorem dX5_here_22 : decode cX5_here 22 = .ok (.if_icmp .eq 17, 3) := by decide +kernel
theorem dX5_here_25 : decode cX5_here 25 = .ok (.aload_n 0, 1) := by decide +kernel
theorem dX5_here_26 : decode cX5_here 26 = .ok (.getfield 19, 3) := by decide +kernel
theorem dX5_here_29 : decode cX5_here 29 = .ok (.aload_n 0, 1) := by decide +kernel
theorem dX5_here_30 : decode cX5_here 30 = .ok (.getfield 123, 3) := by decide +kernel
theorem dX5_here_33 : decode cX5_here 33 = .ok (.baload, 1) := by decide +kernel
theorem dX5_here_34 : decode cX5_here 34 = .ok (.bipush 10, 2) := by decide +kernel
theorem dX5_here_36 : decode cX5_here 36 = .ok (.if_icmp .ne 16, 3) := by decide +kernel
theorem dX5_here_39 : decode cX5_here 39 = .ok (.aload_n 0, 1) := by decide +kernel
theorem dX5_here_40 : decode cX5_here 40 = .ok (.dup, 1) := by decide +kernel
theorem dX5_here_41 : decode cX5_here 41 = .ok (.getfield 123, 3) := by decide +kernel
theorem dX5_here_44 : decode cX5_here 44 = .ok (.iconst 1, 1) := by decide +kernel
theorem dX5_here_45 : decode cX5_here 45 = .ok (.iadd, 1) := by decide +kernel
theorem dX5_here_46 : decode cX5_here 46 = .ok (.putfield 123, 3) := by decide +kernel
theorem dX5_here_49 : decode cX5_here 49 = .ok (.goto (-49), 3) := by decide +kernel
theorem dX5_here_52 : decode cX5_here 52 = .ok (.aload_n 0, 1) := by decide +kernel
theorem dX5_here_53 : decode cX5_here 53 = .ok (.getfield 123, 3) := by decide +kernel
theorem dX5_here_56 : decode cX5_here 56 = .ok (.aload_n 0, 1) := by decide +kernel
theorem dX5_here_57 : decode cX5_here 57 = .ok (.getfield 126, 3) := by decide +kernel
theorem dX5_here_60 : decode cX5_here 60 = .ok (.if_icmp .ge 19, 3) := by decide +kernel
theorem dX5_here_63 : decode cX5_here 63 = .ok (.aload_n 0, 1) := by decide +kernel
theorem dX5_here_64 : decode cX5_here 64 = .ok (.getfield 19, 3) := by decide +kernel
theorem dX5_here_67 : decode cX5_here 67 = .ok (.aload_n 0, 1) := by decide +kernel
theorem dX5_here_68 : decode cX5_here 68 = .ok (.getfield 123, 3) := by decide +kernel
theorem dX5_here_71 : decode cX5_here 71 = .ok (.baload, 1) := by decide +kernel
theorem dX5_here_72 : decode cX5_here 72 = .ok (.sipush 255, 3) := by decide +kernel
theorem dX5_here_75 : decode cX5_here 75 = .ok (.iand, 1) := by decide +kernel
theorem dX5_here_76 : decode cX5_here 76 = .ok (.goto 4, 3) := by decide +kernel
theorem dX5_here_79 : decode cX5_here 79 = .ok (.iconst (-1), 1) := by decide +kernel
theorem dX5_here_80 : decode cX5_here 80 = .ok (.ireturn, 1) := by decide +kernel
theorem dX5_fails_0 : decode cX5_fails 0 = .ok (.aload_n 0, 1) := by decide +kernel
theorem dX5_fails_1 : decode cX5_fails 1 = .ok (.getfield 129, 3) := by decide +kernel
theorem dX5_fails_4 : decode cX5_fails 4 = .ok (.ifCond .ne 13, 3) := by decide +kernel
theorem dX5_fails_7 : decode cX5_fails 7 = .ok (.aload_n 0, 1) := by decide +kernel
theorem dX5_fails_8 : decode cX5_fails 8 = .ok (.iload_n 1, 1) := by decide +kernel
theorem dX5_fails_9 : decode cX5_fails 9 = .ok (.bipush 8, 2) := by decide +kernel
theorem dX5_fails_11 : decode cX5_fails 11 = .ok (.iload_n 2, 1) := by decide +kernel
theorem dX5_fails_12 : decode cX5_fails 12 = .ok (.imul, 1) := by decide +kernel
theorem dX5_fails_13 : decode cX5_fails 13 = .ok (.iadd, 1) := by decide +kernel
theorem dX5_fails_14 : decode cX5_fails 14 = .ok (.putfield 129, 3) := by decide +kernel
theorem dX5_fails_17 : decode cX5_fails 17 = .ok (.return_, 1) := by decide +kernel
theorem dX5_isNumber_0 : decode cX5_isNumber 0 = .ok (.aload_n 0, 1) := by decide +kernel
theorem dX5_isNumber_1 : decode cX5_isNumber 1 = .ok (.invokevirtual 132, 3) := by decide +kernel
theorem dX5_isNumber_4 : decode cX5_isNumber 4 = .ok (.bipush 48, 2) := by decide +kernel
theorem dX5_isNumber_6 : decode cX5_isNumber 6 = .ok (.bipush 57, 2) := by decide +kernel
theorem dX5_isNumber_8 : decode cX5_isNumber 8 = .ok (.invokestatic 68, 3) := by decide +kernel
theorem dX5_isNumber_11 : decode cX5_isNumber 11 = .ok (.ireturn, 1) := by decide +kernel
theorem dX5_number_0 : decode cX5_number 0 = .ok (.aload_n 0, 1) := by decide +kernel
theorem dX5_number_1 : decode cX5_number 1 = .ok (.getfield 129, 3) := by decide +kernel
theorem dX5_number_4 : decode cX5_number 4 = .ok (.ifCond .eq 5, 3) := by decide +kernel
theorem dX5_number_7 : decode cX5_number 7 = .ok (.iload_n 1, 1) := by decide +kernel
theorem dX5_number_8 : decode cX5_number 8 = .ok (.ireturn, 1) := by decide +kernel
theorem dX5_number_9 : decode cX5_number 9 = .ok (.aload_n 0, 1) := by decide +kernel
theorem dX5_number_10 : decode cX5_number 10 = .ok (.invokevirtual 135, 3) := by decide +kernel
theorem dX5_number_13 : decode cX5_number 13 = .ok (.istore_n 3, 1) := by decide +kernel
theorem dX5_number_14 : decode cX5_number 14 = .ok (.aload_n 0, 1) := by decide +kernel
theorem dX5_number_15 : decode cX5_number 15 = .ok (.aload_n 0, 1) := by decide +kernel
theorem dX5_number_16 : decode cX5_number 16 = .ok (.getfield 123, 3) := by decide +kernel
theorem dX5_number_19 : decode cX5_number 19 = .ok (.putfield 139, 3) := by decide +kernel
theorem dX5_number_22 : decode cX5_number 22 = .ok (.iload_n 3, 1) := by decide +kernel
theorem dX5_number_23 : decode cX5_number 23 = .ok (.ifCond .ne 14, 3) := by decide +kernel
theorem dX5_number_26 : decode cX5_number 26 = .ok (.aload_n 0, 1) := by decide +kernel
theorem dX5_number_27 : decode cX5_number 27 = .ok (.iconst 1, 1) := by decide +kernel
theorem dX5_number_28 : decode cX5_number 28 = .ok (.aload_n 0, 1) := by decide +kernel
theorem dX5_number_29 : decode cX5_number 29 = .ok (.getfield 139, 3) := by decide +kernel
theorem dX5_number_32 : decode cX5_number 32 = .ok (.invokevirtual 142, 3) := by decide +kernel
theorem dX5_number_35 : decode cX5_number 35 = .ok (.iload_n 1, 1) := by decide +kernel
theorem dX5_number_36 : decode cX5_number 36 = .ok (.ireturn, 1) := by decide +kernel
theorem dX5_number_37 : decode cX5_number 37 = .ok (.iconst 0, 1) := by decide +kernel
theorem dX5_number_38 : decode cX5_number 38 = .ok (.istore 4, 2) := by decide +kernel
theorem dX5_number_40 : decode cX5_number 40 = .ok (.aload_n 0, 1) := by decide +kernel
theorem dX5_number_41 : decode cX5_number 41 = .ok (.getfield 123, 3) := by decide +kernel
theorem dX5_number_44 : decode cX5_number 44 = .ok (.aload_n 0, 1) := by decide +kernel
theorem dX5_number_45 : decode cX5_number 45 = .ok (.getfield 126, 3) := by decide +kernel
theorem dX5_number_48 : decode cX5_number 48 = .ok (.if_icmp .ge 74, 3) := by decide +kernel
theorem dX5_number_51 : decode cX5_number 51 = .ok (.aload_n 0, 1) := by decide +kernel
theorem dX5_number_52 : decode cX5_number 52 = .ok (.getfield 19, 3) := by decide +kernel
theorem dX5_number_55 : decode cX5_number 55 = .ok (.aload_n 0, 1) := by decide +kernel
theorem dX5_number_56 : decode cX5_number 56 = .ok (.getfield 123, 3) := by decide +kernel
theorem dX5_number_59 : decode cX5_number 59 = .ok (.baload, 1) := by decide +kernel
theorem dX5_number_60 : decode cX5_number 60 = .ok (.bipush 48, 2) := by decide +kernel
theorem dX5_number_62 : decode cX5_number 62 = .ok (.bipush 57, 2) := by decide +kernel
theorem dX5_number_64 : decode cX5_number 64 = .ok (.invokestatic 68, 3) := by decide +kernel
theorem dX5_number_67 : decode cX5_number 67 = .ok (.ifCond .eq 55, 3) := by decide +kernel
theorem dX5_number_70 : decode cX5_number 70 = .ok (.aload_n 0, 1) := by decide +kernel
theorem dX5_number_71 : decode cX5_number 71 = .ok (.getfield 123, 3) := by decide +kernel
theorem dX5_number_74 : decode cX5_number 74 = .ok (.aload_n 0, 1) := by decide +kernel
theorem dX5_number_75 : decode cX5_number 75 = .ok (.getfield 139, 3) := by decide +kernel
theorem dX5_number_78 : decode cX5_number 78 = .ok (.isub, 1) := by decide +kernel
theorem dX5_number_79 : decode cX5_number 79 = .ok (.iconst 4, 1) := by decide +kernel
theorem dX5_number_80 : decode cX5_number 80 = .ok (.if_icmp .ge 24, 3) := by decide +kernel
theorem dX5_number_83 : decode cX5_number 83 = .ok (.bipush 10, 2) := by decide +kernel
theorem dX5_number_85 : decode cX5_number 85 = .ok (.iload 4, 2) := by decide +kernel
theorem dX5_number_87 : decode cX5_number 87 = .ok (.imul, 1) := by decide +kernel
theorem dX5_number_88 : decode cX5_number 88 = .ok (.aload_n 0, 1) := by decide +kernel
theorem dX5_number_89 : decode cX5_number 89 = .ok (.getfield 19, 3) := by decide +kernel
theorem dX5_number_92 : decode cX5_number 92 = .ok (.aload_n 0, 1) := by decide +kernel
theorem dX5_number_93 : decode cX5_number 93 = .ok (.getfield 123, 3) := by decide +kernel
theorem dX5_number_96 : decode cX5_number 96 = .ok (.baload, 1) := by decide +kernel
theorem dX5_number_97 : decode cX5_number 97 = .ok (.iadd, 1) := by decide +kernel
theorem dX5_number_98 : decode cX5_number 98 = .ok (.bipush 48, 2) := by decide +kernel
theorem dX5_number_100 : decode cX5_number 100 = .ok (.isub, 1) := by decide +kernel
theorem dX5_number_101 : decode cX5_number 101 = .ok (.goto 6, 3) := by decide +kernel
theorem dX5_number_104 : decode cX5_number 104 = .ok (.sipush 10000, 3) := by decide +kernel
theorem dX5_number_107 : decode cX5_number 107 = .ok (.istore 4, 2) := by decide +kernel
theorem dX5_number_109 : decode cX5_number 109 = .ok (.aload_n 0, 1) := by decide +kernel
theorem dX5_number_110 : decode cX5_number 110 = .ok (.dup, 1) := by decide +kernel
theorem dX5_number_111 : decode cX5_number 111 = .ok (.getfield 123, 3) := by decide +kernel
theorem dX5_number_114 : decode cX5_number 114 = .ok (.iconst 1, 1) := by decide +kernel
theorem dX5_number_115 : decode cX5_number 115 = .ok (.iadd, 1) := by decide +kernel
theorem dX5_number_116 : decode cX5_number 116 = .ok (.putfield 123, 3) := by decide +kernel
theorem dX5_number_119 : decode cX5_number 119 = .ok (.goto (-79), 3) := by decide +kernel
theorem dX5_number_122 : decode cX5_number 122 = .ok (.iload 4, 2) := by decide +kernel
theorem dX5_number_124 : decode cX5_number 124 = .ok (.iload_n 1, 1) := by decide +kernel
theorem dX5_number_125 : decode cX5_number 125 = .ok (.iload_n 2, 1) := by decide +kernel
theorem dX5_number_126 : decode cX5_number 126 = .ok (.invokestatic 68, 3) := by decide +kernel
theorem dX5_number_129 : decode cX5_number 129 = .ok (.ifCond .ne 12, 3) := by decide +kernel
theorem dX5_number_132 : decode cX5_number 132 = .ok (.aload_n 0, 1) := by decide +kernel
theorem dX5_number_133 : decode cX5_number 133 = .ok (.iconst 2, 1) := by decide +kernel
theorem dX5_number_134 : decode cX5_number 134 = .ok (.aload_n 0, 1) := by decide +kernel
theorem dX5_number_135 : decode cX5_number 135 = .ok (.getfield 139, 3) := by decide +kernel
theorem dX5_number_138 : decode cX5_number 138 = .ok (.invokevirtual 142, 3) := by decide +kernel
theorem dX5_number_141 : decode cX5_number 141 = .ok (.iload 4, 2) := by decide +kernel
theorem dX5_number_143 : decode cX5_number 143 = .ok (.ireturn, 1) := by decide +kernel
theorem dX5_word_0 : decode cX5_word 0 = .ok (.aload_n 0, 1) := by decide +kernel
theorem dX5_word_1 : decode cX5_word 1 = .ok (.invokevirtual 132, 3) := by decide +kernel
theorem dX5_word_4 : decode cX5_word 4 = .ok (.pop, 1) := by decide +kernel
theorem dX5_word_5 : decode cX5_word 5 = .ok (.aload_n 0, 1) := by decide +kernel
theorem dX5_word_6 : decode cX5_word 6 = .ok (.aload_n 0, 1) := by decide +kernel
theorem dX5_word_7 : decode cX5_word 7 = .ok (.getfield 123, 3) := by decide +kernel
theorem dX5_word_10 : decode cX5_word 10 = .ok (.putfield 139, 3) := by decide +kernel
theorem dX5_word_13 : decode cX5_word 13 = .ok (.iconst 0, 1) := by decide +kernel
theorem dX5_word_14 : decode cX5_word 14 = .ok (.istore_n 1, 1) := by decide +kernel
theorem dX5_word_15 : decode cX5_word 15 = .ok (.aload_n 0, 1) := by decide +kernel
theorem dX5_word_16 : decode cX5_word 16 = .ok (.getfield 123, 3) := by decide +kernel
theorem dX5_word_19 : decode cX5_word 19 = .ok (.aload_n 0, 1) := by decide +kernel
theorem dX5_word_20 : decode cX5_word 20 = .ok (.getfield 126, 3) := by decide +kernel
theorem dX5_word_23 : decode cX5_word 23 = .ok (.if_icmp .ge 71, 3) := by decide +kernel
theorem dX5_word_26 : decode cX5_word 26 = .ok (.aload_n 0, 1) := by decide +kernel
theorem dX5_word_27 : decode cX5_word 27 = .ok (.getfield 19, 3) := by decide +kernel
theorem dX5_word_30 : decode cX5_word 30 = .ok (.aload_n 0, 1) := by decide +kernel
theorem dX5_word_31 : decode cX5_word 31 = .ok (.getfield 123, 3) := by decide +kernel
theorem dX5_word_34 : decode cX5_word 34 = .ok (.baload, 1) := by decide +kernel
theorem dX5_word_35 : decode cX5_word 35 = .ok (.bipush 97, 2) := by decide +kernel
theorem dX5_word_37 : decode cX5_word 37 = .ok (.bipush 122, 2) := by decide +kernel
theorem dX5_word_39 : decode cX5_word 39 = .ok (.invokestatic 68, 3) := by decide +kernel
theorem dX5_word_42 : decode cX5_word 42 = .ok (.ifCond .eq 52, 3) := by decide +kernel
theorem dX5_word_45 : decode cX5_word 45 = .ok (.aload_n 0, 1) := by decide +kernel
theorem dX5_word_46 : decode cX5_word 46 = .ok (.getfield 123, 3) := by decide +kernel
theorem dX5_word_49 : decode cX5_word 49 = .ok (.aload_n 0, 1) := by decide +kernel
theorem dX5_word_50 : decode cX5_word 50 = .ok (.getfield 139, 3) := by decide +kernel
theorem dX5_word_53 : decode cX5_word 53 = .ok (.isub, 1) := by decide +kernel
theorem dX5_word_54 : decode cX5_word 54 = .ok (.bipush 6, 2) := by decide +kernel
theorem dX5_word_56 : decode cX5_word 56 = .ok (.if_icmp .ge 23, 3) := by decide +kernel
theorem dX5_word_59 : decode cX5_word 59 = .ok (.bipush 32, 2) := by decide +kernel
theorem dX5_word_61 : decode cX5_word 61 = .ok (.iload_n 1, 1) := by decide +kernel
theorem dX5_word_62 : decode cX5_word 62 = .ok (.imul, 1) := by decide +kernel
theorem dX5_word_63 : decode cX5_word 63 = .ok (.aload_n 0, 1) := by decide +kernel
theorem dX5_word_64 : decode cX5_word 64 = .ok (.getfield 19, 3) := by decide +kernel
theorem dX5_word_67 : decode cX5_word 67 = .ok (.aload_n 0, 1) := by decide +kernel
theorem dX5_word_68 : decode cX5_word 68 = .ok (.getfield 123, 3) := by decide +kernel
theorem dX5_word_71 : decode cX5_word 71 = .ok (.baload, 1) := by decide +kernel
theorem dX5_word_72 : decode cX5_word 72 = .ok (.iadd, 1) := by decide +kernel
theorem dX5_word_73 : decode cX5_word 73 = .ok (.bipush 96, 2) := by decide +kernel
theorem dX5_word_75 : decode cX5_word 75 = .ok (.isub, 1) := by decide +kernel
theorem dX5_word_76 : decode cX5_word 76 = .ok (.goto 4, 3) := by decide +kernel
theorem dX5_word_79 : decode cX5_word 79 = .ok (.iconst 0, 1) := by decide +kernel
theorem dX5_word_80 : decode cX5_word 80 = .ok (.istore_n 1, 1) := by decide +kernel
theorem dX5_word_81 : decode cX5_word 81 = .ok (.aload_n 0, 1) := by decide +kernel
theorem dX5_word_82 : decode cX5_word 82 = .ok (.dup, 1) := by decide +kernel
theorem dX5_word_83 : decode cX5_word 83 = .ok (.getfield 123, 3) := by decide +kernel
theorem dX5_word_86 : decode cX5_word 86 = .ok (.iconst 1, 1) := by decide +kernel
theorem dX5_word_87 : decode cX5_word 87 = .ok (.iadd, 1) := by decide +kernel
theorem dX5_word_88 : decode cX5_word 88 = .ok (.putfield 123, 3) := by decide +kernel
theorem dX5_word_91 : decode cX5_word 91 = .ok (.goto (-76), 3) := by decide +kernel
theorem dX5_word_94 : decode cX5_word 94 = .ok (.iload_n 1, 1) := by decide +kernel
theorem dX5_word_95 : decode cX5_word 95 = .ok (.ireturn, 1) := by decide +kernel

def isLt (v : Int32) : Bool := inR v (nI 97) (nI 122)
def isDg (v : Int32) : Bool := inR v (nI 48) (nI 57)
def isBl (v : Int32) : Bool := decide (v = nI 32) || decide (v = nI 10)
def run (P : Int32 → Bool) (b : Nat → Int32) : Nat → Nat → Nat
  | 0, a => a
  | n + 1, a => if P (b a) = true then run P b n (a + 1) else a
/-- where a run ends that begins at a -/
def rn (P : Int32 → Bool) (b : Nat → Int32) (L a : Nat) : Nat := run P b (L - a) a
section RUN
variable {P : Int32 → Bool} {b : Nat → Int32} {L a : Nat}
theorem rn_end (h : L ≤ a) : rn P b L a = a := by
  unfold rn
  rw [show L - a = 0 by omega]
  rfl
theorem rn_t (h : a < L) (hp : P (b a) = true) : rn P b L a = rn P b L (a + 1) := by
  unfold rn
  rw [show L - a = (L - (a + 1)) + 1 by omega]
  show (if P (b a) = true then _ else _) = _
  rw [if_pos hp]
theorem rn_f (hp : P (b a) = false) : rn P b L a = a := by
  unfold rn
  cases L - a with
  | zero => rfl
  | succ n =>
    show (if P (b a) = true then _ else _) = _
    rw [if_neg (by rw [hp]; decide)]
theorem run_all (P : Int32 → Bool) (b : Nat → Int32) : ∀ n a, a ≤ run P b n a ∧ run P b n a ≤ a + n ∧ (∀ k, a ≤ k → k < run P b n a → P (b k) = true) ∧ (run P b n a < a + n → P (b (run P b n a)) = false) := by
  intro n
  induction n with
  | zero => intro a; exact ⟨Nat.le_refl a, Nat.le_refl a, fun k h1 h2 => absurd h2 (Nat.not_lt.mpr h1), fun h => absurd h (Nat.lt_irrefl a)⟩
  | succ n ih =>
    intro a
    simp only [run]
    by_cases hp : P (b a) = true
    · rw [if_pos hp]
      obtain ⟨h1, h2, h3, h4⟩ := ih (a + 1)
      refine ⟨by omega, by omega, fun k k1 k2 => ?_, fun h => h4 (by omega)⟩
      by_cases e : k = a
      · subst e; exact hp
      · exact h3 k (by omega) k2
    · rw [if_neg hp]
      exact ⟨Nat.le_refl a, by omega, fun k h1 h2 => absurd h2 (Nat.not_lt.mpr h1), fun _ => Bool.not_eq_true _ ▸ hp⟩
theorem rn_ge : a ≤ rn P b L a := (run_all P b (L - a) a).1
theorem rn_le (h : a ≤ L) : rn P b L a ≤ L := by have := (run_all P b (L - a) a).2.1; unfold rn; omega
theorem rn_in {k : Nat} (h1 : a ≤ k) (h2 : k < rn P b L a) : P (b k) = true := (run_all P b (L - a) a).2.2.1 k h1 h2
theorem rn_stop (ha : a ≤ L) (h : rn P b L a < L) : P (b (rn P b L a)) = false := (run_all P b (L - a) a).2.2.2 (by unfold rn at h; omega)
theorem rn_idem (ha : a ≤ L) : rn P b L (rn P b L a) = rn P b L a := by
  by_cases h : rn P b L a < L
  · exact rn_f (rn_stop ha h)
  · exact rn_end (by omega)
end RUN
def dgt (v : Int32) : Nat := v.toNatClampNeg - 48
def ltr (v : Int32) : Nat := v.toNatClampNeg - 96
theorem inR_ex2 {v : Int32} {a z : Nat} (hz : z < 2 ^ 31) (ha : a < 2 ^ 31) (h : inR v (nI a) (nI z) = true) : ∃ t, a ≤ t ∧ t ≤ z ∧ v = nI t := by
  simp only [inR, Bool.and_eq_true, decide_eq_true_eq] at h
  have h0 : nI 0 ≤ v := Int32.le_trans (nI_le (Nat.zero_le a) ha) h.1
  obtain ⟨t, ht, e⟩ := nI_ex hz h0 h.2
  refine ⟨t, ?_, ht, e⟩
  have := h.1
  rw [e] at this
  exact (nI_le_iff ha (by omega)).mp this
theorem dg_n {v : Int32} (h : isDg v = true) : ∃ t, 48 ≤ t ∧ t ≤ 57 ∧ v = nI t ∧ dgt v = t - 48 := by
  obtain ⟨t, h1, h2, e⟩ := inR_ex2 (by decide) (by decide) h
  exact ⟨t, h1, h2, e, by unfold dgt; rw [e, nI_clamp (by omega)]⟩
theorem lt_n {v : Int32} (h : isLt v = true) : ∃ t, 97 ≤ t ∧ t ≤ 122 ∧ v = nI t ∧ ltr v = t - 96 := by
  obtain ⟨t, h1, h2, e⟩ := inR_ex2 (by decide) (by decide) h
  exact ⟨t, h1, h2, e, by unfold ltr; rw [e, nI_clamp (by omega)]⟩
/-- the number that m digits from p on make; 10000 past four of them -/
def nv (b : Nat → Int32) (p : Nat) : Nat → Nat
  | 0 => 0
  | m + 1 => if m < 4 then 10 * nv b p m + dgt (b (p + m)) else 10000
/-- what m letters from p on make; 0 past six of them -/
def wv (b : Nat → Int32) (p : Nat) : Nat → Nat
  | 0 => 0
  | m + 1 => if m < 6 then 32 * wv b p m + ltr (b (p + m)) else 0
theorem by_n {v : Int32} (h : isByte v) : ∃ k, k < 256 ∧ v = nI k - nI 128 := by
  obtain ⟨h1, h2⟩ := h
  refine ⟨(v.toInt + 128).toNat, by omega, ?_⟩
  rw [← Int32.toInt_inj, Int32.toInt_sub, nI_toInt (by omega), nI_toInt (by decide), Int.toNat_of_nonneg (by omega)]
  rw [Int.bmod_eq_of_le (by omega) (by omega)]
  omega
theorem by_dg0 : ∀ k, k < 256 → inR ((nI k - nI 128) &&& nI 255) (nI 48) (nI 57) = inR (nI k - nI 128) (nI 48) (nI 57) := by decide +kernel
theorem by_dg {v : Int32} (h : isByte v) : inR (v &&& nI 255) (nI 48) (nI 57) = isDg v := by
  obtain ⟨k, hk, e⟩ := by_n h
  rw [e]; exact by_dg0 k hk
theorem by_eq0 : ∀ k, k < 256 → ∀ t, t < 128 → ((nI k - nI 128) &&& nI 255 = nI t ↔ nI k - nI 128 = nI t) := by decide +kernel
theorem by_eq {v : Int32} (h : isByte v) {t : Nat} (ht : t < 128) : v &&& nI 255 = nI t ↔ v = nI t := by
  obtain ⟨k, hk, e⟩ := by_n h
  rw [e]; exact by_eq0 k hk t ht
theorem up_up (σ : mS) (a i : Nat) (v w : Int32) : up (up σ a i v) a i w = up σ a i w := by
  funext b j
  by_cases h : b = a <;> by_cases h2 : j = i <;> simp [up, upR, upd, h, h2]
theorem up_self (σ : mS) (a i : Nat) : up σ a i (σ a i) = σ := by
  funext b j
  by_cases h : b = a
  · subst h
    by_cases h2 : j = i
    · subst h2; simp [up, upR, upd]
    · simp [up, upR, upd, h2]
  · simp [up, upR, h]
theorem up_comm (σ : mS) {a i j : Nat} (v w : Int32) (h : i ≠ j) : up (up σ a i v) a j w = up (up σ a j w) a i v := by
  funext b k
  by_cases hb : b = a
  · subst hb
    by_cases h1 : k = j
    · subst h1; simp [up, upR, upd, Ne.symm h]
    · simp [up, upR, upd, h1]
  · simp [up, upR, hb]
section TP
variable {G : mG} {d : Nat} {σ : mS}

theorem v_isLetter (v : Int32) : mV G mX1_isLetter d [.int v] σ (some (.int (bI (isLt v)))) σ := by
  refine mV_of fun Q hQ => ?_
  refine F_iload_n dX1_isLetter_0 rfl ?_
  refine F_bipush (v := nI 97) dX1_isLetter_1 rfl ?_
  refine F_icmp_lt (tgt := 16) dX1_isLetter_3 rfl (fun c3 => ?_) (fun c3 => ?_)
  · refine F_iconst (v := nI 0) dX1_isLetter_16 rfl ?_
    refine F_zret dX1_isLetter_17 rfl (by first | exact Or.inl rfl | exact Or.inr rfl | exact bI_01 _) ?_
    first
      | exact Qb1 hQ (by simp only [isLt, inR]; rw [decide_eq_true (Int32.not_lt.mp c3), decide_eq_true (Int32.not_lt.mp c9)]; rfl)
      | exact Qb0 hQ (by simp only [isLt, inR]; rw [decide_eq_false (Int32.not_le.mpr c3)]; rfl)
      | exact Qb0 hQ (by simp only [isLt, inR]; rw [decide_eq_false (Int32.not_le.mpr c9), Bool.and_false])
  · refine F_iload_n dX1_isLetter_6 rfl ?_
    refine F_bipush (v := nI 122) dX1_isLetter_7 rfl ?_
    refine F_icmp_gt (tgt := 16) dX1_isLetter_9 rfl (fun c9 => ?_) (fun c9 => ?_)
    · refine F_iconst (v := nI 0) dX1_isLetter_16 rfl ?_
      refine F_zret dX1_isLetter_17 rfl (by first | exact Or.inl rfl | exact Or.inr rfl | exact bI_01 _) ?_
      first
        | exact Qb1 hQ (by simp only [isLt, inR]; rw [decide_eq_true (Int32.not_lt.mp c3), decide_eq_true (Int32.not_lt.mp c9)]; rfl)
        | exact Qb0 hQ (by simp only [isLt, inR]; rw [decide_eq_false (Int32.not_le.mpr c3)]; rfl)
        | exact Qb0 hQ (by simp only [isLt, inR]; rw [decide_eq_false (Int32.not_le.mpr c9), Bool.and_false])
    · refine F_iconst (v := nI 1) dX1_isLetter_12 rfl ?_
      refine F_goto (tgt := 17) dX1_isLetter_13 rfl ?_
      refine F_zret dX1_isLetter_17 rfl (by first | exact Or.inl rfl | exact Or.inr rfl | exact bI_01 _) ?_
      first
        | exact Qb1 hQ (by simp only [isLt, inR]; rw [decide_eq_true (Int32.not_lt.mp c3), decide_eq_true (Int32.not_lt.mp c9)]; rfl)
        | exact Qb0 hQ (by simp only [isLt, inR]; rw [decide_eq_false (Int32.not_le.mpr c3)]; rfl)
        | exact Qb0 hQ (by simp only [isLt, inR]; rw [decide_eq_false (Int32.not_le.mpr c9), Bool.and_false])

theorem v_isDigit (v : Int32) : mV G mX1_isDigit d [.int v] σ (some (.int (bI (isDg v)))) σ := by
  refine mV_of fun Q hQ => ?_
  refine F_iload_n dX1_isDigit_0 rfl ?_
  refine F_bipush (v := nI 48) dX1_isDigit_1 rfl ?_
  refine F_icmp_lt (tgt := 16) dX1_isDigit_3 rfl (fun c3 => ?_) (fun c3 => ?_)
  · refine F_iconst (v := nI 0) dX1_isDigit_16 rfl ?_
    refine F_zret dX1_isDigit_17 rfl (by first | exact Or.inl rfl | exact Or.inr rfl | exact bI_01 _) ?_
    first
      | exact Qb1 hQ (by simp only [isDg, inR]; rw [decide_eq_true (Int32.not_lt.mp c3), decide_eq_true (Int32.not_lt.mp c9)]; rfl)
      | exact Qb0 hQ (by simp only [isDg, inR]; rw [decide_eq_false (Int32.not_le.mpr c3)]; rfl)
      | exact Qb0 hQ (by simp only [isDg, inR]; rw [decide_eq_false (Int32.not_le.mpr c9), Bool.and_false])
  · refine F_iload_n dX1_isDigit_6 rfl ?_
    refine F_bipush (v := nI 57) dX1_isDigit_7 rfl ?_
    refine F_icmp_gt (tgt := 16) dX1_isDigit_9 rfl (fun c9 => ?_) (fun c9 => ?_)
    · refine F_iconst (v := nI 0) dX1_isDigit_16 rfl ?_
      refine F_zret dX1_isDigit_17 rfl (by first | exact Or.inl rfl | exact Or.inr rfl | exact bI_01 _) ?_
      first
        | exact Qb1 hQ (by simp only [isDg, inR]; rw [decide_eq_true (Int32.not_lt.mp c3), decide_eq_true (Int32.not_lt.mp c9)]; rfl)
        | exact Qb0 hQ (by simp only [isDg, inR]; rw [decide_eq_false (Int32.not_le.mpr c3)]; rfl)
        | exact Qb0 hQ (by simp only [isDg, inR]; rw [decide_eq_false (Int32.not_le.mpr c9), Bool.and_false])
    · refine F_iconst (v := nI 1) dX1_isDigit_12 rfl ?_
      refine F_goto (tgt := 17) dX1_isDigit_13 rfl ?_
      refine F_zret dX1_isDigit_17 rfl (by first | exact Or.inl rfl | exact Or.inr rfl | exact bI_01 _) ?_
      first
        | exact Qb1 hQ (by simp only [isDg, inR]; rw [decide_eq_true (Int32.not_lt.mp c3), decide_eq_true (Int32.not_lt.mp c9)]; rfl)
        | exact Qb0 hQ (by simp only [isDg, inR]; rw [decide_eq_false (Int32.not_le.mpr c3)]; rfl)
        | exact Qb0 hQ (by simp only [isDg, inR]; rw [decide_eq_false (Int32.not_le.mpr c9), Bool.and_false])

theorem v_isBlank (v : Int32) : mV G mX1_isBlank d [.int v] σ (some (.int (bI (isBl v)))) σ := by
  refine mV_of fun Q hQ => ?_
  refine F_iload_n dX1_isBlank_0 rfl ?_
  refine F_bipush (v := nI 32) dX1_isBlank_1 rfl ?_
  refine F_icmp_eq (tgt := 12) dX1_isBlank_3 rfl (fun c3 => ?_) (fun c3 => ?_)
  · refine F_iconst (v := nI 1) dX1_isBlank_12 rfl ?_
    refine F_goto (tgt := 17) dX1_isBlank_13 rfl ?_
    refine F_zret dX1_isBlank_17 rfl (by first | exact Or.inl rfl | exact Or.inr rfl | exact bI_01 _) ?_
    first
      | exact Qb1 hQ (by simp only [isBl]; rw [decide_eq_true c3]; rfl)
      | exact Qb1 hQ (by simp only [isBl]; rw [decide_eq_true c9, Bool.or_true])
      | exact Qb0 hQ (by simp only [isBl]; rw [decide_eq_false c3, decide_eq_false c9]; rfl)
  · refine F_iload_n dX1_isBlank_6 rfl ?_
    refine F_bipush (v := nI 10) dX1_isBlank_7 rfl ?_
    refine F_icmp_ne (tgt := 16) dX1_isBlank_9 rfl (fun c9 => ?_) (fun c9 => ?_)
    · refine F_iconst (v := nI 0) dX1_isBlank_16 rfl ?_
      refine F_zret dX1_isBlank_17 rfl (by first | exact Or.inl rfl | exact Or.inr rfl | exact bI_01 _) ?_
      first
        | exact Qb1 hQ (by simp only [isBl]; rw [decide_eq_true c3]; rfl)
        | exact Qb1 hQ (by simp only [isBl]; rw [decide_eq_true c9, Bool.or_true])
        | exact Qb0 hQ (by simp only [isBl]; rw [decide_eq_false c3, decide_eq_false c9]; rfl)
    · refine F_iconst (v := nI 1) dX1_isBlank_12 rfl ?_
      refine F_goto (tgt := 17) dX1_isBlank_13 rfl ?_
      refine F_zret dX1_isBlank_17 rfl (by first | exact Or.inl rfl | exact Or.inr rfl | exact bI_01 _) ?_
      first
        | exact Qb1 hQ (by simp only [isBl]; rw [decide_eq_true c3]; rfl)
        | exact Qb1 hQ (by simp only [isBl]; rw [decide_eq_true c9, Bool.or_true])
        | exact Qb0 hQ (by simp only [isBl]; rw [decide_eq_false c3, decide_eq_false c9]; rfl)

theorem v_endOfWord {L a : Nat} (hL : σ 14 1 = nI L) (h4 : L ≤ 400) (ha : a ≤ L) : mV G mX1_endOfWord (d + 1) [.ref 14, .int (nI a)] σ (some (.int (nI (rn isLt (σ 15) L a)))) σ := by
  refine mV_of fun Q hQ => ?_
  have hl : ∀ k e, e + k = L → rn isLt (σ 15) L a = rn isLt (σ 15) L e → mF G mX1_endOfWord (d + 1) 2 [some (.ref 14), some (.int (nI a)), some (.int (nI e))] [] σ Q := by
    intro k
    induction k with
    | zero =>
      intro e he hr
      have e1 : e = L := by omega
      subst e1
      rw [rn_end (Nat.le_refl e)] at hr
      refine F_iload_n dX1_endOfWord_2 rfl ?_
      refine F_aload_n dX1_endOfWord_3 rfl ?_
      refine F_getE (v := nI e) dX1_endOfWord_4 rfl rfl (by first | assumption | rfl) rfl hL ?_
      refine F_icmp_geN (tgt := 28) dX1_endOfWord_7 rfl (by omega) (by omega) (fun c7 => ?_) (fun c7 => ?_)
      · refine F_iload_n dX1_endOfWord_28 rfl ?_
        refine F_iret dX1_endOfWord_29 rfl ?_
        rw [hr] at hQ
        exact hQ
      · exact absurd c7 (by omega)
    | succ k ih =>
      intro e he hr
      refine F_iload_n dX1_endOfWord_2 rfl ?_
      refine F_aload_n dX1_endOfWord_3 rfl ?_
      refine F_getE (v := nI L) dX1_endOfWord_4 rfl rfl (by first | assumption | rfl) rfl hL ?_
      refine F_icmp_geN (tgt := 28) dX1_endOfWord_7 rfl (by omega) (by omega) (fun c7 => ?_) (fun c7 => ?_)
      · exact absurd c7 (by omega)
      · refine F_aload_n dX1_endOfWord_10 rfl ?_
        refine F_getr dX1_endOfWord_11 rfl rfl (by first | assumption | rfl) rfl ?_
        refine F_iload_n dX1_endOfWord_14 rfl ?_
        refine F_bald dX1_endOfWord_15 (by first | assumption | rfl) (by decide) (by omega) ?_
        refine F_cS1i (v_isLetter (d := d) _) dX1_endOfWord_16 rfl rfl rfl (by decide) (Nat.le_of_ble_eq_true rfl) (by omega) ?_
        refine F_if_eqB (tgt := 28) dX1_endOfWord_19 rfl (fun c19 => ?_) (fun c19 => ?_)
        · refine F_iload_n dX1_endOfWord_28 rfl ?_
          refine F_iret dX1_endOfWord_29 rfl ?_
          rw [hr, rn_f c19] at hQ
          exact hQ
        · refine F_iincN dX1_endOfWord_22 rfl ?_
          refine F_goto (tgt := 2) dX1_endOfWord_25 rfl ?_
          exact ih (e + 1) (by omega) (by rw [hr, rn_t (by omega) c19])
  refine F_iload_n dX1_endOfWord_0 rfl ?_
  refine F_istore_n dX1_endOfWord_1 (Nat.le_of_ble_eq_true rfl) ?_
  exact hl (L - a) a (by omega) rfl

theorem v_endOfInt {L a : Nat} (hL : σ 14 1 = nI L) (h4 : L ≤ 400) (ha : a ≤ L) : mV G mX1_endOfInt (d + 1) [.ref 14, .int (nI a)] σ (some (.int (nI (rn isDg (σ 15) L a)))) σ := by
  refine mV_of fun Q hQ => ?_
  have hl : ∀ k e, e + k = L → rn isDg (σ 15) L a = rn isDg (σ 15) L e → mF G mX1_endOfInt (d + 1) 2 [some (.ref 14), some (.int (nI a)), some (.int (nI e))] [] σ Q := by
    intro k
    induction k with
    | zero =>
      intro e he hr
      have e1 : e = L := by omega
      subst e1
      rw [rn_end (Nat.le_refl e)] at hr
      refine F_iload_n dX1_endOfInt_2 rfl ?_
      refine F_aload_n dX1_endOfInt_3 rfl ?_
      refine F_getE (v := nI e) dX1_endOfInt_4 rfl rfl (by first | assumption | rfl) rfl hL ?_
      refine F_icmp_geN (tgt := 28) dX1_endOfInt_7 rfl (by omega) (by omega) (fun c7 => ?_) (fun c7 => ?_)
      · refine F_iload_n dX1_endOfInt_28 rfl ?_
        refine F_iret dX1_endOfInt_29 rfl ?_
        rw [hr] at hQ
        exact hQ
      · exact absurd c7 (by omega)
    | succ k ih =>
      intro e he hr
      refine F_iload_n dX1_endOfInt_2 rfl ?_
      refine F_aload_n dX1_endOfInt_3 rfl ?_
      refine F_getE (v := nI L) dX1_endOfInt_4 rfl rfl (by first | assumption | rfl) rfl hL ?_
      refine F_icmp_geN (tgt := 28) dX1_endOfInt_7 rfl (by omega) (by omega) (fun c7 => ?_) (fun c7 => ?_)
      · exact absurd c7 (by omega)
      · refine F_aload_n dX1_endOfInt_10 rfl ?_
        refine F_getr dX1_endOfInt_11 rfl rfl (by first | assumption | rfl) rfl ?_
        refine F_iload_n dX1_endOfInt_14 rfl ?_
        refine F_bald dX1_endOfInt_15 (by first | assumption | rfl) (by decide) (by omega) ?_
        refine F_cS1i (v_isDigit (d := d) _) dX1_endOfInt_16 rfl rfl rfl (by decide) (Nat.le_of_ble_eq_true rfl) (by omega) ?_
        refine F_if_eqB (tgt := 28) dX1_endOfInt_19 rfl (fun c19 => ?_) (fun c19 => ?_)
        · refine F_iload_n dX1_endOfInt_28 rfl ?_
          refine F_iret dX1_endOfInt_29 rfl ?_
          rw [hr, rn_f c19] at hQ
          exact hQ
        · refine F_iincN dX1_endOfInt_22 rfl ?_
          refine F_goto (tgt := 2) dX1_endOfInt_25 rfl ?_
          exact ih (e + 1) (by omega) (by rw [hr, rn_t (by omega) c19])
  refine F_iload_n dX1_endOfInt_0 rfl ?_
  refine F_istore_n dX1_endOfInt_1 (Nat.le_of_ble_eq_true rfl) ?_
  exact hl (L - a) a (by omega) rfl

theorem nv_big (b : Nat → Int32) (p : Nat) {m : Nat} (h : 4 < m) : nv b p m = 10000 := by
  cases m with
  | zero => omega
  | succ m => simp only [nv]; rw [if_neg (by omega)]
theorem nv_s (b : Nat → Int32) (p : Nat) {m : Nat} (h : m < 4) : nv b p (m + 1) = 10 * nv b p m + dgt (b (p + m)) := by simp only [nv]; rw [if_pos h]
theorem v_numberAt {a e : Nat} (ha : a ≤ e) (he : e ≤ 400) (hd : ∀ k, a ≤ k → k < e → isDg (σ 15 k) = true) : mV G mX1_numberAt d [.ref 14, .int (nI a), .int (nI e)] σ (some (.int (nI (nv (σ 15) a (e - a))))) σ := by
  refine mV_of fun Q hQ => ?_
  by_cases h4 : 4 < e - a
  · rw [nv_big _ _ h4] at hQ
    refine F_iload_n dX1_numberAt_0 rfl ?_
    refine F_iload_n dX1_numberAt_1 rfl ?_
    refine F_isubN dX1_numberAt_2 (by omega) ?_
    refine F_iconst (v := nI 4) dX1_numberAt_3 rfl ?_
    refine F_icmp_leN (tgt := 11) dX1_numberAt_4 rfl (by omega) (by omega) (fun c4 => ?_) (fun c4 => ?_)
    · exact absurd c4 (by omega)
    · refine F_sipush (v := nI 10000) dX1_numberAt_7 rfl ?_
      refine F_iret dX1_numberAt_10 rfl ?_
      exact hQ
  · have hl : ∀ m, m ≤ e - a → mF G mX1_numberAt d 16 [some (.ref 14), some (.int (nI a)), some (.int (nI e)), some (.int (nI (nv (σ 15) a m))), some (.int (nI (a + m)))] [] σ Q := by
      refine loopUp (e - a) (fun m hm ih => ?_)
      by_cases hme : m = e - a
      · subst hme
        refine F_iload dX1_numberAt_16 rfl ?_
        refine F_iload_n dX1_numberAt_18 rfl ?_
        refine F_icmp_geN (tgt := 44) dX1_numberAt_19 rfl (by omega) (by omega) (fun c19 => ?_) (fun c19 => ?_)
        · refine F_iload_n dX1_numberAt_44 rfl ?_
          refine F_iret dX1_numberAt_45 rfl ?_
          exact hQ
        · exact absurd c19 (by omega)
      · obtain ⟨t, t1, t2, et, ed⟩ := dg_n (hd (a + m) (by omega) (by omega))
        have eN := nv_s (σ 15) a (m := m) (by omega)
        rw [ed] at eN
        refine F_iload dX1_numberAt_16 rfl ?_
        refine F_iload_n dX1_numberAt_18 rfl ?_
        refine F_icmp_geN (tgt := 44) dX1_numberAt_19 rfl (by omega) (by omega) (fun c19 => ?_) (fun c19 => ?_)
        · exact absurd c19 (by omega)
        · refine F_iload_n dX1_numberAt_22 rfl ?_
          refine F_bipush (v := nI 10) dX1_numberAt_23 rfl ?_
          refine F_imulN dX1_numberAt_25 ?_
          refine F_aload_n dX1_numberAt_26 rfl ?_
          refine F_getr dX1_numberAt_27 rfl rfl (by first | assumption | rfl) rfl ?_
          refine F_iload dX1_numberAt_30 rfl ?_
          refine F_baldE (v := nI t) dX1_numberAt_32 (by first | assumption | rfl) (by decide) (by omega) et ?_
          refine F_iaddN dX1_numberAt_33 ?_
          refine F_bipush (v := nI 48) dX1_numberAt_34 rfl ?_
          refine F_isubN dX1_numberAt_36 (by omega) ?_
          refine F_top (y := nI (nv (σ 15) a (m + 1))) (by rw [eN]; congr 1; omega) ?_
          refine F_istore_n dX1_numberAt_37 (Nat.le_of_ble_eq_true rfl) ?_
          refine F_iincN dX1_numberAt_38 rfl ?_
          refine F_goto (tgt := 16) dX1_numberAt_41 rfl ?_
          exact ih (by omega)
    refine F_iload_n dX1_numberAt_0 rfl ?_
    refine F_iload_n dX1_numberAt_1 rfl ?_
    refine F_isubN dX1_numberAt_2 (by omega) ?_
    refine F_iconst (v := nI 4) dX1_numberAt_3 rfl ?_
    refine F_icmp_leN (tgt := 11) dX1_numberAt_4 rfl (by omega) (by omega) (fun c4 => ?_) (fun c4 => ?_)
    · refine F_iconst (v := nI 0) dX1_numberAt_11 rfl ?_
      refine F_istore_n dX1_numberAt_12 (Nat.le_of_ble_eq_true rfl) ?_
      refine F_iload_n dX1_numberAt_13 rfl ?_
      refine F_istore dX1_numberAt_14 (Nat.le_of_ble_eq_true rfl) ?_
      exact hl 0 (by omega)
    · exact absurd (show e - a ≤ 4 by omega) c4

/-- the token of a sign -/
def sgn (v : Int32) : Nat := if v = nI 40 then 13 else if v = nI 41 then 14 else if v = nI 59 then 15 else 17
theorem v_signOf (v : Int32) : mV G mX1_signOf d [.int v] σ (some (.int (nI (sgn v)))) σ := by
  refine mV_of fun Q hQ => ?_
  by_cases h0 : v = nI 40
  · subst h0
    refine F_iload_n dX1_signOf_0 rfl ?_
    refine F_lookup (off := 35) (tgt := 36) dX1_signOf_1 (by decide +kernel) (by decide +kernel) rfl ?_
    refine F_bipush (v := nI 13) dX1_signOf_36 rfl ?_
    refine F_iret dX1_signOf_38 rfl ?_
    exact hQ
  · by_cases h1 : v = nI 41
    · subst h1
      refine F_iload_n dX1_signOf_0 rfl ?_
      refine F_lookup (off := 38) (tgt := 39) dX1_signOf_1 (by decide +kernel) (by decide +kernel) rfl ?_
      refine F_bipush (v := nI 14) dX1_signOf_39 rfl ?_
      refine F_iret dX1_signOf_41 rfl ?_
      exact hQ
    · by_cases h2 : v = nI 59
      · subst h2
        refine F_iload_n dX1_signOf_0 rfl ?_
        refine F_lookup (off := 41) (tgt := 42) dX1_signOf_1 (by decide +kernel) (by decide +kernel) rfl ?_
        refine F_bipush (v := nI 15) dX1_signOf_42 rfl ?_
        refine F_iret dX1_signOf_44 rfl ?_
        exact hQ
      · have n0 : ¬ v.toInt = 40 := fun z => h0 (Int32.toInt_inj.mp (by rw [z]; rfl))
        have n1 : ¬ v.toInt = 41 := fun z => h1 (Int32.toInt_inj.mp (by rw [z]; rfl))
        have n2 : ¬ v.toInt = 59 := fun z => h2 (Int32.toInt_inj.mp (by rw [z]; rfl))
        have es : sgn v = 17 := by unfold sgn; rw [if_neg h0, if_neg h1, if_neg h2]
        rw [es] at hQ
        refine F_iload_n dX1_signOf_0 rfl ?_
        refine F_lookup (off := 44) (tgt := 45) dX1_signOf_1 (by decide +kernel) (by simp [Op.lookupswitch.offset, n0, n1, n2, Ne.symm n0, Ne.symm n1, Ne.symm n2]) rfl ?_
        refine F_bipush (v := nI 17) dX1_signOf_45 rfl ?_
        refine F_iret dX1_signOf_47 rfl ?_
        exact hQ

theorem v_note {s : Nat} (t p v : Int32) (hs : σ 14 5 = nI s) (h4 : s ≤ 400) : mV G mX1_note d [.ref 14, .int t, .int p, .int v] σ none (up (up (up (up σ 16 s t) 17 s p) 18 s v) 14 5 (nI (s + 1))) := by
  refine mV_of fun Q hQ => ?_
  refine F_aload_n dX1_note_0 rfl ?_
  refine F_getE (v := nI s) dX1_note_1 rfl rfl (by first | assumption | rfl) rfl hs ?_
  refine F_sipush (v := nI 400) dX1_note_4 rfl ?_
  refine F_icmp_gtN (tgt := 50) dX1_note_7 rfl (by omega) (by omega) (fun c7 => ?_) (fun c7 => ?_)
  · exact absurd c7 (by omega)
  · refine F_aload_n dX1_note_10 rfl ?_
    refine F_getr dX1_note_11 rfl rfl (by first | assumption | rfl) rfl ?_
    refine F_aload_n dX1_note_14 rfl ?_
    refine F_getE (v := nI s) dX1_note_15 rfl rfl (by first | assumption | rfl) rfl hs ?_
    refine F_iload_n dX1_note_18 rfl ?_
    refine F_iast dX1_note_19 (by first | assumption | rfl) (by decide) (by omega) ?_
    refine F_aload_n dX1_note_20 rfl ?_
    refine F_getr dX1_note_21 rfl rfl (by first | assumption | rfl) rfl ?_
    refine F_aload_n dX1_note_24 rfl ?_
    refine F_getE (v := nI s) dX1_note_25 rfl rfl (by first | assumption | rfl) rfl hs ?_
    refine F_iload_n dX1_note_28 rfl ?_
    refine F_iast dX1_note_29 (by first | assumption | rfl) (by decide) (by omega) ?_
    refine F_aload_n dX1_note_30 rfl ?_
    refine F_getr dX1_note_31 rfl rfl (by first | assumption | rfl) rfl ?_
    refine F_aload_n dX1_note_34 rfl ?_
    refine F_getE (v := nI s) dX1_note_35 rfl rfl (by first | assumption | rfl) rfl hs ?_
    refine F_iload_n dX1_note_38 rfl ?_
    refine F_iast dX1_note_39 (by first | assumption | rfl) (by decide) (by omega) ?_
    refine F_aload_n dX1_note_40 rfl ?_
    refine F_dup dX1_note_41 rfl ?_
    refine F_getE (v := nI s) dX1_note_42 rfl rfl (by first | assumption | rfl) rfl hs ?_
    refine F_iconst (v := nI 1) dX1_note_45 rfl ?_
    refine F_iaddN dX1_note_46 ?_
    refine F_put dX1_note_47 rfl rfl (by first | assumption | rfl) rfl rfl rfl rfl ?_
    refine F_vret dX1_note_50 rfl ?_
    exact hQ

/-- the byte at p as here answers it -/
def hrV (b : Nat → Int32) (L p : Nat) : Int32 := if p < L then b p &&& nI 255 else -1
theorem v_here {L a : Nat} (hL : σ 116 8 = nI L) (h4 : L ≤ 400) (ha : a ≤ L) (hat : σ 116 9 = nI a) : mV G mX5_here d [.ref 116] σ (some (.int (hrV (σ 120) L (rn isBl (σ 120) L a)))) (up σ 116 9 (nI (rn isBl (σ 120) L a))) := by
  refine mV_of fun Q hQ => ?_
  have hl : ∀ k e, e + k = L → rn isBl (σ 120) L a = rn isBl (σ 120) L e → mF G mX5_here d 0 [some (.ref 116)] [] (up σ 116 9 (nI e)) Q := by
    intro k
    induction k with
    | zero =>
      intro e he hr
      have e1 : e = L := by omega
      subst e1
      rw [rn_end (Nat.le_refl e)] at hr
      have e2 : hrV (σ 120) e e = -1 := if_neg (Nat.lt_irrefl e)
      rw [hr, e2] at hQ
      refine F_aload_n dX5_here_0 rfl ?_
      refine F_getE (v := nI e) dX5_here_1 rfl rfl (by first | assumption | rfl) rfl rfl ?_
      refine F_aload_n dX5_here_4 rfl ?_
      refine F_getE (v := nI e) dX5_here_5 rfl rfl (by first | assumption | rfl) rfl hL ?_
      refine F_icmp_geN (tgt := 52) dX5_here_8 rfl (by omega) (by omega) (fun c8 => ?_) (fun c8 => ?_)
      · refine F_aload_n dX5_here_52 rfl ?_
        refine F_getE (v := nI e) dX5_here_53 rfl rfl (by first | assumption | rfl) rfl rfl ?_
        refine F_aload_n dX5_here_56 rfl ?_
        refine F_getE (v := nI e) dX5_here_57 rfl rfl (by first | assumption | rfl) rfl hL ?_
        refine F_icmp_geN (tgt := 79) dX5_here_60 rfl (by omega) (by omega) (fun c60 => ?_) (fun c60 => ?_)
        · refine F_iconst (v := (-1)) dX5_here_79 rfl ?_
          refine F_iret dX5_here_80 rfl ?_
          exact hQ
        · exact absurd c60 (by omega)
      · exact absurd c8 (by omega)
    | succ k ih =>
      intro e he hr
      by_cases hb : isBl (σ 120 e) = true
      · have ih := ih (e + 1) (by omega) (by rw [hr, rn_t (by omega) hb])
        rw [← up_up σ 116 9 (nI e)] at ih
        simp only [isBl, Bool.or_eq_true, decide_eq_true_eq] at hb
        refine F_aload_n dX5_here_0 rfl ?_
        refine F_getE (v := nI e) dX5_here_1 rfl rfl (by first | assumption | rfl) rfl rfl ?_
        refine F_aload_n dX5_here_4 rfl ?_
        refine F_getE (v := nI L) dX5_here_5 rfl rfl (by first | assumption | rfl) rfl hL ?_
        refine F_icmp_geN (tgt := 52) dX5_here_8 rfl (by omega) (by omega) (fun c8 => ?_) (fun c8 => ?_)
        · exact absurd c8 (by omega)
        · refine F_aload_n dX5_here_11 rfl ?_
          refine F_getr dX5_here_12 rfl rfl (by first | assumption | rfl) rfl ?_
          refine F_aload_n dX5_here_15 rfl ?_
          refine F_getE (v := nI e) dX5_here_16 rfl rfl (by first | assumption | rfl) rfl rfl ?_
          refine F_bald dX5_here_19 (by first | assumption | rfl) (by decide) (by omega) ?_
          refine F_bipush (v := nI 32) dX5_here_20 rfl ?_
          refine F_icmp_eq (tgt := 39) dX5_here_22 rfl (fun c22 => ?_) (fun c22 => ?_)
          · refine F_aload_n dX5_here_39 rfl ?_
            refine F_dup dX5_here_40 rfl ?_
            refine F_getE (v := nI e) dX5_here_41 rfl rfl (by first | assumption | rfl) rfl rfl ?_
            refine F_iconst (v := nI 1) dX5_here_44 rfl ?_
            refine F_iaddN dX5_here_45 ?_
            refine F_put dX5_here_46 rfl rfl (by first | assumption | rfl) rfl rfl rfl rfl ?_
            refine F_goto (tgt := 0) dX5_here_49 rfl ?_
            exact ih
          · refine F_aload_n dX5_here_25 rfl ?_
            refine F_getr dX5_here_26 rfl rfl (by first | assumption | rfl) rfl ?_
            refine F_aload_n dX5_here_29 rfl ?_
            refine F_getE (v := nI e) dX5_here_30 rfl rfl (by first | assumption | rfl) rfl rfl ?_
            refine F_bald dX5_here_33 (by first | assumption | rfl) (by decide) (by omega) ?_
            refine F_bipush (v := nI 10) dX5_here_34 rfl ?_
            refine F_icmp_ne (tgt := 52) dX5_here_36 rfl (fun c36 => ?_) (fun c36 => ?_)
            · exact absurd (Or.elim hb (fun z => absurd z c22) id) c36
            · refine F_aload_n dX5_here_39 rfl ?_
              refine F_dup dX5_here_40 rfl ?_
              refine F_getE (v := nI e) dX5_here_41 rfl rfl (by first | assumption | rfl) rfl rfl ?_
              refine F_iconst (v := nI 1) dX5_here_44 rfl ?_
              refine F_iaddN dX5_here_45 ?_
              refine F_put dX5_here_46 rfl rfl (by first | assumption | rfl) rfl rfl rfl rfl ?_
              refine F_goto (tgt := 0) dX5_here_49 rfl ?_
              exact ih
      · have hb := Bool.not_eq_true _ ▸ hb
        rw [hr, rn_f hb] at hQ
        have e2 : hrV (σ 120) L e = σ 120 e &&& nI 255 := if_pos (by omega)
        rw [e2] at hQ
        simp only [isBl, Bool.or_eq_false_iff, decide_eq_false_iff_not] at hb
        refine F_aload_n dX5_here_0 rfl ?_
        refine F_getE (v := nI e) dX5_here_1 rfl rfl (by first | assumption | rfl) rfl rfl ?_
        refine F_aload_n dX5_here_4 rfl ?_
        refine F_getE (v := nI L) dX5_here_5 rfl rfl (by first | assumption | rfl) rfl hL ?_
        refine F_icmp_geN (tgt := 52) dX5_here_8 rfl (by omega) (by omega) (fun c8 => ?_) (fun c8 => ?_)
        · exact absurd c8 (by omega)
        · refine F_aload_n dX5_here_11 rfl ?_
          refine F_getr dX5_here_12 rfl rfl (by first | assumption | rfl) rfl ?_
          refine F_aload_n dX5_here_15 rfl ?_
          refine F_getE (v := nI e) dX5_here_16 rfl rfl (by first | assumption | rfl) rfl rfl ?_
          refine F_bald dX5_here_19 (by first | assumption | rfl) (by decide) (by omega) ?_
          refine F_bipush (v := nI 32) dX5_here_20 rfl ?_
          refine F_icmp_eq (tgt := 39) dX5_here_22 rfl (fun c22 => ?_) (fun c22 => ?_)
          · exact absurd c22 hb.1
          · refine F_aload_n dX5_here_25 rfl ?_
            refine F_getr dX5_here_26 rfl rfl (by first | assumption | rfl) rfl ?_
            refine F_aload_n dX5_here_29 rfl ?_
            refine F_getE (v := nI e) dX5_here_30 rfl rfl (by first | assumption | rfl) rfl rfl ?_
            refine F_bald dX5_here_33 (by first | assumption | rfl) (by decide) (by omega) ?_
            refine F_bipush (v := nI 10) dX5_here_34 rfl ?_
            refine F_icmp_ne (tgt := 52) dX5_here_36 rfl (fun c36 => ?_) (fun c36 => ?_)
            · refine F_aload_n dX5_here_52 rfl ?_
              refine F_getE (v := nI e) dX5_here_53 rfl rfl (by first | assumption | rfl) rfl rfl ?_
              refine F_aload_n dX5_here_56 rfl ?_
              refine F_getE (v := nI L) dX5_here_57 rfl rfl (by first | assumption | rfl) rfl hL ?_
              refine F_icmp_geN (tgt := 79) dX5_here_60 rfl (by omega) (by omega) (fun c60 => ?_) (fun c60 => ?_)
              · exact absurd c60 (by omega)
              · refine F_aload_n dX5_here_63 rfl ?_
                refine F_getr dX5_here_64 rfl rfl (by first | assumption | rfl) rfl ?_
                refine F_aload_n dX5_here_67 rfl ?_
                refine F_getE (v := nI e) dX5_here_68 rfl rfl (by first | assumption | rfl) rfl rfl ?_
                refine F_bald dX5_here_71 (by first | assumption | rfl) (by decide) (by omega) ?_
                refine F_sipush (v := nI 255) dX5_here_72 rfl ?_
                refine F_iand dX5_here_75 ?_
                refine F_goto (tgt := 80) dX5_here_76 rfl ?_
                refine F_iret dX5_here_80 rfl ?_
                exact hQ
            · exact absurd c36 hb.2
  have h0 := hl (L - a) a (by omega) rfl
  rw [← hat, up_self] at h0
  exact h0

theorem v_failsA (k w : Int32) (h : ¬ σ 116 7 = 0) : mV G mX5_fails d [.ref 116, .int k, .int w] σ none σ := by
  refine mV_of fun Q hQ => ?_
  refine F_aload_n dX5_fails_0 rfl ?_
  refine F_geti dX5_fails_1 rfl rfl (by first | assumption | rfl) rfl ?_
  refine F_if_ne (tgt := 17) dX5_fails_4 rfl (fun c4 => ?_) (fun c4 => ?_)
  · refine F_vret dX5_fails_17 rfl ?_
    exact hQ
  · exact absurd c4 h

theorem v_failsB (k w : Nat) (h : σ 116 7 = nI 0) : mV G mX5_fails d [.ref 116, .int (nI k), .int (nI w)] σ none (up σ 116 7 (nI (k + 8 * w))) := by
  refine mV_of fun Q hQ => ?_
  refine F_aload_n dX5_fails_0 rfl ?_
  refine F_getE (v := nI 0) dX5_fails_1 rfl rfl (by first | assumption | rfl) rfl h ?_
  refine F_if_neN (tgt := 17) dX5_fails_4 rfl (by omega) (fun c4 => ?_) (fun c4 => ?_)
  · exact absurd rfl c4
  · refine F_aload_n dX5_fails_7 rfl ?_
    refine F_iload_n dX5_fails_8 rfl ?_
    refine F_bipush (v := nI 8) dX5_fails_9 rfl ?_
    refine F_iload_n dX5_fails_11 rfl ?_
    refine F_imulN dX5_fails_12 ?_
    refine F_iaddN dX5_fails_13 ?_
    refine F_put dX5_fails_14 rfl rfl (by first | assumption | rfl) rfl rfl rfl rfl ?_
    refine F_vret dX5_fails_17 rfl ?_
    exact hQ

theorem hr_dg {b : Nat → Int32} {L p : Nat} (hb : ∀ i, i < L → isByte (b i)) : inR (hrV b L p) (nI 48) (nI 57) = (decide (p < L) && isDg (b p)) := by
  unfold hrV
  by_cases h : p < L
  · rw [if_pos h, by_dg (hb p h), decide_eq_true h, Bool.true_and]
  · rw [if_neg h, decide_eq_false h, Bool.false_and]
    decide +kernel
theorem v_isNumber {L a : Nat} (hL : σ 116 8 = nI L) (h4 : L ≤ 400) (ha : a ≤ L) (hat : σ 116 9 = nI a) (hb : ∀ i, i < L → isByte (σ 120 i)) : mV G mX5_isNumber (d + 1) [.ref 116] σ (some (.int (bI (decide (rn isBl (σ 120) L a < L) && isDg (σ 120 (rn isBl (σ 120) L a)))))) (up σ 116 9 (nI (rn isBl (σ 120) L a))) := by
  refine mV_of fun Q hQ => ?_
  refine F_aload_n dX5_isNumber_0 rfl ?_
  refine F_cV0i (v_here (d := d) hL h4 ha hat) dX5_isNumber_1 rfl rfl (by decide) (by first | assumption | rfl) rfl rfl rfl (by decide) (Nat.le_of_ble_eq_true rfl) (by omega) ?_
  refine F_bipush (v := nI 48) dX5_isNumber_4 rfl ?_
  refine F_bipush (v := nI 57) dX5_isNumber_6 rfl ?_
  refine F_cS3i (v_isIn (d := d) _ _ _) dX5_isNumber_8 rfl rfl rfl (by decide) (Nat.le_of_ble_eq_true rfl) (by omega) ?_
  refine F_zret dX5_isNumber_11 rfl (by first | exact Or.inl rfl | exact Or.inr rfl | exact bI_01 _) ?_
  rw [hr_dg hb]
  exact hQ

end TP
