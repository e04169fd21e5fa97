/-! ===== the reference: small methods ===== -/
theorem dX5_isIn_0 : decode cX5_isIn 0 = .ok (.iload_n 0, 1) := by decide +kernel
theorem dX5_isIn_1 : decode cX5_isIn 1 = .ok (.iload_n 1, 1) := by decide +kernel
theorem dX5_isIn_2 : decode cX5_isIn 2 = .ok (.if_icmp .lt 12, 3) := by decide +kernel
theorem dX5_isIn_5 : decode cX5_isIn 5 = .ok (.iload_n 0, 1) := by decide +kernel
theorem dX5_isIn_6 : decode cX5_isIn 6 = .ok (.iload_n 2, 1) := by decide +kernel
theorem dX5_isIn_7 : decode cX5_isIn 7 = .ok (.if_icmp .gt 7, 3) := by decide +kernel
theorem dX5_isIn_10 : decode cX5_isIn 10 = .ok (.iconst 1, 1) := by decide +kernel
theorem dX5_isIn_11 : decode cX5_isIn 11 = .ok (.goto 4, 3) := by decide +kernel
theorem dX5_isIn_14 : decode cX5_isIn 14 = .ok (.iconst 0, 1) := by decide +kernel
theorem dX5_isIn_15 : decode cX5_isIn 15 = .ok (.ireturn, 1) := by decide +kernel
theorem dX5_of_0 : decode cX5_of 0 = .ok (.aload_n 0, 1) := by decide +kernel
theorem dX5_of_1 : decode cX5_of 1 = .ok (.getfield 7, 3) := by decide +kernel
theorem dX5_of_4 : decode cX5_of 4 = .ok (.bipush 6, 2) := by decide +kernel
theorem dX5_of_6 : decode cX5_of 6 = .ok (.iload_n 1, 1) := by decide +kernel
theorem dX5_of_7 : decode cX5_of 7 = .ok (.iadd, 1) := by decide +kernel
theorem dX5_of_8 : decode cX5_of 8 = .ok (.iaload, 1) := by decide +kernel
theorem dX5_of_9 : decode cX5_of 9 = .ok (.ireturn, 1) := by decide +kernel
theorem dX5_groups_0 : decode cX5_groups 0 = .ok (.aload_n 0, 1) := by decide +kernel
theorem dX5_groups_1 : decode cX5_groups 1 = .ok (.getfield 7, 3) := by decide +kernel
theorem dX5_groups_4 : decode cX5_groups 4 = .ok (.bipush 23, 2) := by decide +kernel
theorem dX5_groups_6 : decode cX5_groups 6 = .ok (.iaload, 1) := by decide +kernel
theorem dX5_groups_7 : decode cX5_groups 7 = .ok (.ireturn, 1) := by decide +kernel
theorem dX5_camps_0 : decode cX5_camps 0 = .ok (.aload_n 0, 1) := by decide +kernel
theorem dX5_camps_1 : decode cX5_camps 1 = .ok (.getfield 7, 3) := by decide +kernel
theorem dX5_camps_4 : decode cX5_camps 4 = .ok (.bipush 14, 2) := by decide +kernel
theorem dX5_camps_6 : decode cX5_camps 6 = .ok (.iaload, 1) := by decide +kernel
theorem dX5_camps_7 : decode cX5_camps 7 = .ok (.ireturn, 1) := by decide +kernel
theorem dX5_kindOf_0 : decode cX5_kindOf 0 = .ok (.aload_n 0, 1) := by decide +kernel
theorem dX5_kindOf_1 : decode cX5_kindOf 1 = .ok (.getfield 7, 3) := by decide +kernel
theorem dX5_kindOf_4 : decode cX5_kindOf 4 = .ok (.bipush 40, 2) := by decide +kernel
theorem dX5_kindOf_6 : decode cX5_kindOf 6 = .ok (.bipush 70, 2) := by decide +kernel
theorem dX5_kindOf_8 : decode cX5_kindOf 8 = .ok (.iload_n 1, 1) := by decide +kernel
theorem dX5_kindOf_9 : decode cX5_kindOf 9 = .ok (.imul, 1) := by decide +kernel
theorem dX5_kindOf_10 : decode cX5_kindOf 10 = .ok (.iadd, 1) := by decide +kernel
theorem dX5_kindOf_11 : decode cX5_kindOf 11 = .ok (.iload_n 2, 1) := by decide +kernel
theorem dX5_kindOf_12 : decode cX5_kindOf 12 = .ok (.iadd, 1) := by decide +kernel
theorem dX5_kindOf_13 : decode cX5_kindOf 13 = .ok (.iaload, 1) := by decide +kernel
theorem dX5_kindOf_14 : decode cX5_kindOf 14 = .ok (.ireturn, 1) := by decide +kernel
theorem dX5_isGroup_0 : decode cX5_isGroup 0 = .ok (.iload_n 1, 1) := by decide +kernel
theorem dX5_isGroup_1 : decode cX5_isGroup 1 = .ok (.iconst 0, 1) := by decide +kernel
theorem dX5_isGroup_2 : decode cX5_isGroup 2 = .ok (.aload_n 0, 1) := by decide +kernel
theorem dX5_isGroup_3 : decode cX5_isGroup 3 = .ok (.invokevirtual 64, 3) := by decide +kernel
theorem dX5_isGroup_6 : decode cX5_isGroup 6 = .ok (.iconst 1, 1) := by decide +kernel
theorem dX5_isGroup_7 : decode cX5_isGroup 7 = .ok (.isub, 1) := by decide +kernel
theorem dX5_isGroup_8 : decode cX5_isGroup 8 = .ok (.invokestatic 68, 3) := by decide +kernel
theorem dX5_isGroup_11 : decode cX5_isGroup 11 = .ok (.ireturn, 1) := by decide +kernel
theorem dX5_isDay_0 : decode cX5_isDay 0 = .ok (.iload_n 0, 1) := by decide +kernel
theorem dX5_isDay_1 : decode cX5_isDay 1 = .ok (.iconst 0, 1) := by decide +kernel
theorem dX5_isDay_2 : decode cX5_isDay 2 = .ok (.bipush 69, 2) := by decide +kernel
theorem dX5_isDay_4 : decode cX5_isDay 4 = .ok (.invokestatic 68, 3) := by decide +kernel
theorem dX5_isDay_7 : decode cX5_isDay 7 = .ok (.ireturn, 1) := by decide +kernel
theorem dX5_isOne_0 : decode cX5_isOne 0 = .ok (.aload_n 0, 1) := by decide +kernel
theorem dX5_isOne_1 : decode cX5_isOne 1 = .ok (.iload_n 1, 1) := by decide +kernel
theorem dX5_isOne_2 : decode cX5_isOne 2 = .ok (.invokevirtual 72, 3) := by decide +kernel
theorem dX5_isOne_5 : decode cX5_isOne 5 = .ok (.ifCond .eq 14, 3) := by decide +kernel
theorem dX5_isOne_8 : decode cX5_isOne 8 = .ok (.iload_n 2, 1) := by decide +kernel
theorem dX5_isOne_9 : decode cX5_isOne 9 = .ok (.invokestatic 76, 3) := by decide +kernel
theorem dX5_isOne_12 : decode cX5_isOne 12 = .ok (.ifCond .eq 7, 3) := by decide +kernel
theorem dX5_isOne_15 : decode cX5_isOne 15 = .ok (.iconst 1, 1) := by decide +kernel
theorem dX5_isOne_16 : decode cX5_isOne 16 = .ok (.goto 4, 3) := by decide +kernel
theorem dX5_isOne_19 : decode cX5_isOne 19 = .ok (.iconst 0, 1) := by decide +kernel
theorem dX5_isOne_20 : decode cX5_isOne 20 = .ok (.ireturn, 1) := by decide +kernel
theorem dX5_areDays_0 : decode cX5_areDays 0 = .ok (.aload_n 0, 1) := by decide +kernel
theorem dX5_areDays_1 : decode cX5_areDays 1 = .ok (.iload_n 1, 1) := by decide +kernel
theorem dX5_areDays_2 : decode cX5_areDays 2 = .ok (.iload_n 2, 1) := by decide +kernel
theorem dX5_areDays_3 : decode cX5_areDays 3 = .ok (.invokevirtual 79, 3) := by decide +kernel
theorem dX5_areDays_6 : decode cX5_areDays 6 = .ok (.ifCond .eq 19, 3) := by decide +kernel
theorem dX5_areDays_9 : decode cX5_areDays 9 = .ok (.iload_n 3, 1) := by decide +kernel
theorem dX5_areDays_10 : decode cX5_areDays 10 = .ok (.invokestatic 76, 3) := by decide +kernel
theorem dX5_areDays_13 : decode cX5_areDays 13 = .ok (.ifCond .eq 12, 3) := by decide +kernel
theorem dX5_areDays_16 : decode cX5_areDays 16 = .ok (.iload_n 2, 1) := by decide +kernel
theorem dX5_areDays_17 : decode cX5_areDays 17 = .ok (.iload_n 3, 1) := by decide +kernel
theorem dX5_areDays_18 : decode cX5_areDays 18 = .ok (.if_icmp .gt 7, 3) := by decide +kernel
theorem dX5_areDays_21 : decode cX5_areDays 21 = .ok (.iconst 1, 1) := by decide +kernel
theorem dX5_areDays_22 : decode cX5_areDays 22 = .ok (.goto 4, 3) := by decide +kernel
theorem dX5_areDays_25 : decode cX5_areDays 25 = .ok (.iconst 0, 1) := by decide +kernel
theorem dX5_areDays_26 : decode cX5_areDays 26 = .ok (.ireturn, 1) := by decide +kernel
theorem dX5_maySet_0 : decode cX5_maySet 0 = .ok (.iload_n 0, 1) := by decide +kernel
theorem dX5_maySet_1 : decode cX5_maySet 1 = .ok (.tableswitch 86 0 6 #[43, 43, 51, 51, 59, 69, 77], 43) := by decide +kernel
theorem dX5_maySet_44 : decode cX5_maySet 44 = .ok (.iload_n 1, 1) := by decide +kernel
theorem dX5_maySet_45 : decode cX5_maySet 45 = .ok (.iconst 2, 1) := by decide +kernel
theorem dX5_maySet_46 : decode cX5_maySet 46 = .ok (.bipush 99, 2) := by decide +kernel
theorem dX5_maySet_48 : decode cX5_maySet 48 = .ok (.invokestatic 68, 3) := by decide +kernel
theorem dX5_maySet_51 : decode cX5_maySet 51 = .ok (.ireturn, 1) := by decide +kernel
theorem dX5_maySet_52 : decode cX5_maySet 52 = .ok (.iload_n 1, 1) := by decide +kernel
theorem dX5_maySet_53 : decode cX5_maySet 53 = .ok (.iconst 1, 1) := by decide +kernel
theorem dX5_maySet_54 : decode cX5_maySet 54 = .ok (.bipush 9, 2) := by decide +kernel
theorem dX5_maySet_56 : decode cX5_maySet 56 = .ok (.invokestatic 68, 3) := by decide +kernel
theorem dX5_maySet_59 : decode cX5_maySet 59 = .ok (.ireturn, 1) := by decide +kernel
theorem dX5_maySet_60 : decode cX5_maySet 60 = .ok (.iload_n 1, 1) := by decide +kernel
theorem dX5_maySet_61 : decode cX5_maySet 61 = .ok (.bipush 100, 2) := by decide +kernel
theorem dX5_maySet_63 : decode cX5_maySet 63 = .ok (.sipush 400, 3) := by decide +kernel
theorem dX5_maySet_66 : decode cX5_maySet 66 = .ok (.invokestatic 68, 3) := by decide +kernel
theorem dX5_maySet_69 : decode cX5_maySet 69 = .ok (.ireturn, 1) := by decide +kernel
theorem dX5_maySet_70 : decode cX5_maySet 70 = .ok (.iload_n 1, 1) := by decide +kernel
theorem dX5_maySet_71 : decode cX5_maySet 71 = .ok (.iconst 1, 1) := by decide +kernel
theorem dX5_maySet_72 : decode cX5_maySet 72 = .ok (.bipush 14, 2) := by decide +kernel
theorem dX5_maySet_74 : decode cX5_maySet 74 = .ok (.invokestatic 68, 3) := by decide +kernel
theorem dX5_maySet_77 : decode cX5_maySet 77 = .ok (.ireturn, 1) := by decide +kernel
theorem dX5_maySet_78 : decode cX5_maySet 78 = .ok (.iload_n 1, 1) := by decide +kernel
theorem dX5_maySet_79 : decode cX5_maySet 79 = .ok (.iconst 0, 1) := by decide +kernel
theorem dX5_maySet_80 : decode cX5_maySet 80 = .ok (.sipush 2100, 3) := by decide +kernel
theorem dX5_maySet_83 : decode cX5_maySet 83 = .ok (.invokestatic 68, 3) := by decide +kernel
theorem dX5_maySet_86 : decode cX5_maySet 86 = .ok (.ireturn, 1) := by decide +kernel
theorem dX5_maySet_87 : decode cX5_maySet 87 = .ok (.iload_n 0, 1) := by decide +kernel
theorem dX5_maySet_88 : decode cX5_maySet 88 = .ok (.bipush 7, 2) := by decide +kernel
theorem dX5_maySet_90 : decode cX5_maySet 90 = .ok (.if_icmp .ne 19, 3) := by decide +kernel
theorem dX5_maySet_93 : decode cX5_maySet 93 = .ok (.iload_n 1, 1) := by decide +kernel
theorem dX5_maySet_94 : decode cX5_maySet 94 = .ok (.bipush 100, 2) := by decide +kernel
theorem dX5_maySet_96 : decode cX5_maySet 96 = .ok (.sipush 300, 3) := by decide +kernel
theorem dX5_maySet_99 : decode cX5_maySet 99 = .ok (.invokestatic 68, 3) := by decide +kernel
theorem dX5_maySet_102 : decode cX5_maySet 102 = .ok (.ifCond .eq 7, 3) := by decide +kernel
theorem dX5_maySet_105 : decode cX5_maySet 105 = .ok (.iconst 1, 1) := by decide +kernel
theorem dX5_maySet_106 : decode cX5_maySet 106 = .ok (.goto 4, 3) := by decide +kernel
theorem dX5_maySet_109 : decode cX5_maySet 109 = .ok (.iconst 0, 1) := by decide +kernel
theorem dX5_maySet_110 : decode cX5_maySet 110 = .ok (.ireturn, 1) := by decide +kernel
theorem dX5_comes_0 : decode cX5_comes 0 = .ok (.aload_n 0, 1) := by decide +kernel
theorem dX5_comes_1 : decode cX5_comes 1 = .ok (.invokevirtual 64, 3) := by decide +kernel
theorem dX5_comes_4 : decode cX5_comes 4 = .ok (.istore_n 3, 1) := by decide +kernel
theorem dX5_comes_5 : decode cX5_comes 5 = .ok (.aload_n 0, 1) := by decide +kernel
theorem dX5_comes_6 : decode cX5_comes 6 = .ok (.getfield 7, 3) := by decide +kernel
theorem dX5_comes_9 : decode cX5_comes 9 = .ok (.bipush 24, 2) := by decide +kernel
theorem dX5_comes_11 : decode cX5_comes 11 = .ok (.iconst 2, 1) := by decide +kernel
theorem dX5_comes_12 : decode cX5_comes 12 = .ok (.iload_n 3, 1) := by decide +kernel
theorem dX5_comes_13 : decode cX5_comes 13 = .ok (.imul, 1) := by decide +kernel
theorem dX5_comes_14 : decode cX5_comes 14 = .ok (.iadd, 1) := by decide +kernel
theorem dX5_comes_15 : decode cX5_comes 15 = .ok (.iload_n 1, 1) := by decide +kernel
theorem dX5_comes_16 : decode cX5_comes 16 = .ok (.iastore, 1) := by decide +kernel
theorem dX5_comes_17 : decode cX5_comes 17 = .ok (.aload_n 0, 1) := by decide +kernel
theorem dX5_comes_18 : decode cX5_comes 18 = .ok (.getfield 7, 3) := by decide +kernel
theorem dX5_comes_21 : decode cX5_comes 21 = .ok (.bipush 24, 2) := by decide +kernel
theorem dX5_comes_23 : decode cX5_comes 23 = .ok (.iconst 2, 1) := by decide +kernel
theorem dX5_comes_24 : decode cX5_comes 24 = .ok (.iload_n 3, 1) := by decide +kernel
theorem dX5_comes_25 : decode cX5_comes 25 = .ok (.imul, 1) := by decide +kernel
theorem dX5_comes_26 : decode cX5_comes 26 = .ok (.iadd, 1) := by decide +kernel
theorem dX5_comes_27 : decode cX5_comes 27 = .ok (.iconst 1, 1) := by decide +kernel
theorem dX5_comes_28 : decode cX5_comes 28 = .ok (.iadd, 1) := by decide +kernel
theorem dX5_comes_29 : decode cX5_comes 29 = .ok (.iload_n 2, 1) := by decide +kernel
theorem dX5_comes_30 : decode cX5_comes 30 = .ok (.iastore, 1) := by decide +kernel
theorem dX5_comes_31 : decode cX5_comes 31 = .ok (.iconst 0, 1) := by decide +kernel
theorem dX5_comes_32 : decode cX5_comes 32 = .ok (.istore 4, 2) := by decide +kernel
theorem dX5_comes_34 : decode cX5_comes 34 = .ok (.iload 4, 2) := by decide +kernel
theorem dX5_comes_36 : decode cX5_comes 36 = .ok (.bipush 70, 2) := by decide +kernel
theorem dX5_comes_38 : decode cX5_comes 38 = .ok (.if_icmp .ge 25, 3) := by decide +kernel
theorem dX5_comes_41 : decode cX5_comes 41 = .ok (.aload_n 0, 1) := by decide +kernel
theorem dX5_comes_42 : decode cX5_comes 42 = .ok (.getfield 7, 3) := by decide +kernel
theorem dX5_comes_45 : decode cX5_comes 45 = .ok (.bipush 40, 2) := by decide +kernel
theorem dX5_comes_47 : decode cX5_comes 47 = .ok (.bipush 70, 2) := by decide +kernel
theorem dX5_comes_49 : decode cX5_comes 49 = .ok (.iload_n 3, 1) := by decide +kernel
theorem dX5_comes_50 : decode cX5_comes 50 = .ok (.imul, 1) := by decide +kernel
theorem dX5_comes_51 : decode cX5_comes 51 = .ok (.iadd, 1) := by decide +kernel
theorem dX5_comes_52 : decode cX5_comes 52 = .ok (.iload 4, 2) := by decide +kernel
theorem dX5_comes_54 : decode cX5_comes 54 = .ok (.iadd, 1) := by decide +kernel
theorem dX5_comes_55 : decode cX5_comes 55 = .ok (.iconst 0, 1) := by decide +kernel
theorem dX5_comes_56 : decode cX5_comes 56 = .ok (.iastore, 1) := by decide +kernel
theorem dX5_comes_57 : decode cX5_comes 57 = .ok (.iinc 4 1, 3) := by decide +kernel
theorem dX5_comes_60 : decode cX5_comes 60 = .ok (.goto (-26), 3) := by decide +kernel
theorem dX5_comes_63 : decode cX5_comes 63 = .ok (.aload_n 0, 1) := by decide +kernel
theorem dX5_comes_64 : decode cX5_comes 64 = .ok (.getfield 7, 3) := by decide +kernel
theorem dX5_comes_67 : decode cX5_comes 67 = .ok (.bipush 23, 2) := by decide +kernel
theorem dX5_comes_69 : decode cX5_comes 69 = .ok (.dup2, 1) := by decide +kernel
theorem dX5_comes_70 : decode cX5_comes 70 = .ok (.iaload, 1) := by decide +kernel
theorem dX5_comes_71 : decode cX5_comes 71 = .ok (.iconst 1, 1) := by decide +kernel
theorem dX5_comes_72 : decode cX5_comes 72 = .ok (.iadd, 1) := by decide +kernel
theorem dX5_comes_73 : decode cX5_comes 73 = .ok (.iastore, 1) := by decide +kernel
theorem dX5_comes_74 : decode cX5_comes 74 = .ok (.return_, 1) := by decide +kernel
theorem dX5_campComes_0 : decode cX5_campComes 0 = .ok (.aload_n 0, 1) := by decide +kernel
theorem dX5_campComes_1 : decode cX5_campComes 1 = .ok (.getfield 7, 3) := by decide +kernel
theorem dX5_campComes_4 : decode cX5_campComes 4 = .ok (.bipush 15, 2) := by decide +kernel
theorem dX5_campComes_6 : decode cX5_campComes 6 = .ok (.iconst 2, 1) := by decide +kernel
theorem dX5_campComes_7 : decode cX5_campComes 7 = .ok (.aload_n 0, 1) := by decide +kernel
theorem dX5_campComes_8 : decode cX5_campComes 8 = .ok (.invokevirtual 86, 3) := by decide +kernel
theorem dX5_campComes_11 : decode cX5_campComes 11 = .ok (.imul, 1) := by decide +kernel
theorem dX5_campComes_12 : decode cX5_campComes 12 = .ok (.iadd, 1) := by decide +kernel
theorem dX5_campComes_13 : decode cX5_campComes 13 = .ok (.iload_n 1, 1) := by decide +kernel
theorem dX5_campComes_14 : decode cX5_campComes 14 = .ok (.iastore, 1) := by decide +kernel
theorem dX5_campComes_15 : decode cX5_campComes 15 = .ok (.aload_n 0, 1) := by decide +kernel
theorem dX5_campComes_16 : decode cX5_campComes 16 = .ok (.getfield 7, 3) := by decide +kernel
theorem dX5_campComes_19 : decode cX5_campComes 19 = .ok (.bipush 15, 2) := by decide +kernel
theorem dX5_campComes_21 : decode cX5_campComes 21 = .ok (.iconst 2, 1) := by decide +kernel
theorem dX5_campComes_22 : decode cX5_campComes 22 = .ok (.aload_n 0, 1) := by decide +kernel
theorem dX5_campComes_23 : decode cX5_campComes 23 = .ok (.invokevirtual 86, 3) := by decide +kernel
theorem dX5_campComes_26 : decode cX5_campComes 26 = .ok (.imul, 1) := by decide +kernel
theorem dX5_campComes_27 : decode cX5_campComes 27 = .ok (.iadd, 1) := by decide +kernel
theorem dX5_campComes_28 : decode cX5_campComes 28 = .ok (.iconst 1, 1) := by decide +kernel
theorem dX5_campComes_29 : decode cX5_campComes 29 = .ok (.iadd, 1) := by decide +kernel
theorem dX5_campComes_30 : decode cX5_campComes 30 = .ok (.iload_n 2, 1) := by decide +kernel
theorem dX5_campComes_31 : decode cX5_campComes 31 = .ok (.iastore, 1) := by decide +kernel
theorem dX5_campComes_32 : decode cX5_campComes 32 = .ok (.aload_n 0, 1) := by decide +kernel
theorem dX5_campComes_33 : decode cX5_campComes 33 = .ok (.getfield 7, 3) := by decide +kernel
theorem dX5_campComes_36 : decode cX5_campComes 36 = .ok (.bipush 14, 2) := by decide +kernel
theorem dX5_campComes_38 : decode cX5_campComes 38 = .ok (.dup2, 1) := by decide +kernel
theorem dX5_campComes_39 : decode cX5_campComes 39 = .ok (.iaload, 1) := by decide +kernel
theorem dX5_campComes_40 : decode cX5_campComes 40 = .ok (.iconst 1, 1) := by decide +kernel
theorem dX5_campComes_41 : decode cX5_campComes 41 = .ok (.iadd, 1) := by decide +kernel
theorem dX5_campComes_42 : decode cX5_campComes 42 = .ok (.iastore, 1) := by decide +kernel
theorem dX5_campComes_43 : decode cX5_campComes 43 = .ok (.return_, 1) := by decide +kernel
theorem dX5_thrown_0 : decode cX5_thrown 0 = .ok (.aload_n 0, 1) := by decide +kernel
theorem dX5_thrown_1 : decode cX5_thrown 1 = .ok (.getfield 61, 3) := by decide +kernel
theorem dX5_thrown_4 : decode cX5_thrown 4 = .ok (.ireturn, 1) := by decide +kernel

/-- is it a group, a day -/
def grB (x g : Int32) : Bool := decide (nI 0 ≤ g) && decide (g < x)
def dB (d : Int32) : Bool := decide (nI 0 ≤ d) && decide (d < nI 70)
theorem grB_n {x g : Int32} {n : Nat} (hx : x = nI n) (hn : n < 2 ^ 31) (h : grB x g = true) : ∃ j, j < n ∧ g = nI j := by
  subst hx
  simp only [grB, Bool.and_eq_true, decide_eq_true_eq] at h
  have h1 : n ≠ 0 := by
    intro z
    subst z
    exact absurd (Int32.lt_of_le_of_lt h.1 h.2) (fun z => Int32.lt_irrefl z)
  obtain ⟨k, rfl⟩ : ∃ k, n = k + 1 := ⟨n - 1, by omega⟩
  obtain ⟨j, hj, e⟩ := nI_ex (by omega) h.1 ((lt_nI hn).mp h.2)
  exact ⟨j, by omega, e⟩
theorem dB_n {d : Int32} (h : dB d = true) : ∃ j, j < 70 ∧ d = nI j := grB_n (x := nI 70) rfl (by decide) h
theorem dB_nI {j : Nat} (h : j < 70) : dB (nI j) = true := by
  simp only [dB, Bool.and_eq_true, decide_eq_true_eq]
  exact ⟨nI_le (Nat.zero_le _) (by omega), nI_lt h (by decide)⟩
theorem grB_nI {n j : Nat} (h : j < n) (hn : n < 2 ^ 31) : grB (nI n) (nI j) = true := by
  simp only [grB, Bool.and_eq_true, decide_eq_true_eq]
  exact ⟨nI_le (Nat.zero_le _) (by omega), nI_lt h hn⟩
theorem inR_day (d : Int32) : inR d (nI 0) (nI 69) = dB d := by
  simp only [inR, dB]
  rw [decide_eq_decide.mpr (lt_nI (x := d) (n := 69) (by decide))]
theorem inR_grp (g : Int32) {n : Nat} (hn : n < 2 ^ 31) : inR g (nI 0) (nI n - nI 1) = grB (nI n) g := by
  simp only [inR, grB]
  congr 1
  rw [decide_eq_decide]
  cases n with
  | zero =>
    have : (nI 0 - nI 1 : Int32) = -1 := by decide
    rw [this, Int32.le_iff_toInt_le, Int32.lt_iff_toInt_lt, nI_toInt (by decide)]
    have : (-1 : Int32).toInt = -1 := by decide
    rw [this]; omega
  | succ k =>
    rw [nI_sub (by omega), lt_nI hn]
    rfl
section MO
variable {G : mG} {d : Nat} {σ : mS}
theorem v_isIn (v a b : Int32) : mV G mX5_isIn d [.int v, .int a, .int b] σ (some (.int (bI (inR v a b)))) σ := by
  refine mV_of fun Q hQ => ?_
  refine F_iload_n dX5_isIn_0 rfl ?_
  refine F_iload_n dX5_isIn_1 rfl ?_
  refine F_icmp_lt (tgt := 14) dX5_isIn_2 rfl (fun c2 => ?_) (fun c2 => ?_)
  · refine F_iconst (v := nI 0) dX5_isIn_14 rfl ?_
    refine F_zret dX5_isIn_15 rfl (by first | exact Or.inl rfl | exact Or.inr rfl | exact bI_01 _) ?_
    first | exact Qb1 hQ (by simp_all [inR]) | exact Qb0 hQ (by simp only [inR, Bool.and_eq_false_iff, decide_eq_false_iff_not, Int32.not_le]; first | exact Or.inl c2 | exact Or.inr c7)
  · refine F_iload_n dX5_isIn_5 rfl ?_
    refine F_iload_n dX5_isIn_6 rfl ?_
    refine F_icmp_gt (tgt := 14) dX5_isIn_7 rfl (fun c7 => ?_) (fun c7 => ?_)
    · refine F_iconst (v := nI 0) dX5_isIn_14 rfl ?_
      refine F_zret dX5_isIn_15 rfl (by first | exact Or.inl rfl | exact Or.inr rfl | exact bI_01 _) ?_
      first | exact Qb1 hQ (by simp_all [inR]) | exact Qb0 hQ (by simp only [inR, Bool.and_eq_false_iff, decide_eq_false_iff_not, Int32.not_le]; first | exact Or.inl c2 | exact Or.inr c7)
    · refine F_iconst (v := nI 1) dX5_isIn_10 rfl ?_
      refine F_goto (tgt := 15) dX5_isIn_11 rfl ?_
      refine F_zret dX5_isIn_15 rfl (by first | exact Or.inl rfl | exact Or.inr rfl | exact bI_01 _) ?_
      first | exact Qb1 hQ (by simp_all [inR]) | exact Qb0 hQ (by simp only [inR, Bool.and_eq_false_iff, decide_eq_false_iff_not, Int32.not_le]; first | exact Or.inl c2 | exact Or.inr c7)

theorem v_of {k : Nat} (hk : k < 8) : mV G mX5_of d [.ref 116, .int (nI k)] σ (some (.int (σ 117 (6 + k)))) σ := by
  refine mV_of fun Q hQ => ?_
  refine F_aload_n dX5_of_0 rfl ?_
  refine F_getr dX5_of_1 rfl rfl (by first | assumption | rfl) rfl ?_
  refine F_bipush (v := nI 6) dX5_of_4 rfl ?_
  refine F_iload_n dX5_of_6 rfl ?_
  refine F_iaddN dX5_of_7 ?_
  refine F_iald dX5_of_8 (by first | assumption | rfl) (by decide) (by omega) ?_
  refine F_iret dX5_of_9 rfl ?_
  exact hQ

theorem v_groups : mV G mX5_groups d [.ref 116] σ (some (.int (σ 117 23))) σ := by
  refine mV_of fun Q hQ => ?_
  refine F_aload_n dX5_groups_0 rfl ?_
  refine F_getr dX5_groups_1 rfl rfl (by first | assumption | rfl) rfl ?_
  refine F_bipush (v := nI 23) dX5_groups_4 rfl ?_
  refine F_iald dX5_groups_6 (by first | assumption | rfl) (by decide) (by omega) ?_
  refine F_iret dX5_groups_7 rfl ?_
  exact hQ

theorem v_camps : mV G mX5_camps d [.ref 116] σ (some (.int (σ 117 14))) σ := by
  refine mV_of fun Q hQ => ?_
  refine F_aload_n dX5_camps_0 rfl ?_
  refine F_getr dX5_camps_1 rfl rfl (by first | assumption | rfl) rfl ?_
  refine F_bipush (v := nI 14) dX5_camps_4 rfl ?_
  refine F_iald dX5_camps_6 (by first | assumption | rfl) (by decide) (by omega) ?_
  refine F_iret dX5_camps_7 rfl ?_
  exact hQ

theorem v_thrown : mV G mX5_thrown d [.ref 116] σ (some (.int (σ 116 0))) σ := by
  refine mV_of fun Q hQ => ?_
  refine F_aload_n dX5_thrown_0 rfl ?_
  refine F_geti dX5_thrown_1 rfl rfl (by first | assumption | rfl) rfl ?_
  refine F_iret dX5_thrown_4 rfl ?_
  exact hQ

theorem v_kindOf {g e : Nat} (hg : g < 6) (he : e < 70) : mV G mX5_kindOf d [.ref 116, .int (nI g), .int (nI e)] σ (some (.int (σ 117 (40 + 70 * g + e)))) σ := by
  refine mV_of fun Q hQ => ?_
  refine F_aload_n dX5_kindOf_0 rfl ?_
  refine F_getr dX5_kindOf_1 rfl rfl (by first | assumption | rfl) rfl ?_
  refine F_bipush (v := nI 40) dX5_kindOf_4 rfl ?_
  refine F_bipush (v := nI 70) dX5_kindOf_6 rfl ?_
  refine F_iload_n dX5_kindOf_8 rfl ?_
  refine F_imulN dX5_kindOf_9 ?_
  refine F_iaddN dX5_kindOf_10 ?_
  refine F_iload_n dX5_kindOf_11 rfl ?_
  refine F_iaddN dX5_kindOf_12 ?_
  refine F_iald dX5_kindOf_13 (by first | assumption | rfl) (by decide) (by omega) ?_
  refine F_iret dX5_kindOf_14 rfl ?_
  exact hQ

theorem v_isGroup (g : Int32) {n : Nat} (hn : σ 117 23 = nI n) (h6 : n < 2 ^ 31) : mV G mX5_isGroup (d + 1) [.ref 116, .int g] σ (some (.int (bI (grB (σ 117 23) g)))) σ := by
  refine mV_of fun Q hQ => ?_
  refine F_iload_n dX5_isGroup_0 rfl ?_
  refine F_iconst (v := nI 0) dX5_isGroup_1 rfl ?_
  refine F_aload_n dX5_isGroup_2 rfl ?_
  refine F_cV0i (v_groups (d := d)) dX5_isGroup_3 rfl rfl (by decide) (by first | assumption | rfl) rfl rfl rfl (by decide) (Nat.le_of_ble_eq_true rfl) (by omega) ?_
  refine F_iconst (v := nI 1) dX5_isGroup_6 rfl ?_
  refine F_isub dX5_isGroup_7 ?_
  refine F_cS3i (v_isIn (d := d) _ _ _) dX5_isGroup_8 rfl rfl rfl (by decide) (Nat.le_of_ble_eq_true rfl) (by omega) ?_
  refine F_zret dX5_isGroup_11 rfl (by first | exact Or.inl rfl | exact Or.inr rfl | exact bI_01 _) ?_
  rw [hn, inR_grp g h6, ← hn]
  exact hQ

theorem v_isDay (e : Int32) : mV G mX5_isDay (d + 1) [.int e] σ (some (.int (bI (dB e)))) σ := by
  refine mV_of fun Q hQ => ?_
  refine F_iload_n dX5_isDay_0 rfl ?_
  refine F_iconst (v := nI 0) dX5_isDay_1 rfl ?_
  refine F_bipush (v := nI 69) dX5_isDay_2 rfl ?_
  refine F_cS3i (v_isIn (d := d) _ _ _) dX5_isDay_4 rfl rfl rfl (by decide) (Nat.le_of_ble_eq_true rfl) (by omega) ?_
  refine F_zret dX5_isDay_7 rfl (by first | exact Or.inl rfl | exact Or.inr rfl | exact bI_01 _) ?_
  rw [inR_day]
  exact hQ

theorem v_isOne (g e : Int32) {n : Nat} (hn : σ 117 23 = nI n) (h6 : n < 2 ^ 31) : mV G mX5_isOne (d + 2) [.ref 116, .int g, .int e] σ (some (.int (bI (grB (σ 117 23) g && dB e)))) σ := by
  refine mV_of fun Q hQ => ?_
  refine F_aload_n dX5_isOne_0 rfl ?_
  refine F_iload_n dX5_isOne_1 rfl ?_
  refine F_cV1i (v_isGroup (d := d) _ hn h6) dX5_isOne_2 rfl rfl (by decide) (by first | assumption | rfl) rfl rfl rfl (by decide) (Nat.le_of_ble_eq_true rfl) (by omega) ?_
  refine F_if_eqB (tgt := 19) dX5_isOne_5 rfl (fun c5 => ?_) (fun c5 => ?_)
  · refine F_iconst (v := nI 0) dX5_isOne_19 rfl ?_
    refine F_zret dX5_isOne_20 rfl (by first | exact Or.inl rfl | exact Or.inr rfl | exact bI_01 _) ?_
    clear hn
    first | exact Qb1 hQ (by simp [*]) | exact Qb0 hQ (by simp [*])
  · refine F_iload_n dX5_isOne_8 rfl ?_
    refine F_cS1i (v_isDay (d := d) _) dX5_isOne_9 rfl rfl rfl (by decide) (Nat.le_of_ble_eq_true rfl) (by omega) ?_
    refine F_if_eqB (tgt := 19) dX5_isOne_12 rfl (fun c12 => ?_) (fun c12 => ?_)
    · refine F_iconst (v := nI 0) dX5_isOne_19 rfl ?_
      refine F_zret dX5_isOne_20 rfl (by first | exact Or.inl rfl | exact Or.inr rfl | exact bI_01 _) ?_
      clear hn
      first | exact Qb1 hQ (by simp [*]) | exact Qb0 hQ (by simp [*])
    · refine F_iconst (v := nI 1) dX5_isOne_15 rfl ?_
      refine F_goto (tgt := 20) dX5_isOne_16 rfl ?_
      refine F_zret dX5_isOne_20 rfl (by first | exact Or.inl rfl | exact Or.inr rfl | exact bI_01 _) ?_
      clear hn
      first | exact Qb1 hQ (by simp [*]) | exact Qb0 hQ (by simp [*])

theorem v_areDays (g a e : Int32) {n : Nat} (hn : σ 117 23 = nI n) (h6 : n < 2 ^ 31) : mV G mX5_areDays (d + 3) [.ref 116, .int g, .int a, .int e] σ (some (.int (bI (grB (σ 117 23) g && dB a && dB e && decide (a ≤ e))))) σ := by
  refine mV_of fun Q hQ => ?_
  refine F_aload_n dX5_areDays_0 rfl ?_
  refine F_iload_n dX5_areDays_1 rfl ?_
  refine F_iload_n dX5_areDays_2 rfl ?_
  refine F_cV2i (v_isOne (d := d) _ _ hn h6) dX5_areDays_3 rfl rfl (by decide) (by first | assumption | rfl) rfl rfl rfl (by decide) (Nat.le_of_ble_eq_true rfl) (by omega) ?_
  refine F_if_eqB (tgt := 25) dX5_areDays_6 rfl (fun c6 => ?_) (fun c6 => ?_)
  · refine F_iconst (v := nI 0) dX5_areDays_25 rfl ?_
    refine F_zret dX5_areDays_26 rfl (by first | exact Or.inl rfl | exact Or.inr rfl | exact bI_01 _) ?_
    clear hn
    first | exact Qb1 hQ (by simp_all) | exact Qb0 hQ (by simp_all)
  · refine F_iload_n dX5_areDays_9 rfl ?_
    refine F_cS1i (v_isDay (d := d) _) dX5_areDays_10 rfl rfl rfl (by decide) (Nat.le_of_ble_eq_true rfl) (by omega) ?_
    refine F_if_eqB (tgt := 25) dX5_areDays_13 rfl (fun c13 => ?_) (fun c13 => ?_)
    · refine F_iconst (v := nI 0) dX5_areDays_25 rfl ?_
      refine F_zret dX5_areDays_26 rfl (by first | exact Or.inl rfl | exact Or.inr rfl | exact bI_01 _) ?_
      clear hn
      first | exact Qb1 hQ (by simp_all) | exact Qb0 hQ (by simp_all)
    · refine F_iload_n dX5_areDays_16 rfl ?_
      refine F_iload_n dX5_areDays_17 rfl ?_
      refine F_icmp_gt (tgt := 25) dX5_areDays_18 rfl (fun c18 => ?_) (fun c18 => ?_)
      · refine F_iconst (v := nI 0) dX5_areDays_25 rfl ?_
        refine F_zret dX5_areDays_26 rfl (by first | exact Or.inl rfl | exact Or.inr rfl | exact bI_01 _) ?_
        clear hn
        first | exact Qb1 hQ (by simp_all) | exact Qb0 hQ (by simp_all)
      · refine F_iconst (v := nI 1) dX5_areDays_21 rfl ?_
        refine F_goto (tgt := 26) dX5_areDays_22 rfl ?_
        refine F_zret dX5_areDays_26 rfl (by first | exact Or.inl rfl | exact Or.inr rfl | exact bI_01 _) ?_
        clear hn
        first | exact Qb1 hQ (by simp_all) | exact Qb0 hQ (by simp_all)

theorem v_maySet0 (v : Int32) : mV G mX5_maySet (d + 1) [.int (nI 0), .int v] σ (some (.int (bI (inR v (nI 2) (nI 99))))) σ := by
  refine mV_of fun Q hQ => ?_
  refine F_iload_n dX5_maySet_0 rfl ?_
  refine F_tableIn (off := 43) (tgt := 44) dX5_maySet_1 (by decide) (by decide) (by decide +kernel) rfl ?_
  refine F_iload_n dX5_maySet_44 rfl ?_
  refine F_iconst (v := nI 2) dX5_maySet_45 rfl ?_
  refine F_bipush (v := nI 99) dX5_maySet_46 rfl ?_
  refine F_cS3i (v_isIn (d := d) _ _ _) dX5_maySet_48 rfl rfl rfl (by decide) (Nat.le_of_ble_eq_true rfl) (by omega) ?_
  refine F_zret dX5_maySet_51 rfl (by first | exact Or.inl rfl | exact Or.inr rfl | exact bI_01 _) ?_
  first | exact hQ | exact Qb1 hQ (by assumption) | exact Qb0 hQ (by assumption)

theorem v_maySet1 (v : Int32) : mV G mX5_maySet (d + 1) [.int (nI 1), .int v] σ (some (.int (bI (inR v (nI 2) (nI 99))))) σ := by
  refine mV_of fun Q hQ => ?_
  refine F_iload_n dX5_maySet_0 rfl ?_
  refine F_tableIn (off := 43) (tgt := 44) dX5_maySet_1 (by decide) (by decide) (by decide +kernel) rfl ?_
  refine F_iload_n dX5_maySet_44 rfl ?_
  refine F_iconst (v := nI 2) dX5_maySet_45 rfl ?_
  refine F_bipush (v := nI 99) dX5_maySet_46 rfl ?_
  refine F_cS3i (v_isIn (d := d) _ _ _) dX5_maySet_48 rfl rfl rfl (by decide) (Nat.le_of_ble_eq_true rfl) (by omega) ?_
  refine F_zret dX5_maySet_51 rfl (by first | exact Or.inl rfl | exact Or.inr rfl | exact bI_01 _) ?_
  first | exact hQ | exact Qb1 hQ (by assumption) | exact Qb0 hQ (by assumption)

theorem v_maySet2 (v : Int32) : mV G mX5_maySet (d + 1) [.int (nI 2), .int v] σ (some (.int (bI (inR v (nI 1) (nI 9))))) σ := by
  refine mV_of fun Q hQ => ?_
  refine F_iload_n dX5_maySet_0 rfl ?_
  refine F_tableIn (off := 51) (tgt := 52) dX5_maySet_1 (by decide) (by decide) (by decide +kernel) rfl ?_
  refine F_iload_n dX5_maySet_52 rfl ?_
  refine F_iconst (v := nI 1) dX5_maySet_53 rfl ?_
  refine F_bipush (v := nI 9) dX5_maySet_54 rfl ?_
  refine F_cS3i (v_isIn (d := d) _ _ _) dX5_maySet_56 rfl rfl rfl (by decide) (Nat.le_of_ble_eq_true rfl) (by omega) ?_
  refine F_zret dX5_maySet_59 rfl (by first | exact Or.inl rfl | exact Or.inr rfl | exact bI_01 _) ?_
  first | exact hQ | exact Qb1 hQ (by assumption) | exact Qb0 hQ (by assumption)

theorem v_maySet3 (v : Int32) : mV G mX5_maySet (d + 1) [.int (nI 3), .int v] σ (some (.int (bI (inR v (nI 1) (nI 9))))) σ := by
  refine mV_of fun Q hQ => ?_
  refine F_iload_n dX5_maySet_0 rfl ?_
  refine F_tableIn (off := 51) (tgt := 52) dX5_maySet_1 (by decide) (by decide) (by decide +kernel) rfl ?_
  refine F_iload_n dX5_maySet_52 rfl ?_
  refine F_iconst (v := nI 1) dX5_maySet_53 rfl ?_
  refine F_bipush (v := nI 9) dX5_maySet_54 rfl ?_
  refine F_cS3i (v_isIn (d := d) _ _ _) dX5_maySet_56 rfl rfl rfl (by decide) (Nat.le_of_ble_eq_true rfl) (by omega) ?_
  refine F_zret dX5_maySet_59 rfl (by first | exact Or.inl rfl | exact Or.inr rfl | exact bI_01 _) ?_
  first | exact hQ | exact Qb1 hQ (by assumption) | exact Qb0 hQ (by assumption)

theorem v_maySet4 (v : Int32) : mV G mX5_maySet (d + 1) [.int (nI 4), .int v] σ (some (.int (bI (inR v (nI 100) (nI 400))))) σ := by
  refine mV_of fun Q hQ => ?_
  refine F_iload_n dX5_maySet_0 rfl ?_
  refine F_tableIn (off := 59) (tgt := 60) dX5_maySet_1 (by decide) (by decide) (by decide +kernel) rfl ?_
  refine F_iload_n dX5_maySet_60 rfl ?_
  refine F_bipush (v := nI 100) dX5_maySet_61 rfl ?_
  refine F_sipush (v := nI 400) dX5_maySet_63 rfl ?_
  refine F_cS3i (v_isIn (d := d) _ _ _) dX5_maySet_66 rfl rfl rfl (by decide) (Nat.le_of_ble_eq_true rfl) (by omega) ?_
  refine F_zret dX5_maySet_69 rfl (by first | exact Or.inl rfl | exact Or.inr rfl | exact bI_01 _) ?_
  first | exact hQ | exact Qb1 hQ (by assumption) | exact Qb0 hQ (by assumption)

theorem v_maySet5 (v : Int32) : mV G mX5_maySet (d + 1) [.int (nI 5), .int v] σ (some (.int (bI (inR v (nI 1) (nI 14))))) σ := by
  refine mV_of fun Q hQ => ?_
  refine F_iload_n dX5_maySet_0 rfl ?_
  refine F_tableIn (off := 69) (tgt := 70) dX5_maySet_1 (by decide) (by decide) (by decide +kernel) rfl ?_
  refine F_iload_n dX5_maySet_70 rfl ?_
  refine F_iconst (v := nI 1) dX5_maySet_71 rfl ?_
  refine F_bipush (v := nI 14) dX5_maySet_72 rfl ?_
  refine F_cS3i (v_isIn (d := d) _ _ _) dX5_maySet_74 rfl rfl rfl (by decide) (Nat.le_of_ble_eq_true rfl) (by omega) ?_
  refine F_zret dX5_maySet_77 rfl (by first | exact Or.inl rfl | exact Or.inr rfl | exact bI_01 _) ?_
  first | exact hQ | exact Qb1 hQ (by assumption) | exact Qb0 hQ (by assumption)

theorem v_maySet6 (v : Int32) : mV G mX5_maySet (d + 1) [.int (nI 6), .int v] σ (some (.int (bI (inR v (nI 0) (nI 2100))))) σ := by
  refine mV_of fun Q hQ => ?_
  refine F_iload_n dX5_maySet_0 rfl ?_
  refine F_tableIn (off := 77) (tgt := 78) dX5_maySet_1 (by decide) (by decide) (by decide +kernel) rfl ?_
  refine F_iload_n dX5_maySet_78 rfl ?_
  refine F_iconst (v := nI 0) dX5_maySet_79 rfl ?_
  refine F_sipush (v := nI 2100) dX5_maySet_80 rfl ?_
  refine F_cS3i (v_isIn (d := d) _ _ _) dX5_maySet_83 rfl rfl rfl (by decide) (Nat.le_of_ble_eq_true rfl) (by omega) ?_
  refine F_zret dX5_maySet_86 rfl (by first | exact Or.inl rfl | exact Or.inr rfl | exact bI_01 _) ?_
  first | exact hQ | exact Qb1 hQ (by assumption) | exact Qb0 hQ (by assumption)

theorem v_maySet7 (v : Int32) : mV G mX5_maySet (d + 1) [.int (nI 7), .int v] σ (some (.int (bI (inR v (nI 100) (nI 300))))) σ := by
  refine mV_of fun Q hQ => ?_
  refine F_iload_n dX5_maySet_0 rfl ?_
  refine F_tableOut (tgt := 87) dX5_maySet_1 (by decide) rfl ?_
  refine F_iload_n dX5_maySet_87 rfl ?_
  refine F_bipush (v := nI 7) dX5_maySet_88 rfl ?_
  refine F_icmp_neN (tgt := 109) dX5_maySet_90 rfl (by omega) (by omega) (fun c90 => ?_) (fun c90 => ?_)
  · exact absurd rfl c90
  · refine F_iload_n dX5_maySet_93 rfl ?_
    refine F_bipush (v := nI 100) dX5_maySet_94 rfl ?_
    refine F_sipush (v := nI 300) dX5_maySet_96 rfl ?_
    refine F_cS3i (v_isIn (d := d) _ _ _) dX5_maySet_99 rfl rfl rfl (by decide) (Nat.le_of_ble_eq_true rfl) (by omega) ?_
    refine F_if_eqB (tgt := 109) dX5_maySet_102 rfl (fun c102 => ?_) (fun c102 => ?_)
    · refine F_iconst (v := nI 0) dX5_maySet_109 rfl ?_
      refine F_zret dX5_maySet_110 rfl (by first | exact Or.inl rfl | exact Or.inr rfl | exact bI_01 _) ?_
      first | exact hQ | exact Qb1 hQ (by assumption) | exact Qb0 hQ (by assumption)
    · refine F_iconst (v := nI 1) dX5_maySet_105 rfl ?_
      refine F_goto (tgt := 110) dX5_maySet_106 rfl ?_
      refine F_zret dX5_maySet_110 rfl (by first | exact Or.inl rfl | exact Or.inr rfl | exact bI_01 _) ?_
      first | exact hQ | exact Qb1 hQ (by assumption) | exact Qb0 hQ (by assumption)

theorem mLeast_eq : ∀ k, k < 8 → mLeast.getD k 0 = nI ([2, 2, 1, 1, 100, 1, 0, 100].getD k 0) := by decide +kernel
theorem mMost_eq : ∀ k, k < 8 → mMost.getD k 0 = nI ([99, 99, 9, 9, 400, 14, 2100, 300].getD k 0) := by decide +kernel
theorem v_maySet (v : Int32) {k : Nat} (hk : k < 8) : mV G mX5_maySet (d + 1) [.int (nI k), .int v] σ (some (.int (bI (inR v (mLeast.getD k 0) (mMost.getD k 0))))) σ := by
  rcases (show k = 0 ∨ k = 1 ∨ k = 2 ∨ k = 3 ∨ k = 4 ∨ k = 5 ∨ k = 6 ∨ k = 7 by omega) with rfl | rfl | rfl | rfl | rfl | rfl | rfl | rfl
  · exact v_maySet0 v
  · exact v_maySet1 v
  · exact v_maySet2 v
  · exact v_maySet3 v
  · exact v_maySet4 v
  · exact v_maySet5 v
  · exact v_maySet6 v
  · exact v_maySet7 v
/-- the row with a group more -/
def comesF (f : Nat → Int32) (g : Nat) (x y : Int32) : Nat → Int32 := upd (fillR (upd (upd f (24 + 2 * g) x) (24 + 2 * g + 1) y) (40 + 70 * g) (40 + 70 * g + 70) (nI 0)) 23 (nI (g + 1))
theorem l_comes {g : Nat} (hg : g < 6) {x y : Int32} {Q : Option Value → mS → Prop} (hk : mF G mX5_comes d 63 [some (.ref 116), some (.int x), some (.int y), some (.int (nI g)), some (.int (nI 70))] [] (upR σ 117 (fillR (σ 117) (40 + 70 * g) (40 + 70 * g + 70) (nI 0))) Q) :
    ∀ e, e ≤ 70 → mF G mX5_comes d 34 [some (.ref 116), some (.int x), some (.int y), some (.int (nI g)), some (.int (nI e))] [] (upR σ 117 (fillR (σ 117) (40 + 70 * g) (40 + 70 * g + e) (nI 0))) Q := by
  refine loopUp 70 (fun e he ih => ?_)
  refine F_iload dX5_comes_34 rfl ?_
  refine F_bipush (v := nI 70) dX5_comes_36 rfl ?_
  refine F_icmp_geN (tgt := 63) dX5_comes_38 rfl (by omega) (by omega) (fun c38 => ?_) (fun c38 => ?_)
  · have : e = 70 := by omega
    subst this
    exact hk
  · refine F_aload_n dX5_comes_41 rfl ?_
    refine F_getr dX5_comes_42 rfl rfl (by first | assumption | rfl) rfl ?_
    refine F_bipush (v := nI 40) dX5_comes_45 rfl ?_
    refine F_bipush (v := nI 70) dX5_comes_47 rfl ?_
    refine F_iload_n dX5_comes_49 rfl ?_
    refine F_imulN dX5_comes_50 ?_
    refine F_iaddN dX5_comes_51 ?_
    refine F_iload dX5_comes_52 rfl ?_
    refine F_iaddN dX5_comes_54 ?_
    refine F_iconst (v := nI 0) dX5_comes_55 rfl ?_
    refine F_iast dX5_comes_56 (by first | assumption | rfl) (by decide) (by omega) ?_
    refine F_iincN dX5_comes_57 rfl ?_
    refine F_goto (tgt := 34) dX5_comes_60 rfl ?_
    refine F_sg (up_fill _ _ _ _ (by omega)) ?_
    exact ih (by omega)

theorem v_comes (x y : Int32) {g : Nat} (hn : σ 117 23 = nI g) (hg : g < 6) : mV G mX5_comes (d + 1) [.ref 116, .int x, .int y] σ none (upR σ 117 (comesF (σ 117) g x y)) := by
  refine mV_of fun Q hQ => ?_
  refine F_aload_n dX5_comes_0 rfl ?_
  refine F_cV0i (v_groups (d := d)) dX5_comes_1 rfl rfl (by decide) (by first | assumption | rfl) rfl rfl rfl (by decide) (Nat.le_of_ble_eq_true rfl) (by omega) ?_
  rw [hn]
  refine F_istore_n dX5_comes_4 (Nat.le_of_ble_eq_true rfl) ?_
  refine F_aload_n dX5_comes_5 rfl ?_
  refine F_getr dX5_comes_6 rfl rfl (by first | assumption | rfl) rfl ?_
  refine F_bipush (v := nI 24) dX5_comes_9 rfl ?_
  refine F_iconst (v := nI 2) dX5_comes_11 rfl ?_
  refine F_iload_n dX5_comes_12 rfl ?_
  refine F_imulN dX5_comes_13 ?_
  refine F_iaddN dX5_comes_14 ?_
  refine F_iload_n dX5_comes_15 rfl ?_
  refine F_iast dX5_comes_16 (by first | assumption | rfl) (by decide) (by omega) ?_
  refine F_aload_n dX5_comes_17 rfl ?_
  refine F_getr dX5_comes_18 rfl rfl (by first | assumption | rfl) rfl ?_
  refine F_bipush (v := nI 24) dX5_comes_21 rfl ?_
  refine F_iconst (v := nI 2) dX5_comes_23 rfl ?_
  refine F_iload_n dX5_comes_24 rfl ?_
  refine F_imulN dX5_comes_25 ?_
  refine F_iaddN dX5_comes_26 ?_
  refine F_iconst (v := nI 1) dX5_comes_27 rfl ?_
  refine F_iaddN dX5_comes_28 ?_
  refine F_iload_n dX5_comes_29 rfl ?_
  refine F_iast dX5_comes_30 (by first | assumption | rfl) (by decide) (by omega) ?_
  refine F_iconst (v := nI 0) dX5_comes_31 rfl ?_
  refine F_istore dX5_comes_32 (Nat.le_of_ble_eq_true rfl) ?_
  refine F_sg (fill0 _ 117 (40 + 70 * g) (nI 0)).symm ?_
  refine l_comes hg ?_ 0 (by omega)
  refine F_aload_n dX5_comes_63 rfl ?_
  refine F_getr dX5_comes_64 rfl rfl (by first | assumption | rfl) rfl ?_
  refine F_bipush (v := nI 23) dX5_comes_67 rfl ?_
  refine F_dup2 dX5_comes_69 rfl rfl ?_
  refine F_ialdE (v := nI g) dX5_comes_70 (by first | assumption | rfl) (by decide) (by omega) (by rw [upR_s]; simp only [fillR]; rw [if_neg (by omega), up_r _ _ _ (by omega), up_r _ _ _ (by omega)]; exact hn) ?_
  refine F_iconst (v := nI 1) dX5_comes_71 rfl ?_
  refine F_iaddN dX5_comes_72 ?_
  refine F_iast dX5_comes_73 (by first | assumption | rfl) (by decide) (by omega) ?_
  refine F_vret dX5_comes_74 rfl ?_
  refine Qn hQ ?_
  simp only [up, upR_upR, upR_s, comesF]

def campComesF (f : Nat → Int32) (c : Nat) (x y : Int32) : Nat → Int32 := upd (upd (upd f (15 + 2 * c) x) (15 + 2 * c + 1) y) 14 (nI (c + 1))
theorem v_campComes (x y : Int32) {c : Nat} (hn : σ 117 14 = nI c) (hc : c < 4) : mV G mX5_campComes (d + 1) [.ref 116, .int x, .int y] σ none (upR σ 117 (campComesF (σ 117) c x y)) := by
  refine mV_of fun Q hQ => ?_
  refine F_aload_n dX5_campComes_0 rfl ?_
  refine F_getr dX5_campComes_1 rfl rfl (by first | assumption | rfl) rfl ?_
  refine F_bipush (v := nI 15) dX5_campComes_4 rfl ?_
  refine F_iconst (v := nI 2) dX5_campComes_6 rfl ?_
  refine F_aload_n dX5_campComes_7 rfl ?_
  refine F_cV0i (v_camps (d := d)) dX5_campComes_8 rfl rfl (by decide) (by first | assumption | rfl) rfl rfl rfl (by decide) (Nat.le_of_ble_eq_true rfl) (by omega) ?_
  rw [hn]
  refine F_imulN dX5_campComes_11 ?_
  refine F_iaddN dX5_campComes_12 ?_
  refine F_iload_n dX5_campComes_13 rfl ?_
  refine F_iast dX5_campComes_14 (by first | assumption | rfl) (by decide) (by omega) ?_
  refine F_aload_n dX5_campComes_15 rfl ?_
  refine F_getr dX5_campComes_16 rfl rfl (by first | assumption | rfl) rfl ?_
  refine F_bipush (v := nI 15) dX5_campComes_19 rfl ?_
  refine F_iconst (v := nI 2) dX5_campComes_21 rfl ?_
  refine F_aload_n dX5_campComes_22 rfl ?_
  refine F_cV0i (v_camps (d := d)) dX5_campComes_23 rfl rfl (by decide) (by first | assumption | rfl) rfl rfl rfl (by decide) (Nat.le_of_ble_eq_true rfl) (by omega) ?_
  rw [up_r _ _ _ (by omega), hn]
  refine F_imulN dX5_campComes_26 ?_
  refine F_iaddN dX5_campComes_27 ?_
  refine F_iconst (v := nI 1) dX5_campComes_28 rfl ?_
  refine F_iaddN dX5_campComes_29 ?_
  refine F_iload_n dX5_campComes_30 rfl ?_
  refine F_iast dX5_campComes_31 (by first | assumption | rfl) (by decide) (by omega) ?_
  refine F_aload_n dX5_campComes_32 rfl ?_
  refine F_getr dX5_campComes_33 rfl rfl (by first | assumption | rfl) rfl ?_
  refine F_bipush (v := nI 14) dX5_campComes_36 rfl ?_
  refine F_dup2 dX5_campComes_38 rfl rfl ?_
  refine F_ialdE (v := nI c) dX5_campComes_39 (by first | assumption | rfl) (by decide) (by omega) (by rw [up_r _ _ _ (by omega), up_r _ _ _ (by omega)]; exact hn) ?_
  refine F_iconst (v := nI 1) dX5_campComes_40 rfl ?_
  refine F_iaddN dX5_campComes_41 ?_
  refine F_iast dX5_campComes_42 (by first | assumption | rfl) (by decide) (by omega) ?_
  refine F_vret dX5_campComes_43 rfl ?_
  refine Qn hQ ?_
  simp only [up, upR_upR, upR_s, campComesF]

end MO
