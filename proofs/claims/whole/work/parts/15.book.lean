/-! ===== the book: what is told ===== -/
theorem dX4_remember_0 : decode cX4_remember 0 = .ok (.aload_n 0, 1) := by decide +kernel
theorem dX4_remember_1 : decode cX4_remember 1 = .ok (.getfield 16, 3) := by decide +kernel
theorem dX4_remember_4 : decode cX4_remember 4 = .ok (.aload_n 0, 1) := by decide +kernel
theorem dX4_remember_5 : decode cX4_remember 5 = .ok (.getfield 125, 3) := by decide +kernel
theorem dX4_remember_8 : decode cX4_remember 8 = .ok (.aaload, 1) := by decide +kernel
theorem dX4_remember_9 : decode cX4_remember 9 = .ok (.aload_n 0, 1) := by decide +kernel
theorem dX4_remember_10 : decode cX4_remember 10 = .ok (.getfield 10, 3) := by decide +kernel
theorem dX4_remember_13 : decode cX4_remember 13 = .ok (.invokevirtual 68, 3) := by decide +kernel
theorem dX4_remember_16 : decode cX4_remember 16 = .ok (.aload_n 0, 1) := by decide +kernel
theorem dX4_remember_17 : decode cX4_remember 17 = .ok (.aload_n 0, 1) := by decide +kernel
theorem dX4_remember_18 : decode cX4_remember 18 = .ok (.getfield 125, 3) := by decide +kernel
theorem dX4_remember_21 : decode cX4_remember 21 = .ok (.iconst 1, 1) := by decide +kernel
theorem dX4_remember_22 : decode cX4_remember 22 = .ok (.iadd, 1) := by decide +kernel
theorem dX4_remember_23 : decode cX4_remember 23 = .ok (.bipush 8, 2) := by decide +kernel
theorem dX4_remember_25 : decode cX4_remember 25 = .ok (.irem, 1) := by decide +kernel
theorem dX4_remember_26 : decode cX4_remember 26 = .ok (.putfield 125, 3) := by decide +kernel
theorem dX4_remember_29 : decode cX4_remember 29 = .ok (.aload_n 0, 1) := by decide +kernel
theorem dX4_remember_30 : decode cX4_remember 30 = .ok (.aload_n 0, 1) := by decide +kernel
theorem dX4_remember_31 : decode cX4_remember 31 = .ok (.getfield 122, 3) := by decide +kernel
theorem dX4_remember_34 : decode cX4_remember 34 = .ok (.iconst 1, 1) := by decide +kernel
theorem dX4_remember_35 : decode cX4_remember 35 = .ok (.iadd, 1) := by decide +kernel
theorem dX4_remember_36 : decode cX4_remember 36 = .ok (.bipush 8, 2) := by decide +kernel
theorem dX4_remember_38 : decode cX4_remember 38 = .ok (.invokestatic 186, 3) := by decide +kernel
theorem dX4_remember_41 : decode cX4_remember 41 = .ok (.putfield 122, 3) := by decide +kernel
theorem dX4_remember_44 : decode cX4_remember 44 = .ok (.return_, 1) := by decide +kernel
theorem dX4_group_0 : decode cX4_group 0 = .ok (.iload_n 1, 1) := by decide +kernel
theorem dX4_group_1 : decode cX4_group 1 = .ok (.invokestatic 75, 3) := by decide +kernel
theorem dX4_group_4 : decode cX4_group 4 = .ok (.ifCond .eq 10, 3) := by decide +kernel
theorem dX4_group_7 : decode cX4_group 7 = .ok (.iload_n 2, 1) := by decide +kernel
theorem dX4_group_8 : decode cX4_group 8 = .ok (.invokestatic 75, 3) := by decide +kernel
theorem dX4_group_11 : decode cX4_group 11 = .ok (.ifCond .ne 5, 3) := by decide +kernel
theorem dX4_group_14 : decode cX4_group 14 = .ok (.iconst (-1), 1) := by decide +kernel
theorem dX4_group_15 : decode cX4_group 15 = .ok (.ireturn, 1) := by decide +kernel
theorem dX4_group_16 : decode cX4_group 16 = .ok (.aload_n 0, 1) := by decide +kernel
theorem dX4_group_17 : decode cX4_group 17 = .ok (.getfield 10, 3) := by decide +kernel
theorem dX4_group_20 : decode cX4_group 20 = .ok (.getfield 79, 3) := by decide +kernel
theorem dX4_group_23 : decode cX4_group 23 = .ok (.bipush 6, 2) := by decide +kernel
theorem dX4_group_25 : decode cX4_group 25 = .ok (.if_icmp .lt 6, 3) := by decide +kernel
theorem dX4_group_28 : decode cX4_group 28 = .ok (.bipush (-2), 2) := by decide +kernel
theorem dX4_group_30 : decode cX4_group 30 = .ok (.ireturn, 1) := by decide +kernel
theorem dX4_group_31 : decode cX4_group 31 = .ok (.aload_n 0, 1) := by decide +kernel
theorem dX4_group_32 : decode cX4_group 32 = .ok (.invokevirtual 62, 3) := by decide +kernel
theorem dX4_group_35 : decode cX4_group 35 = .ok (.aload_n 0, 1) := by decide +kernel
theorem dX4_group_36 : decode cX4_group 36 = .ok (.getfield 10, 3) := by decide +kernel
theorem dX4_group_39 : decode cX4_group 39 = .ok (.iload_n 1, 1) := by decide +kernel
theorem dX4_group_40 : decode cX4_group 40 = .ok (.iload_n 2, 1) := by decide +kernel
theorem dX4_group_41 : decode cX4_group 41 = .ok (.invokevirtual 82, 3) := by decide +kernel
theorem dX4_group_44 : decode cX4_group 44 = .ok (.aload_n 0, 1) := by decide +kernel
theorem dX4_group_45 : decode cX4_group 45 = .ok (.getfield 10, 3) := by decide +kernel
theorem dX4_group_48 : decode cX4_group 48 = .ok (.getfield 79, 3) := by decide +kernel
theorem dX4_group_51 : decode cX4_group 51 = .ok (.iconst 1, 1) := by decide +kernel
theorem dX4_group_52 : decode cX4_group 52 = .ok (.isub, 1) := by decide +kernel
theorem dX4_group_53 : decode cX4_group 53 = .ok (.ireturn, 1) := by decide +kernel
theorem dX4_load_0 : decode cX4_load 0 = .ok (.iload_n 1, 1) := by decide +kernel
theorem dX4_load_1 : decode cX4_load 1 = .ok (.ifCond .le 33, 3) := by decide +kernel
theorem dX4_load_4 : decode cX4_load 4 = .ok (.iload_n 1, 1) := by decide +kernel
theorem dX4_load_5 : decode cX4_load 5 = .ok (.bipush 6, 2) := by decide +kernel
theorem dX4_load_7 : decode cX4_load 7 = .ok (.if_icmp .ge 27, 3) := by decide +kernel
theorem dX4_load_10 : decode cX4_load 10 = .ok (.iload_n 2, 1) := by decide +kernel
theorem dX4_load_11 : decode cX4_load 11 = .ok (.ifCond .lt 23, 3) := by decide +kernel
theorem dX4_load_14 : decode cX4_load 14 = .ok (.iload_n 2, 1) := by decide +kernel
theorem dX4_load_15 : decode cX4_load 15 = .ok (.sipush 300, 3) := by decide +kernel
theorem dX4_load_18 : decode cX4_load 18 = .ok (.if_icmp .gt 16, 3) := by decide +kernel
theorem dX4_load_21 : decode cX4_load 21 = .ok (.aload_n 0, 1) := by decide +kernel
theorem dX4_load_22 : decode cX4_load 22 = .ok (.getfield 10, 3) := by decide +kernel
theorem dX4_load_25 : decode cX4_load 25 = .ok (.getfield 86, 3) := by decide +kernel
theorem dX4_load_28 : decode cX4_load 28 = .ok (.iload_n 1, 1) := by decide +kernel
theorem dX4_load_29 : decode cX4_load 29 = .ok (.iaload, 1) := by decide +kernel
theorem dX4_load_30 : decode cX4_load 30 = .ok (.iload_n 2, 1) := by decide +kernel
theorem dX4_load_31 : decode cX4_load 31 = .ok (.if_icmp .ne 5, 3) := by decide +kernel
theorem dX4_load_34 : decode cX4_load 34 = .ok (.iconst 0, 1) := by decide +kernel
theorem dX4_load_35 : decode cX4_load 35 = .ok (.ireturn, 1) := by decide +kernel
theorem dX4_load_36 : decode cX4_load 36 = .ok (.aload_n 0, 1) := by decide +kernel
theorem dX4_load_37 : decode cX4_load 37 = .ok (.getfield 10, 3) := by decide +kernel
theorem dX4_load_40 : decode cX4_load 40 = .ok (.getfield 86, 3) := by decide +kernel
theorem dX4_load_43 : decode cX4_load 43 = .ok (.iload_n 1, 1) := by decide +kernel
theorem dX4_load_44 : decode cX4_load 44 = .ok (.iload_n 2, 1) := by decide +kernel
theorem dX4_load_45 : decode cX4_load 45 = .ok (.iastore, 1) := by decide +kernel
theorem dX4_load_46 : decode cX4_load 46 = .ok (.iconst 1, 1) := by decide +kernel
theorem dX4_load_47 : decode cX4_load 47 = .ok (.ireturn, 1) := by decide +kernel
theorem dX4_set_0 : decode cX4_set 0 = .ok (.iload_n 1, 1) := by decide +kernel
theorem dX4_set_1 : decode cX4_set 1 = .ok (.iload_n 2, 1) := by decide +kernel
theorem dX4_set_2 : decode cX4_set 2 = .ok (.invokestatic 89, 3) := by decide +kernel
theorem dX4_set_5 : decode cX4_set 5 = .ok (.ifCond .eq 16, 3) := by decide +kernel
theorem dX4_set_8 : decode cX4_set 8 = .ok (.aload_n 0, 1) := by decide +kernel
theorem dX4_set_9 : decode cX4_set 9 = .ok (.getfield 10, 3) := by decide +kernel
theorem dX4_set_12 : decode cX4_set 12 = .ok (.getfield 93, 3) := by decide +kernel
theorem dX4_set_15 : decode cX4_set 15 = .ok (.iload_n 1, 1) := by decide +kernel
theorem dX4_set_16 : decode cX4_set 16 = .ok (.iaload, 1) := by decide +kernel
theorem dX4_set_17 : decode cX4_set 17 = .ok (.iload_n 2, 1) := by decide +kernel
theorem dX4_set_18 : decode cX4_set 18 = .ok (.if_icmp .ne 5, 3) := by decide +kernel
theorem dX4_set_21 : decode cX4_set 21 = .ok (.iconst 0, 1) := by decide +kernel
theorem dX4_set_22 : decode cX4_set 22 = .ok (.ireturn, 1) := by decide +kernel
theorem dX4_set_23 : decode cX4_set 23 = .ok (.aload_n 0, 1) := by decide +kernel
theorem dX4_set_24 : decode cX4_set 24 = .ok (.getfield 10, 3) := by decide +kernel
theorem dX4_set_27 : decode cX4_set 27 = .ok (.getfield 93, 3) := by decide +kernel
theorem dX4_set_30 : decode cX4_set 30 = .ok (.iload_n 1, 1) := by decide +kernel
theorem dX4_set_31 : decode cX4_set 31 = .ok (.iload_n 2, 1) := by decide +kernel
theorem dX4_set_32 : decode cX4_set 32 = .ok (.iastore, 1) := by decide +kernel
theorem dX4_set_33 : decode cX4_set 33 = .ok (.iconst 1, 1) := by decide +kernel
theorem dX4_set_34 : decode cX4_set 34 = .ok (.ireturn, 1) := by decide +kernel
theorem dX4_camp_0 : decode cX4_camp 0 = .ok (.iload_n 1, 1) := by decide +kernel
theorem dX4_camp_1 : decode cX4_camp 1 = .ok (.iload_n 2, 1) := by decide +kernel
theorem dX4_camp_2 : decode cX4_camp 2 = .ok (.invokestatic 96, 3) := by decide +kernel
theorem dX4_camp_5 : decode cX4_camp 5 = .ok (.ifCond .ne 5, 3) := by decide +kernel
theorem dX4_camp_8 : decode cX4_camp 8 = .ok (.iconst (-1), 1) := by decide +kernel
theorem dX4_camp_9 : decode cX4_camp 9 = .ok (.ireturn, 1) := by decide +kernel
theorem dX4_camp_10 : decode cX4_camp 10 = .ok (.aload_n 0, 1) := by decide +kernel
theorem dX4_camp_11 : decode cX4_camp 11 = .ok (.getfield 10, 3) := by decide +kernel
theorem dX4_camp_14 : decode cX4_camp 14 = .ok (.getfield 99, 3) := by decide +kernel
theorem dX4_camp_17 : decode cX4_camp 17 = .ok (.iconst 4, 1) := by decide +kernel
theorem dX4_camp_18 : decode cX4_camp 18 = .ok (.if_icmp .lt 6, 3) := by decide +kernel
theorem dX4_camp_21 : decode cX4_camp 21 = .ok (.bipush (-2), 2) := by decide +kernel
theorem dX4_camp_23 : decode cX4_camp 23 = .ok (.ireturn, 1) := by decide +kernel
theorem dX4_camp_24 : decode cX4_camp 24 = .ok (.aload_n 0, 1) := by decide +kernel
theorem dX4_camp_25 : decode cX4_camp 25 = .ok (.invokevirtual 62, 3) := by decide +kernel
theorem dX4_camp_28 : decode cX4_camp 28 = .ok (.aload_n 0, 1) := by decide +kernel
theorem dX4_camp_29 : decode cX4_camp 29 = .ok (.getfield 10, 3) := by decide +kernel
theorem dX4_camp_32 : decode cX4_camp 32 = .ok (.iload_n 1, 1) := by decide +kernel
theorem dX4_camp_33 : decode cX4_camp 33 = .ok (.iload_n 2, 1) := by decide +kernel
theorem dX4_camp_34 : decode cX4_camp 34 = .ok (.invokevirtual 102, 3) := by decide +kernel
theorem dX4_camp_37 : decode cX4_camp 37 = .ok (.aload_n 0, 1) := by decide +kernel
theorem dX4_camp_38 : decode cX4_camp 38 = .ok (.getfield 10, 3) := by decide +kernel
theorem dX4_camp_41 : decode cX4_camp 41 = .ok (.getfield 99, 3) := by decide +kernel
theorem dX4_camp_44 : decode cX4_camp 44 = .ok (.iconst 1, 1) := by decide +kernel
theorem dX4_camp_45 : decode cX4_camp 45 = .ok (.isub, 1) := by decide +kernel
theorem dX4_camp_46 : decode cX4_camp 46 = .ok (.ireturn, 1) := by decide +kernel
theorem dX4_strike_0 : decode cX4_strike 0 = .ok (.aload_n 0, 1) := by decide +kernel
theorem dX4_strike_1 : decode cX4_strike 1 = .ok (.getfield 10, 3) := by decide +kernel
theorem dX4_strike_4 : decode cX4_strike 4 = .ok (.iload_n 1, 1) := by decide +kernel
theorem dX4_strike_5 : decode cX4_strike 5 = .ok (.invokevirtual 105, 3) := by decide +kernel
theorem dX4_strike_8 : decode cX4_strike 8 = .ok (.ifCond .ne 5, 3) := by decide +kernel
theorem dX4_strike_11 : decode cX4_strike 11 = .ok (.iconst (-1), 1) := by decide +kernel
theorem dX4_strike_12 : decode cX4_strike 12 = .ok (.ireturn, 1) := by decide +kernel
theorem dX4_strike_13 : decode cX4_strike 13 = .ok (.aload_n 0, 1) := by decide +kernel
theorem dX4_strike_14 : decode cX4_strike 14 = .ok (.invokevirtual 62, 3) := by decide +kernel
theorem dX4_strike_17 : decode cX4_strike 17 = .ok (.aload_n 0, 1) := by decide +kernel
theorem dX4_strike_18 : decode cX4_strike 18 = .ok (.getfield 10, 3) := by decide +kernel
theorem dX4_strike_21 : decode cX4_strike 21 = .ok (.iload_n 1, 1) := by decide +kernel
theorem dX4_strike_22 : decode cX4_strike 22 = .ok (.invokevirtual 108, 3) := by decide +kernel
theorem dX4_strike_25 : decode cX4_strike 25 = .ok (.aload_n 0, 1) := by decide +kernel
theorem dX4_strike_26 : decode cX4_strike 26 = .ok (.getfield 10, 3) := by decide +kernel
theorem dX4_strike_29 : decode cX4_strike 29 = .ok (.getfield 99, 3) := by decide +kernel
theorem dX4_strike_32 : decode cX4_strike 32 = .ok (.ireturn, 1) := by decide +kernel
theorem dX4_plan_0 : decode cX4_plan 0 = .ok (.aload_n 0, 1) := by decide +kernel
theorem dX4_plan_1 : decode cX4_plan 1 = .ok (.getfield 10, 3) := by decide +kernel
theorem dX4_plan_4 : decode cX4_plan 4 = .ok (.iload_n 1, 1) := by decide +kernel
theorem dX4_plan_5 : decode cX4_plan 5 = .ok (.invokevirtual 111, 3) := by decide +kernel
theorem dX4_plan_8 : decode cX4_plan 8 = .ok (.ifCond .eq 23, 3) := by decide +kernel
theorem dX4_plan_11 : decode cX4_plan 11 = .ok (.iload_n 2, 1) := by decide +kernel
theorem dX4_plan_12 : decode cX4_plan 12 = .ok (.iload_n 3, 1) := by decide +kernel
theorem dX4_plan_13 : decode cX4_plan 13 = .ok (.invokestatic 96, 3) := by decide +kernel
theorem dX4_plan_16 : decode cX4_plan 16 = .ok (.ifCond .eq 15, 3) := by decide +kernel
theorem dX4_plan_19 : decode cX4_plan 19 = .ok (.iload 4, 2) := by decide +kernel
theorem dX4_plan_21 : decode cX4_plan 21 = .ok (.ifCond .lt 10, 3) := by decide +kernel
theorem dX4_plan_24 : decode cX4_plan 24 = .ok (.iload 4, 2) := by decide +kernel
theorem dX4_plan_26 : decode cX4_plan 26 = .ok (.bipush 6, 2) := by decide +kernel
theorem dX4_plan_28 : decode cX4_plan 28 = .ok (.if_icmp .lt 5, 3) := by decide +kernel
theorem dX4_plan_31 : decode cX4_plan 31 = .ok (.iconst (-1), 1) := by decide +kernel
theorem dX4_plan_32 : decode cX4_plan 32 = .ok (.ireturn, 1) := by decide +kernel
theorem dX4_plan_33 : decode cX4_plan 33 = .ok (.aload_n 0, 1) := by decide +kernel
theorem dX4_plan_34 : decode cX4_plan 34 = .ok (.getfield 10, 3) := by decide +kernel
theorem dX4_plan_37 : decode cX4_plan 37 = .ok (.iload_n 1, 1) := by decide +kernel
theorem dX4_plan_38 : decode cX4_plan 38 = .ok (.iload_n 2, 1) := by decide +kernel
theorem dX4_plan_39 : decode cX4_plan 39 = .ok (.iload_n 3, 1) := by decide +kernel
theorem dX4_plan_40 : decode cX4_plan 40 = .ok (.iload 4, 2) := by decide +kernel
theorem dX4_plan_42 : decode cX4_plan 42 = .ok (.invokevirtual 114, 3) := by decide +kernel
theorem dX4_plan_45 : decode cX4_plan 45 = .ok (.istore 5, 2) := by decide +kernel
theorem dX4_plan_47 : decode cX4_plan 47 = .ok (.iload 5, 2) := by decide +kernel
theorem dX4_plan_49 : decode cX4_plan 49 = .ok (.ifCond .le 19, 3) := by decide +kernel
theorem dX4_plan_52 : decode cX4_plan 52 = .ok (.aload_n 0, 1) := by decide +kernel
theorem dX4_plan_53 : decode cX4_plan 53 = .ok (.invokevirtual 62, 3) := by decide +kernel
theorem dX4_plan_56 : decode cX4_plan 56 = .ok (.aload_n 0, 1) := by decide +kernel
theorem dX4_plan_57 : decode cX4_plan 57 = .ok (.getfield 10, 3) := by decide +kernel
theorem dX4_plan_60 : decode cX4_plan 60 = .ok (.iload_n 1, 1) := by decide +kernel
theorem dX4_plan_61 : decode cX4_plan 61 = .ok (.iload_n 2, 1) := by decide +kernel
theorem dX4_plan_62 : decode cX4_plan 62 = .ok (.iload_n 3, 1) := by decide +kernel
theorem dX4_plan_63 : decode cX4_plan 63 = .ok (.iload 4, 2) := by decide +kernel
theorem dX4_plan_65 : decode cX4_plan 65 = .ok (.invokevirtual 118, 3) := by decide +kernel
theorem dX4_plan_68 : decode cX4_plan 68 = .ok (.iload 5, 2) := by decide +kernel
theorem dX4_plan_70 : decode cX4_plan 70 = .ok (.ireturn, 1) := by decide +kernel
theorem dX4_undo_0 : decode cX4_undo 0 = .ok (.aload_n 0, 1) := by decide +kernel
theorem dX4_undo_1 : decode cX4_undo 1 = .ok (.getfield 122, 3) := by decide +kernel
theorem dX4_undo_4 : decode cX4_undo 4 = .ok (.ifCond .ne 5, 3) := by decide +kernel
theorem dX4_undo_7 : decode cX4_undo 7 = .ok (.iconst (-1), 1) := by decide +kernel
theorem dX4_undo_8 : decode cX4_undo 8 = .ok (.ireturn, 1) := by decide +kernel
theorem dX4_undo_9 : decode cX4_undo 9 = .ok (.aload_n 0, 1) := by decide +kernel
theorem dX4_undo_10 : decode cX4_undo 10 = .ok (.dup, 1) := by decide +kernel
theorem dX4_undo_11 : decode cX4_undo 11 = .ok (.getfield 122, 3) := by decide +kernel
theorem dX4_undo_14 : decode cX4_undo 14 = .ok (.iconst 1, 1) := by decide +kernel
theorem dX4_undo_15 : decode cX4_undo 15 = .ok (.isub, 1) := by decide +kernel
theorem dX4_undo_16 : decode cX4_undo 16 = .ok (.putfield 122, 3) := by decide +kernel
theorem dX4_undo_19 : decode cX4_undo 19 = .ok (.aload_n 0, 1) := by decide +kernel
theorem dX4_undo_20 : decode cX4_undo 20 = .ok (.aload_n 0, 1) := by decide +kernel
theorem dX4_undo_21 : decode cX4_undo 21 = .ok (.getfield 125, 3) := by decide +kernel
theorem dX4_undo_24 : decode cX4_undo 24 = .ok (.bipush 8, 2) := by decide +kernel
theorem dX4_undo_26 : decode cX4_undo 26 = .ok (.iadd, 1) := by decide +kernel
theorem dX4_undo_27 : decode cX4_undo 27 = .ok (.iconst 1, 1) := by decide +kernel
theorem dX4_undo_28 : decode cX4_undo 28 = .ok (.isub, 1) := by decide +kernel
theorem dX4_undo_29 : decode cX4_undo 29 = .ok (.bipush 8, 2) := by decide +kernel
theorem dX4_undo_31 : decode cX4_undo 31 = .ok (.irem, 1) := by decide +kernel
theorem dX4_undo_32 : decode cX4_undo 32 = .ok (.putfield 125, 3) := by decide +kernel
theorem dX4_undo_35 : decode cX4_undo 35 = .ok (.aload_n 0, 1) := by decide +kernel
theorem dX4_undo_36 : decode cX4_undo 36 = .ok (.getfield 10, 3) := by decide +kernel
theorem dX4_undo_39 : decode cX4_undo 39 = .ok (.aload_n 0, 1) := by decide +kernel
theorem dX4_undo_40 : decode cX4_undo 40 = .ok (.getfield 16, 3) := by decide +kernel
theorem dX4_undo_43 : decode cX4_undo 43 = .ok (.aload_n 0, 1) := by decide +kernel
theorem dX4_undo_44 : decode cX4_undo 44 = .ok (.getfield 125, 3) := by decide +kernel
theorem dX4_undo_47 : decode cX4_undo 47 = .ok (.aaload, 1) := by decide +kernel
theorem dX4_undo_48 : decode cX4_undo 48 = .ok (.invokevirtual 68, 3) := by decide +kernel
theorem dX4_undo_51 : decode cX4_undo 51 = .ok (.aload_n 0, 1) := by decide +kernel
theorem dX4_undo_52 : decode cX4_undo 52 = .ok (.getfield 122, 3) := by decide +kernel
theorem dX4_undo_55 : decode cX4_undo 55 = .ok (.ireturn, 1) := by decide +kernel
theorem dX4_count_0 : decode cX4_count 0 = .ok (.iload_n 1, 1) := by decide +kernel
theorem dX4_count_1 : decode cX4_count 1 = .ok (.tableswitch 63 0 3 #[31, 39, 47, 58], 31) := by decide +kernel
theorem dX4_count_32 : decode cX4_count 32 = .ok (.aload_n 0, 1) := by decide +kernel
theorem dX4_count_33 : decode cX4_count 33 = .ok (.getfield 10, 3) := by decide +kernel
theorem dX4_count_36 : decode cX4_count 36 = .ok (.getfield 79, 3) := by decide +kernel
theorem dX4_count_39 : decode cX4_count 39 = .ok (.ireturn, 1) := by decide +kernel
theorem dX4_count_40 : decode cX4_count 40 = .ok (.aload_n 0, 1) := by decide +kernel
theorem dX4_count_41 : decode cX4_count 41 = .ok (.getfield 10, 3) := by decide +kernel
theorem dX4_count_44 : decode cX4_count 44 = .ok (.getfield 99, 3) := by decide +kernel
theorem dX4_count_47 : decode cX4_count 47 = .ok (.ireturn, 1) := by decide +kernel
theorem dX4_count_48 : decode cX4_count 48 = .ok (.aload_n 0, 1) := by decide +kernel
theorem dX4_count_49 : decode cX4_count 49 = .ok (.getfield 23, 3) := by decide +kernel
theorem dX4_count_52 : decode cX4_count 52 = .ok (.getfield 41, 3) := by decide +kernel
theorem dX4_count_55 : decode cX4_count 55 = .ok (.getfield 45, 3) := by decide +kernel
theorem dX4_count_58 : decode cX4_count 58 = .ok (.ireturn, 1) := by decide +kernel
theorem dX4_count_59 : decode cX4_count 59 = .ok (.aload_n 0, 1) := by decide +kernel
theorem dX4_count_60 : decode cX4_count 60 = .ok (.getfield 122, 3) := by decide +kernel
theorem dX4_count_63 : decode cX4_count 63 = .ok (.ireturn, 1) := by decide +kernel
theorem dX4_count_64 : decode cX4_count 64 = .ok (.aload_n 0, 1) := by decide +kernel
theorem dX4_count_65 : decode cX4_count 65 = .ok (.iload_n 1, 1) := by decide +kernel
theorem dX4_count_66 : decode cX4_count 66 = .ok (.invokevirtual 128, 3) := by decide +kernel
theorem dX4_count_69 : decode cX4_count 69 = .ok (.ireturn, 1) := by decide +kernel
theorem dX4_countNumber_0 : decode cX4_countNumber 0 = .ok (.iload_n 1, 1) := by decide +kernel
theorem dX4_countNumber_1 : decode cX4_countNumber 1 = .ok (.bipush 10, 2) := by decide +kernel
theorem dX4_countNumber_3 : decode cX4_countNumber 3 = .ok (.if_icmp .lt 22, 3) := by decide +kernel
theorem dX4_countNumber_6 : decode cX4_countNumber 6 = .ok (.iload_n 1, 1) := by decide +kernel
theorem dX4_countNumber_7 : decode cX4_countNumber 7 = .ok (.bipush 16, 2) := by decide +kernel
theorem dX4_countNumber_9 : decode cX4_countNumber 9 = .ok (.if_icmp .ge 16, 3) := by decide +kernel
theorem dX4_countNumber_12 : decode cX4_countNumber 12 = .ok (.aload_n 0, 1) := by decide +kernel
theorem dX4_countNumber_13 : decode cX4_countNumber 13 = .ok (.getfield 10, 3) := by decide +kernel
theorem dX4_countNumber_16 : decode cX4_countNumber 16 = .ok (.getfield 86, 3) := by decide +kernel
theorem dX4_countNumber_19 : decode cX4_countNumber 19 = .ok (.iload_n 1, 1) := by decide +kernel
theorem dX4_countNumber_20 : decode cX4_countNumber 20 = .ok (.bipush 10, 2) := by decide +kernel
theorem dX4_countNumber_22 : decode cX4_countNumber 22 = .ok (.isub, 1) := by decide +kernel
theorem dX4_countNumber_23 : decode cX4_countNumber 23 = .ok (.iaload, 1) := by decide +kernel
theorem dX4_countNumber_24 : decode cX4_countNumber 24 = .ok (.ireturn, 1) := by decide +kernel
theorem dX4_countNumber_25 : decode cX4_countNumber 25 = .ok (.iload_n 1, 1) := by decide +kernel
theorem dX4_countNumber_26 : decode cX4_countNumber 26 = .ok (.bipush 20, 2) := by decide +kernel
theorem dX4_countNumber_28 : decode cX4_countNumber 28 = .ok (.if_icmp .lt 22, 3) := by decide +kernel
theorem dX4_countNumber_31 : decode cX4_countNumber 31 = .ok (.iload_n 1, 1) := by decide +kernel
theorem dX4_countNumber_32 : decode cX4_countNumber 32 = .ok (.bipush 28, 2) := by decide +kernel
theorem dX4_countNumber_34 : decode cX4_countNumber 34 = .ok (.if_icmp .ge 16, 3) := by decide +kernel
theorem dX4_countNumber_37 : decode cX4_countNumber 37 = .ok (.aload_n 0, 1) := by decide +kernel
theorem dX4_countNumber_38 : decode cX4_countNumber 38 = .ok (.getfield 10, 3) := by decide +kernel
theorem dX4_countNumber_41 : decode cX4_countNumber 41 = .ok (.getfield 93, 3) := by decide +kernel
theorem dX4_countNumber_44 : decode cX4_countNumber 44 = .ok (.iload_n 1, 1) := by decide +kernel
theorem dX4_countNumber_45 : decode cX4_countNumber 45 = .ok (.bipush 20, 2) := by decide +kernel
theorem dX4_countNumber_47 : decode cX4_countNumber 47 = .ok (.isub, 1) := by decide +kernel
theorem dX4_countNumber_48 : decode cX4_countNumber 48 = .ok (.iaload, 1) := by decide +kernel
theorem dX4_countNumber_49 : decode cX4_countNumber 49 = .ok (.ireturn, 1) := by decide +kernel
theorem dX4_countNumber_50 : decode cX4_countNumber 50 = .ok (.iconst (-1), 1) := by decide +kernel
theorem dX4_countNumber_51 : decode cX4_countNumber 51 = .ok (.ireturn, 1) := by decide +kernel
theorem dX4_feed_0 : decode cX4_feed 0 = .ok (.aload_n 0, 1) := by decide +kernel
theorem dX4_feed_1 : decode cX4_feed 1 = .ok (.getfield 23, 3) := by decide +kernel
theorem dX4_feed_4 : decode cX4_feed 4 = .ok (.getfield 41, 3) := by decide +kernel
theorem dX4_feed_7 : decode cX4_feed 7 = .ok (.astore 6, 2) := by decide +kernel
theorem dX4_feed_9 : decode cX4_feed 9 = .ok (.aload 6, 2) := by decide +kernel
theorem dX4_feed_11 : decode cX4_feed 11 = .ok (.getfield 45, 3) := by decide +kernel
theorem dX4_feed_14 : decode cX4_feed 14 = .ok (.sipush 380, 3) := by decide +kernel
theorem dX4_feed_17 : decode cX4_feed 17 = .ok (.if_icmp .le 5, 3) := by decide +kernel
theorem dX4_feed_20 : decode cX4_feed 20 = .ok (.iconst (-1), 1) := by decide +kernel
theorem dX4_feed_21 : decode cX4_feed 21 = .ok (.ireturn, 1) := by decide +kernel
theorem dX4_feed_22 : decode cX4_feed 22 = .ok (.aload 6, 2) := by decide +kernel
theorem dX4_feed_24 : decode cX4_feed 24 = .ok (.iload_n 1, 1) := by decide +kernel
theorem dX4_feed_25 : decode cX4_feed 25 = .ok (.invokevirtual 51, 3) := by decide +kernel
theorem dX4_feed_28 : decode cX4_feed 28 = .ok (.aload 6, 2) := by decide +kernel
theorem dX4_feed_30 : decode cX4_feed 30 = .ok (.iload_n 2, 1) := by decide +kernel
theorem dX4_feed_31 : decode cX4_feed 31 = .ok (.invokevirtual 51, 3) := by decide +kernel
theorem dX4_feed_34 : decode cX4_feed 34 = .ok (.aload 6, 2) := by decide +kernel
theorem dX4_feed_36 : decode cX4_feed 36 = .ok (.iload_n 3, 1) := by decide +kernel
theorem dX4_feed_37 : decode cX4_feed 37 = .ok (.invokevirtual 51, 3) := by decide +kernel
theorem dX4_feed_40 : decode cX4_feed 40 = .ok (.aload 6, 2) := by decide +kernel
theorem dX4_feed_42 : decode cX4_feed 42 = .ok (.iload 4, 2) := by decide +kernel
theorem dX4_feed_44 : decode cX4_feed 44 = .ok (.invokevirtual 51, 3) := by decide +kernel
theorem dX4_feed_47 : decode cX4_feed 47 = .ok (.aload 6, 2) := by decide +kernel
theorem dX4_feed_49 : decode cX4_feed 49 = .ok (.iload 5, 2) := by decide +kernel
theorem dX4_feed_51 : decode cX4_feed 51 = .ok (.invokevirtual 51, 3) := by decide +kernel
theorem dX4_feed_54 : decode cX4_feed 54 = .ok (.aload 6, 2) := by decide +kernel
theorem dX4_feed_56 : decode cX4_feed 56 = .ok (.getfield 45, 3) := by decide +kernel
theorem dX4_feed_59 : decode cX4_feed 59 = .ok (.ireturn, 1) := by decide +kernel
theorem dX4_end_0 : decode cX4_end 0 = .ok (.iload_n 1, 1) := by decide +kernel
theorem dX4_end_1 : decode cX4_end 1 = .ok (.ifCond .lt 17, 3) := by decide +kernel
theorem dX4_end_4 : decode cX4_end 4 = .ok (.iload_n 1, 1) := by decide +kernel
theorem dX4_end_5 : decode cX4_end 5 = .ok (.aload_n 0, 1) := by decide +kernel
theorem dX4_end_6 : decode cX4_end 6 = .ok (.getfield 23, 3) := by decide +kernel
theorem dX4_end_9 : decode cX4_end 9 = .ok (.getfield 41, 3) := by decide +kernel
theorem dX4_end_12 : decode cX4_end 12 = .ok (.getfield 45, 3) := by decide +kernel
theorem dX4_end_15 : decode cX4_end 15 = .ok (.if_icmp .le 5, 3) := by decide +kernel
theorem dX4_end_18 : decode cX4_end 18 = .ok (.iconst 0, 1) := by decide +kernel
theorem dX4_end_19 : decode cX4_end 19 = .ok (.ireturn, 1) := by decide +kernel
theorem dX4_end_20 : decode cX4_end 20 = .ok (.aload_n 0, 1) := by decide +kernel
theorem dX4_end_21 : decode cX4_end 21 = .ok (.getfield 23, 3) := by decide +kernel
theorem dX4_end_24 : decode cX4_end 24 = .ok (.getfield 41, 3) := by decide +kernel
theorem dX4_end_27 : decode cX4_end 27 = .ok (.iload_n 1, 1) := by decide +kernel
theorem dX4_end_28 : decode cX4_end 28 = .ok (.putfield 45, 3) := by decide +kernel
theorem dX4_end_31 : decode cX4_end 31 = .ok (.iconst 1, 1) := by decide +kernel
theorem dX4_end_32 : decode cX4_end 32 = .ok (.ireturn, 1) := by decide +kernel
theorem dX4_fault_0 : decode cX4_fault 0 = .ok (.aload_n 0, 1) := by decide +kernel
theorem dX4_fault_1 : decode cX4_fault 1 = .ok (.getfield 23, 3) := by decide +kernel
theorem dX4_fault_4 : decode cX4_fault 4 = .ok (.getfield 72, 3) := by decide +kernel
theorem dX4_fault_7 : decode cX4_fault 7 = .ok (.ireturn, 1) := by decide +kernel
theorem dX4_canBeAtFirst_0 : decode cX4_canBeAtFirst 0 = .ok (.iload_n 0, 1) := by decide +kernel
theorem dX4_canBeAtFirst_1 : decode cX4_canBeAtFirst 1 = .ok (.ifCond .lt 14, 3) := by decide +kernel
theorem dX4_canBeAtFirst_4 : decode cX4_canBeAtFirst 4 = .ok (.iload_n 0, 1) := by decide +kernel
theorem dX4_canBeAtFirst_5 : decode cX4_canBeAtFirst 5 = .ok (.sipush 9999, 3) := by decide +kernel
theorem dX4_canBeAtFirst_8 : decode cX4_canBeAtFirst 8 = .ok (.if_icmp .gt 7, 3) := by decide +kernel
theorem dX4_canBeAtFirst_11 : decode cX4_canBeAtFirst 11 = .ok (.iconst 1, 1) := by decide +kernel
theorem dX4_canBeAtFirst_12 : decode cX4_canBeAtFirst 12 = .ok (.goto 4, 3) := by decide +kernel
theorem dX4_canBeAtFirst_15 : decode cX4_canBeAtFirst 15 = .ok (.iconst 0, 1) := by decide +kernel
theorem dX4_canBeAtFirst_16 : decode cX4_canBeAtFirst 16 = .ok (.ireturn, 1) := by decide +kernel
theorem dX4_canBeSetting_0 : decode cX4_canBeSetting 0 = .ok (.iload_n 0, 1) := by decide +kernel
theorem dX4_canBeSetting_1 : decode cX4_canBeSetting 1 = .ok (.ifCond .lt 31, 3) := by decide +kernel
theorem dX4_canBeSetting_4 : decode cX4_canBeSetting 4 = .ok (.iload_n 0, 1) := by decide +kernel
theorem dX4_canBeSetting_5 : decode cX4_canBeSetting 5 = .ok (.bipush 8, 2) := by decide +kernel
theorem dX4_canBeSetting_7 : decode cX4_canBeSetting 7 = .ok (.if_icmp .ge 25, 3) := by decide +kernel
theorem dX4_canBeSetting_10 : decode cX4_canBeSetting 10 = .ok (.iload_n 1, 1) := by decide +kernel
theorem dX4_canBeSetting_11 : decode cX4_canBeSetting 11 = .ok (.getstatic 213, 3) := by decide +kernel
theorem dX4_canBeSetting_14 : decode cX4_canBeSetting 14 = .ok (.iload_n 0, 1) := by decide +kernel
theorem dX4_canBeSetting_15 : decode cX4_canBeSetting 15 = .ok (.iaload, 1) := by decide +kernel
theorem dX4_canBeSetting_16 : decode cX4_canBeSetting 16 = .ok (.if_icmp .lt 16, 3) := by decide +kernel
theorem dX4_canBeSetting_19 : decode cX4_canBeSetting 19 = .ok (.iload_n 1, 1) := by decide +kernel
theorem dX4_canBeSetting_20 : decode cX4_canBeSetting 20 = .ok (.getstatic 216, 3) := by decide +kernel
theorem dX4_canBeSetting_23 : decode cX4_canBeSetting 23 = .ok (.iload_n 0, 1) := by decide +kernel
theorem dX4_canBeSetting_24 : decode cX4_canBeSetting 24 = .ok (.iaload, 1) := by decide +kernel
theorem dX4_canBeSetting_25 : decode cX4_canBeSetting 25 = .ok (.if_icmp .gt 7, 3) := by decide +kernel
theorem dX4_canBeSetting_28 : decode cX4_canBeSetting 28 = .ok (.iconst 1, 1) := by decide +kernel
theorem dX4_canBeSetting_29 : decode cX4_canBeSetting 29 = .ok (.goto 4, 3) := by decide +kernel
theorem dX4_canBeSetting_32 : decode cX4_canBeSetting 32 = .ok (.iconst 0, 1) := by decide +kernel
theorem dX4_canBeSetting_33 : decode cX4_canBeSetting 33 = .ok (.ireturn, 1) := by decide +kernel
theorem dX4_areDays_0 : decode cX4_areDays 0 = .ok (.iload_n 0, 1) := by decide +kernel
theorem dX4_areDays_1 : decode cX4_areDays 1 = .ok (.invokestatic 145, 3) := by decide +kernel
theorem dX4_areDays_4 : decode cX4_areDays 4 = .ok (.ifCond .eq 19, 3) := by decide +kernel
theorem dX4_areDays_7 : decode cX4_areDays 7 = .ok (.iload_n 1, 1) := by decide +kernel
theorem dX4_areDays_8 : decode cX4_areDays 8 = .ok (.invokestatic 145, 3) := by decide +kernel
theorem dX4_areDays_11 : decode cX4_areDays 11 = .ok (.ifCond .eq 12, 3) := by decide +kernel
theorem dX4_areDays_14 : decode cX4_areDays 14 = .ok (.iload_n 0, 1) := by decide +kernel
theorem dX4_areDays_15 : decode cX4_areDays 15 = .ok (.iload_n 1, 1) := by decide +kernel
theorem dX4_areDays_16 : decode cX4_areDays 16 = .ok (.if_icmp .gt 7, 3) := by decide +kernel
theorem dX4_areDays_19 : decode cX4_areDays 19 = .ok (.iconst 1, 1) := by decide +kernel
theorem dX4_areDays_20 : decode cX4_areDays 20 = .ok (.goto 4, 3) := by decide +kernel
theorem dX4_areDays_23 : decode cX4_areDays 23 = .ok (.iconst 0, 1) := by decide +kernel
theorem dX4_areDays_24 : decode cX4_areDays 24 = .ok (.ireturn, 1) := by decide +kernel
theorem dX4_isDay_0 : decode cX4_isDay 0 = .ok (.iload_n 0, 1) := by decide +kernel
theorem dX4_isDay_1 : decode cX4_isDay 1 = .ok (.ifCond .lt 13, 3) := by decide +kernel
theorem dX4_isDay_4 : decode cX4_isDay 4 = .ok (.iload_n 0, 1) := by decide +kernel
theorem dX4_isDay_5 : decode cX4_isDay 5 = .ok (.bipush 70, 2) := by decide +kernel
theorem dX4_isDay_7 : decode cX4_isDay 7 = .ok (.if_icmp .ge 7, 3) := by decide +kernel
theorem dX4_isDay_10 : decode cX4_isDay 10 = .ok (.iconst 1, 1) := by decide +kernel
theorem dX4_isDay_11 : decode cX4_isDay 11 = .ok (.goto 4, 3) := by decide +kernel
theorem dX4_isDay_14 : decode cX4_isDay 14 = .ok (.iconst 0, 1) := by decide +kernel
theorem dX4_isDay_15 : decode cX4_isDay 15 = .ok (.ireturn, 1) := by decide +kernel
theorem dX1_append_0 : decode cX1_append 0 = .ok (.bipush 24, 2) := by decide +kernel
theorem dX1_append_2 : decode cX1_append 2 = .ok (.istore_n 2, 1) := by decide +kernel
theorem dX1_append_3 : decode cX1_append 3 = .ok (.iload_n 2, 1) := by decide +kernel
theorem dX1_append_4 : decode cX1_append 4 = .ok (.ifCond .lt 42, 3) := by decide +kernel
theorem dX1_append_7 : decode cX1_append 7 = .ok (.aload_n 0, 1) := by decide +kernel
theorem dX1_append_8 : decode cX1_append 8 = .ok (.getfield 25, 3) := by decide +kernel
theorem dX1_append_11 : decode cX1_append 11 = .ok (.sipush 400, 3) := by decide +kernel
theorem dX1_append_14 : decode cX1_append 14 = .ok (.if_icmp .ge 32, 3) := by decide +kernel
theorem dX1_append_17 : decode cX1_append 17 = .ok (.aload_n 0, 1) := by decide +kernel
theorem dX1_append_18 : decode cX1_append 18 = .ok (.getfield 9, 3) := by decide +kernel
theorem dX1_append_21 : decode cX1_append 21 = .ok (.aload_n 0, 1) := by decide +kernel
theorem dX1_append_22 : decode cX1_append 22 = .ok (.getfield 25, 3) := by decide +kernel
theorem dX1_append_25 : decode cX1_append 25 = .ok (.iload_n 1, 1) := by decide +kernel
theorem dX1_append_26 : decode cX1_append 26 = .ok (.iload_n 2, 1) := by decide +kernel
theorem dX1_append_27 : decode cX1_append 27 = .ok (.ishr, 1) := by decide +kernel
theorem dX1_append_28 : decode cX1_append 28 = .ok (.i2b, 1) := by decide +kernel
theorem dX1_append_29 : decode cX1_append 29 = .ok (.bastore, 1) := by decide +kernel
theorem dX1_append_30 : decode cX1_append 30 = .ok (.aload_n 0, 1) := by decide +kernel
theorem dX1_append_31 : decode cX1_append 31 = .ok (.dup, 1) := by decide +kernel
theorem dX1_append_32 : decode cX1_append 32 = .ok (.getfield 25, 3) := by decide +kernel
theorem dX1_append_35 : decode cX1_append 35 = .ok (.iconst 1, 1) := by decide +kernel
theorem dX1_append_36 : decode cX1_append 36 = .ok (.iadd, 1) := by decide +kernel
theorem dX1_append_37 : decode cX1_append 37 = .ok (.putfield 25, 3) := by decide +kernel
theorem dX1_append_40 : decode cX1_append 40 = .ok (.iinc 2 (-8), 3) := by decide +kernel
theorem dX1_append_43 : decode cX1_append 43 = .ok (.goto (-40), 3) := by decide +kernel
theorem dX1_append_46 : decode cX1_append 46 = .ok (.return_, 1) := by decide +kernel

theorem nI_div {a b : Nat} (ha : a < 2 ^ 31) (hb : b < 2 ^ 31) : nI a / nI b = nI (a / b) := by
  apply Int32.toInt_inj.mp
  have h1 : a / b < 2 ^ 31 := Nat.lt_of_le_of_lt (Nat.div_le_self a b) ha
  rw [Int32.toInt_div_of_ne_right _ _ (by
    intro h
    have := congrArg Int32.toInt h
    rw [nI_toInt hb] at this
    have e : (-1 : Int32).toInt = -1 := by decide
    omega), nI_toInt ha, nI_toInt hb, nI_toInt h1]
  exact (Int.ofNat_tdiv a b).symm
theorem nI_rem {a b : Nat} (ha : a < 2 ^ 31) (hb : b < 2 ^ 31) : nI a - nI a / nI b * nI b = nI (a % b) := by
  rw [nI_div ha hb, nI_mul, nI_sub (Nat.div_mul_le_self a b)]
  congr 1
  have := Nat.mod_add_div a b
  rw [Nat.mul_comm] at this
  omega
theorem le0_iff (k : Int32) : k ≤ 0 ↔ ¬ nI 1 ≤ k := by
  have e : (nI 1).toInt = 1 := nI_toInt (by decide)
  rw [Int32.le_iff_toInt_le, Int32.le_iff_toInt_le, e, Int32.toInt_zero]; omega
theorem lt0_iff (k : Int32) : k < 0 ↔ ¬ nI 0 ≤ k := by
  rw [nI_0, Int32.not_le]
theorem ge_iff {n : Nat} (hn : n + 1 < 2 ^ 31) (k : Int32) : nI (n + 1) ≤ k ↔ ¬ k ≤ nI n := by
  rw [Int32.le_iff_toInt_le, Int32.le_iff_toInt_le, nI_toInt hn, nI_toInt (by omega)]; omega
theorem past_at {j : Nat} (h : j < 8) : [52, 60, 68, 76, 84, 92, 100, 108][j]? = some (pastB j) := by
  unfold pastB
  rcases (show j = 0 ∨ j = 1 ∨ j = 2 ∨ j = 3 ∨ j = 4 ∨ j = 5 ∨ j = 6 ∨ j = 7 by omega) with rfl | rfl | rfl | rfl | rfl | rfl | rfl | rfl <;> rfl
section BT
variable {G : mG} {d : Nat} {σ : mS}
theorem v_bIsDay (e : Int32) : mV G mX4_isDay d [.int e] σ (some (.int (bI (dB e)))) σ := by
  refine mV_of fun Q hQ => ?_
  refine F_iload_n dX4_isDay_0 rfl ?_
  refine F_if_lt (tgt := 14) dX4_isDay_1 rfl (fun c1 => ?_) (fun c1 => ?_)
  · refine F_iconst (v := nI 0) dX4_isDay_14 rfl ?_
    refine F_zret dX4_isDay_15 rfl (by first | exact Or.inl rfl | exact Or.inr rfl | exact bI_01 _) ?_
    rw [lt0_iff] at c1
    first | exact Qb1 hQ (by simp only [dB, Bool.and_eq_true, decide_eq_true_eq]; exact ⟨Decidable.not_not.mp c1, Int32.not_le.mp c7⟩) | exact Qb0 hQ (by rw [dB, decide_eq_false c1]; rfl) | exact Qb0 hQ (by rw [dB, decide_eq_false (Int32.not_lt.mpr c7), Bool.and_false])
  · refine F_iload_n dX4_isDay_4 rfl ?_
    refine F_bipush (v := nI 70) dX4_isDay_5 rfl ?_
    refine F_icmp_ge (tgt := 14) dX4_isDay_7 rfl (fun c7 => ?_) (fun c7 => ?_)
    · refine F_iconst (v := nI 0) dX4_isDay_14 rfl ?_
      refine F_zret dX4_isDay_15 rfl (by first | exact Or.inl rfl | exact Or.inr rfl | exact bI_01 _) ?_
      rw [lt0_iff] at c1
      first | exact Qb1 hQ (by simp only [dB, Bool.and_eq_true, decide_eq_true_eq]; exact ⟨Decidable.not_not.mp c1, Int32.not_le.mp c7⟩) | exact Qb0 hQ (by rw [dB, decide_eq_false c1]; rfl) | exact Qb0 hQ (by rw [dB, decide_eq_false (Int32.not_lt.mpr c7), Bool.and_false])
    · refine F_iconst (v := nI 1) dX4_isDay_10 rfl ?_
      refine F_goto (tgt := 15) dX4_isDay_11 rfl ?_
      refine F_zret dX4_isDay_15 rfl (by first | exact Or.inl rfl | exact Or.inr rfl | exact bI_01 _) ?_
      rw [lt0_iff] at c1
      first | exact Qb1 hQ (by simp only [dB, Bool.and_eq_true, decide_eq_true_eq]; exact ⟨Decidable.not_not.mp c1, Int32.not_le.mp c7⟩) | exact Qb0 hQ (by rw [dB, decide_eq_false c1]; rfl) | exact Qb0 hQ (by rw [dB, decide_eq_false (Int32.not_lt.mpr c7), Bool.and_false])

theorem v_bAreDays (a b : Int32) : mV G mX4_areDays (d + 1) [.int a, .int b] σ (some (.int (bI (dB a && dB b && decide (a ≤ b))))) σ := by
  refine mV_of fun Q hQ => ?_
  refine F_iload_n dX4_areDays_0 rfl ?_
  refine F_cS1i (v_bIsDay (d := d) _) dX4_areDays_1 rfl rfl rfl (by decide) (Nat.le_of_ble_eq_true rfl) (by omega) ?_
  refine F_if_eqB (tgt := 23) dX4_areDays_4 rfl (fun c4 => ?_) (fun c4 => ?_)
  · refine F_iconst (v := nI 0) dX4_areDays_23 rfl ?_
    refine F_zret dX4_areDays_24 rfl (by first | exact Or.inl rfl | exact Or.inr rfl | exact bI_01 _) ?_
    first | exact Qb1 hQ (by simp_all) | exact Qb0 hQ (by simp_all)
  · refine F_iload_n dX4_areDays_7 rfl ?_
    refine F_cS1i (v_bIsDay (d := d) _) dX4_areDays_8 rfl rfl rfl (by decide) (Nat.le_of_ble_eq_true rfl) (by omega) ?_
    refine F_if_eqB (tgt := 23) dX4_areDays_11 rfl (fun c11 => ?_) (fun c11 => ?_)
    · refine F_iconst (v := nI 0) dX4_areDays_23 rfl ?_
      refine F_zret dX4_areDays_24 rfl (by first | exact Or.inl rfl | exact Or.inr rfl | exact bI_01 _) ?_
      first | exact Qb1 hQ (by simp_all) | exact Qb0 hQ (by simp_all)
    · refine F_iload_n dX4_areDays_14 rfl ?_
      refine F_iload_n dX4_areDays_15 rfl ?_
      refine F_icmp_gt (tgt := 23) dX4_areDays_16 rfl (fun c16 => ?_) (fun c16 => ?_)
      · refine F_iconst (v := nI 0) dX4_areDays_23 rfl ?_
        refine F_zret dX4_areDays_24 rfl (by first | exact Or.inl rfl | exact Or.inr rfl | exact bI_01 _) ?_
        first | exact Qb1 hQ (by simp_all) | exact Qb0 hQ (by simp_all)
      · refine F_iconst (v := nI 1) dX4_areDays_19 rfl ?_
        refine F_goto (tgt := 24) dX4_areDays_20 rfl ?_
        refine F_zret dX4_areDays_24 rfl (by first | exact Or.inl rfl | exact Or.inr rfl | exact bI_01 _) ?_
        first | exact Qb1 hQ (by simp_all) | exact Qb0 hQ (by simp_all)

theorem v_canBeAtFirst (v : Int32) : mV G mX4_canBeAtFirst d [.int v] σ (some (.int (bI (inR v (nI 0) (nI 9999))))) σ := by
  refine mV_of fun Q hQ => ?_
  refine F_iload_n dX4_canBeAtFirst_0 rfl ?_
  refine F_if_lt (tgt := 15) dX4_canBeAtFirst_1 rfl (fun c1 => ?_) (fun c1 => ?_)
  · refine F_iconst (v := nI 0) dX4_canBeAtFirst_15 rfl ?_
    refine F_zret dX4_canBeAtFirst_16 rfl (by first | exact Or.inl rfl | exact Or.inr rfl | exact bI_01 _) ?_
    rw [lt0_iff] at c1
    first | exact Qb1 hQ (by simp only [inR, Bool.and_eq_true, decide_eq_true_eq]; exact ⟨Decidable.not_not.mp c1, Int32.not_lt.mp c8⟩) | exact Qb0 hQ (by rw [inR, decide_eq_false c1]; rfl) | exact Qb0 hQ (by rw [inR, decide_eq_false (Int32.not_le.mpr c8), Bool.and_false])
  · refine F_iload_n dX4_canBeAtFirst_4 rfl ?_
    refine F_sipush (v := nI 9999) dX4_canBeAtFirst_5 rfl ?_
    refine F_icmp_gt (tgt := 15) dX4_canBeAtFirst_8 rfl (fun c8 => ?_) (fun c8 => ?_)
    · refine F_iconst (v := nI 0) dX4_canBeAtFirst_15 rfl ?_
      refine F_zret dX4_canBeAtFirst_16 rfl (by first | exact Or.inl rfl | exact Or.inr rfl | exact bI_01 _) ?_
      rw [lt0_iff] at c1
      first | exact Qb1 hQ (by simp only [inR, Bool.and_eq_true, decide_eq_true_eq]; exact ⟨Decidable.not_not.mp c1, Int32.not_lt.mp c8⟩) | exact Qb0 hQ (by rw [inR, decide_eq_false c1]; rfl) | exact Qb0 hQ (by rw [inR, decide_eq_false (Int32.not_le.mpr c8), Bool.and_false])
    · refine F_iconst (v := nI 1) dX4_canBeAtFirst_11 rfl ?_
      refine F_goto (tgt := 16) dX4_canBeAtFirst_12 rfl ?_
      refine F_zret dX4_canBeAtFirst_16 rfl (by first | exact Or.inl rfl | exact Or.inr rfl | exact bI_01 _) ?_
      rw [lt0_iff] at c1
      first | exact Qb1 hQ (by simp only [inR, Bool.and_eq_true, decide_eq_true_eq]; exact ⟨Decidable.not_not.mp c1, Int32.not_lt.mp c8⟩) | exact Qb0 hQ (by rw [inR, decide_eq_false c1]; rfl) | exact Qb0 hQ (by rw [inR, decide_eq_false (Int32.not_le.mpr c8), Bool.and_false])

theorem v_canBeSettingA (t v : Int32) (h : inR t (nI 0) (nI 7) = false) : mV G mX4_canBeSetting d [.int t, .int v] σ (some (.int (bI false))) σ := by
  refine mV_of fun Q hQ => ?_
  refine F_iload_n dX4_canBeSetting_0 rfl ?_
  refine F_if_lt (tgt := 32) dX4_canBeSetting_1 rfl (fun c1 => ?_) (fun c1 => ?_)
  · refine F_iconst (v := nI 0) dX4_canBeSetting_32 rfl ?_
    refine F_zret dX4_canBeSetting_33 rfl (by first | exact Or.inl rfl | exact Or.inr rfl | exact bI_01 _) ?_
    exact hQ
  · refine F_iload_n dX4_canBeSetting_4 rfl ?_
    refine F_bipush (v := nI 8) dX4_canBeSetting_5 rfl ?_
    refine F_icmp_ge (tgt := 32) dX4_canBeSetting_7 rfl (fun c7 => ?_) (fun c7 => ?_)
    · refine F_iconst (v := nI 0) dX4_canBeSetting_32 rfl ?_
      refine F_zret dX4_canBeSetting_33 rfl (by first | exact Or.inl rfl | exact Or.inr rfl | exact bI_01 _) ?_
      exact hQ
    · exfalso
      rw [lt0_iff, Decidable.not_not] at c1
      rw [ge_iff (n := 7) (by decide), Decidable.not_not] at c7
      rw [inR, decide_eq_true c1, decide_eq_true c7] at h
      cases h

theorem v_canBeSettingB (v : Int32) {k : Nat} (hk : k < 8) : mV G mX4_canBeSetting d [.int (nI k), .int v] σ (some (.int (bI (inR v (mLeast.getD k 0) (mMost.getD k 0))))) σ := by
  refine mV_of fun Q hQ => ?_
  refine F_iload_n dX4_canBeSetting_0 rfl ?_
  refine F_if_ltN (tgt := 32) dX4_canBeSetting_1 rfl (by omega) ?_
  refine F_iload_n dX4_canBeSetting_4 rfl ?_
  refine F_bipush (v := nI 8) dX4_canBeSetting_5 rfl ?_
  refine F_icmp_geN (tgt := 32) dX4_canBeSetting_7 rfl (by omega) (by omega) (fun c7 => ?_) (fun c7 => ?_)
  · exact absurd c7 (by omega)
  · refine F_iload_n dX4_canBeSetting_10 rfl ?_
    refine F_getstatic dX4_canBeSetting_11 rfl rfl ?_
    refine F_iload_n dX4_canBeSetting_14 rfl ?_
    refine F_ialdX dX4_canBeSetting_15 (by decide) hk (show 8 < 2 ^ 31 by decide) ?_
    refine F_icmp_lt (tgt := 32) dX4_canBeSetting_16 rfl (fun c16 => ?_) (fun c16 => ?_)
    · refine F_iconst (v := nI 0) dX4_canBeSetting_32 rfl ?_
      refine F_zret dX4_canBeSetting_33 rfl (by first | exact Or.inl rfl | exact Or.inr rfl | exact bI_01 _) ?_
      have c16 : _ := c16
      first | exact Qb1 hQ (by simp only [inR, Bool.and_eq_true, decide_eq_true_eq]; exact ⟨Int32.not_lt.mp c16, Int32.not_lt.mp c25⟩) | exact Qb0 hQ (by simp only [inR, Bool.and_eq_false_iff, decide_eq_false_iff_not, Int32.not_le]; exact Or.inl c16) | exact Qb0 hQ (by simp only [inR, Bool.and_eq_false_iff, decide_eq_false_iff_not, Int32.not_le]; exact Or.inr c25)
    · refine F_iload_n dX4_canBeSetting_19 rfl ?_
      refine F_getstatic dX4_canBeSetting_20 rfl rfl ?_
      refine F_iload_n dX4_canBeSetting_23 rfl ?_
      refine F_ialdX dX4_canBeSetting_24 (by decide) hk (show 8 < 2 ^ 31 by decide) ?_
      refine F_icmp_gt (tgt := 32) dX4_canBeSetting_25 rfl (fun c25 => ?_) (fun c25 => ?_)
      · refine F_iconst (v := nI 0) dX4_canBeSetting_32 rfl ?_
        refine F_zret dX4_canBeSetting_33 rfl (by first | exact Or.inl rfl | exact Or.inr rfl | exact bI_01 _) ?_
        have c16 : _ := c16
        first | exact Qb1 hQ (by simp only [inR, Bool.and_eq_true, decide_eq_true_eq]; exact ⟨Int32.not_lt.mp c16, Int32.not_lt.mp c25⟩) | exact Qb0 hQ (by simp only [inR, Bool.and_eq_false_iff, decide_eq_false_iff_not, Int32.not_le]; exact Or.inl c16) | exact Qb0 hQ (by simp only [inR, Bool.and_eq_false_iff, decide_eq_false_iff_not, Int32.not_le]; exact Or.inr c25)
      · refine F_iconst (v := nI 1) dX4_canBeSetting_28 rfl ?_
        refine F_goto (tgt := 33) dX4_canBeSetting_29 rfl ?_
        refine F_zret dX4_canBeSetting_33 rfl (by first | exact Or.inl rfl | exact Or.inr rfl | exact bI_01 _) ?_
        have c16 : _ := c16
        first | exact Qb1 hQ (by simp only [inR, Bool.and_eq_true, decide_eq_true_eq]; exact ⟨Int32.not_lt.mp c16, Int32.not_lt.mp c25⟩) | exact Qb0 hQ (by simp only [inR, Bool.and_eq_false_iff, decide_eq_false_iff_not, Int32.not_le]; exact Or.inl c16) | exact Qb0 hQ (by simp only [inR, Bool.and_eq_false_iff, decide_eq_false_iff_not, Int32.not_le]; exact Or.inr c25)

/-- the state that is remembered goes behind the others -/
def remS (σ : mS) (j u : Nat) : mS := up (up (copyT σ (pastB j) 4) 3 3 (nI ((j + 1) % 8))) 3 2 (nI (min (u + 1) 8))
theorem copyT_far (σ : mS) {b o a : Nat} (h : a < b ∨ b + 8 ≤ a) : copyT σ b o a = σ a := by
  simp only [copyT, cp1]
  rw [upR_n _ _ (by omega), upR_n _ _ (by omega), upR_n _ _ (by omega), upR_n _ _ (by omega), up_n _ _ _ (by omega), upR_n _ _ (by omega), upR_n _ _ (by omega), upR_n _ _ (by omega), up_n _ _ _ (by omega)]
theorem pastB_ge (j : Nat) : 52 ≤ pastB j := Nat.le_add_right _ _
theorem v_remember {j u : Nat} (hj : σ 3 3 = nI j) (hj8 : j < 8) (hu : σ 3 2 = nI u) (hu8 : u ≤ 8) : mV G mX4_remember (d + 1) [.ref 3] σ none (remS σ j u) := by
  refine mV_of fun Q hQ => ?_
  have hp := pastB_ge j
  have hc : ∀ i, copyT σ (pastB j) 4 3 i = σ 3 i := fun i => by rw [copyT_far _ (by omega)]
  refine F_aload_n dX4_remember_0 rfl ?_
  refine F_getr dX4_remember_1 rfl rfl (by first | assumption | rfl) rfl ?_
  refine F_aload_n dX4_remember_4 rfl ?_
  refine F_getE (v := nI j) dX4_remember_5 rfl rfl (by first | assumption | rfl) rfl hj ?_
  refine F_aald dX4_remember_8 (by first | assumption | rfl) (by decide) (past_at hj8) ?_
  refine F_aload_n dX4_remember_9 rfl ?_
  refine F_getr dX4_remember_10 rfl rfl (by first | assumption | rfl) rfl ?_
  refine F_cV_r_v (v_copyFrom (d := d) (isTold_past hj8) isTold_4 (by omega)) dX4_remember_13 rfl rfl (by decide) (isTold_past hj8).1 rfl rfl rfl (by decide) (Nat.le_of_ble_eq_true rfl) (by omega) ?_
  refine F_aload_n dX4_remember_16 rfl ?_
  refine F_aload_n dX4_remember_17 rfl ?_
  refine F_getE (v := nI j) dX4_remember_18 rfl rfl (by first | assumption | rfl) rfl (by rw [hc]; exact hj) ?_
  refine F_iconst (v := nI 1) dX4_remember_21 rfl ?_
  refine F_iaddN dX4_remember_22 ?_
  refine F_bipush (v := nI 8) dX4_remember_23 rfl ?_
  refine F_irem dX4_remember_25 (by decide) ?_
  refine F_top (nI_rem (by omega) (by decide)) ?_
  refine F_put dX4_remember_26 rfl rfl (by first | assumption | rfl) rfl rfl rfl rfl ?_
  refine F_aload_n dX4_remember_29 rfl ?_
  refine F_aload_n dX4_remember_30 rfl ?_
  refine F_getE (v := nI u) dX4_remember_31 rfl rfl (by first | assumption | rfl) rfl (by rw [up_r _ _ _ (by decide), hc]; exact hu) ?_
  refine F_iconst (v := nI 1) dX4_remember_34 rfl ?_
  refine F_iaddN dX4_remember_35 ?_
  refine F_bipush (v := nI 8) dX4_remember_36 rfl ?_
  refine F_min dX4_remember_38 rfl rfl (Nat.le_of_ble_eq_true rfl) ?_
  refine F_top (y := nI (min (u + 1) 8)) (by
    by_cases h : 8 < u + 1
    · rw [if_pos (nI_lt h (by omega)), show min (u + 1) 8 = 8 by omega]
    · rw [if_neg (nI_nlt (by omega) (by omega)), show min (u + 1) 8 = u + 1 by omega]) ?_
  refine F_put dX4_remember_41 rfl rfl (by first | assumption | rfl) rfl rfl rfl rfl ?_
  refine F_vret dX4_remember_44 rfl ?_
  exact hQ

theorem b_groupA (fit tired : Int32) (h : (inR fit (nI 0) (nI 9999) && inR tired (nI 0) (nI 9999)) = false) : mV G mX4_group (d + 1) [.ref 3, .int fit, .int tired] σ (some (.int (-1))) σ := by
  refine mV_of fun Q hQ => ?_
  refine F_iload_n dX4_group_0 rfl ?_
  refine F_cS1i (v_canBeAtFirst (d := d) _) dX4_group_1 rfl rfl rfl (by decide) (Nat.le_of_ble_eq_true rfl) (by omega) ?_
  refine F_if_eqB (tgt := 14) dX4_group_4 rfl (fun c4 => ?_) (fun c4 => ?_)
  · refine F_iconst (v := (-1)) dX4_group_14 rfl ?_
    refine F_iret dX4_group_15 rfl ?_
    exact hQ
  · refine F_iload_n dX4_group_7 rfl ?_
    refine F_cS1i (v_canBeAtFirst (d := d) _) dX4_group_8 rfl rfl rfl (by decide) (Nat.le_of_ble_eq_true rfl) (by omega) ?_
    refine F_if_neB (tgt := 16) dX4_group_11 rfl (fun c11 => ?_) (fun c11 => ?_)
    · rw [c4, c11] at h
      cases h
    · refine F_iconst (v := (-1)) dX4_group_14 rfl ?_
      refine F_iret dX4_group_15 rfl ?_
      exact hQ

theorem b_groupB (fit tired : Int32) (h : (inR fit (nI 0) (nI 9999) && inR tired (nI 0) (nI 9999)) = true) (hn : σ 4 0 = nI 6) : mV G mX4_group (d + 1) [.ref 3, .int fit, .int tired] σ (some (.int (-2))) σ := by
  refine mV_of fun Q hQ => ?_
  refine F_iload_n dX4_group_0 rfl ?_
  refine F_cS1i (v_canBeAtFirst (d := d) _) dX4_group_1 rfl rfl rfl (by decide) (Nat.le_of_ble_eq_true rfl) (by omega) ?_
  refine F_if_eqB (tgt := 14) dX4_group_4 rfl (fun c4 => ?_) (fun c4 => ?_)
  · rw [c4] at h
    cases h
  · refine F_iload_n dX4_group_7 rfl ?_
    refine F_cS1i (v_canBeAtFirst (d := d) _) dX4_group_8 rfl rfl rfl (by decide) (Nat.le_of_ble_eq_true rfl) (by omega) ?_
    refine F_if_neB (tgt := 16) dX4_group_11 rfl (fun c11 => ?_) (fun c11 => ?_)
    · refine F_aload_n dX4_group_16 rfl ?_
      refine F_getr dX4_group_17 rfl rfl (by first | assumption | rfl) rfl ?_
      refine F_getE (v := nI 6) dX4_group_20 rfl rfl (by first | assumption | rfl) rfl hn ?_
      refine F_bipush (v := nI 6) dX4_group_23 rfl ?_
      refine F_icmp_ltN (tgt := 31) dX4_group_25 rfl (by omega) (by omega) (fun c25 => ?_) (fun c25 => ?_)
      · exact absurd c25 (by decide)
      · refine F_bipush (v := (-2)) dX4_group_28 rfl ?_
        refine F_iret dX4_group_30 rfl ?_
        exact hQ
    · rw [c4, c11] at h
      cases h

theorem remS_far (σ : mS) {j u a : Nat} (h : 4 ≤ a) (h2 : a < 52) : remS σ j u a = σ a := by
  have hp := pastB_ge j
  simp only [remS]
  rw [up_n _ _ _ (by omega), up_n _ _ _ (by omega), copyT_far _ (by omega)]
theorem b_groupC (fit tired : Int32) (h : (inR fit (nI 0) (nI 9999) && inR tired (nI 0) (nI 9999)) = true) {n : Nat} (hn : σ 4 0 = nI n) (h6 : n < 6) {j u : Nat} (hj : σ 3 3 = nI j) (hj8 : j < 8) (hu : σ 3 2 = nI u) (hu8 : u ≤ 8) : mV G mX4_group (d + 2) [.ref 3, .int fit, .int tired] σ (some (.int (nI n))) (up (up (up (remS σ j u) 5 n fit) 6 n tired) 4 0 (nI (n + 1))) := by
  refine mV_of fun Q hQ => ?_
  have hr : remS σ j u 4 0 = nI n := by rw [remS_far _ (by omega) (by omega)]; exact hn
  refine F_iload_n dX4_group_0 rfl ?_
  refine F_cS1i (v_canBeAtFirst (d := d) _) dX4_group_1 rfl rfl rfl (by decide) (Nat.le_of_ble_eq_true rfl) (by omega) ?_
  refine F_if_eqB (tgt := 14) dX4_group_4 rfl (fun c4 => ?_) (fun c4 => ?_)
  · rw [c4] at h
    cases h
  · refine F_iload_n dX4_group_7 rfl ?_
    refine F_cS1i (v_canBeAtFirst (d := d) _) dX4_group_8 rfl rfl rfl (by decide) (Nat.le_of_ble_eq_true rfl) (by omega) ?_
    refine F_if_neB (tgt := 16) dX4_group_11 rfl (fun c11 => ?_) (fun c11 => ?_)
    · refine F_aload_n dX4_group_16 rfl ?_
      refine F_getr dX4_group_17 rfl rfl (by first | assumption | rfl) rfl ?_
      refine F_getE (v := nI n) dX4_group_20 rfl rfl (by first | assumption | rfl) rfl hn ?_
      refine F_bipush (v := nI 6) dX4_group_23 rfl ?_
      refine F_icmp_ltN (tgt := 31) dX4_group_25 rfl (by omega) (by omega) (fun c25 => ?_) (fun c25 => ?_)
      · refine F_aload_n dX4_group_31 rfl ?_
        refine F_cV0v (v_remember (d := d) hj hj8 hu hu8) dX4_group_32 rfl rfl (by decide) (by first | assumption | rfl) rfl rfl rfl (by decide) (Nat.le_of_ble_eq_true rfl) (by omega) ?_
        refine F_aload_n dX4_group_35 rfl ?_
        refine F_getr dX4_group_36 rfl rfl (by first | assumption | rfl) rfl ?_
        refine F_iload_n dX4_group_39 rfl ?_
        refine F_iload_n dX4_group_40 rfl ?_
        refine F_cV2v (v_addGroup (d := d) isTold_4 _ _ hr h6) dX4_group_41 rfl rfl (by decide) (by first | assumption | rfl) rfl rfl rfl (by decide) (Nat.le_of_ble_eq_true rfl) (by omega) ?_
        refine F_aload_n dX4_group_44 rfl ?_
        refine F_getr dX4_group_45 rfl rfl (by first | assumption | rfl) rfl ?_
        refine F_getE (v := nI (n + 1)) dX4_group_48 rfl rfl (by first | assumption | rfl) rfl rfl ?_
        refine F_iconst (v := nI 1) dX4_group_51 rfl ?_
        refine F_isubN dX4_group_52 (by omega) ?_
        refine F_iret dX4_group_53 rfl ?_
        exact hQ
      · exact absurd h6 c25
    · rw [c4, c11] at h
      cases h

theorem b_loadA (kind v : Int32) (h : (inR kind (nI 1) (nI 5) && inR v (nI 0) (nI 300)) = false) : mV G mX4_load d [.ref 3, .int kind, .int v] σ (some (.int (nI 0))) σ := by
  refine mV_of fun Q hQ => ?_
  refine F_iload_n dX4_load_0 rfl ?_
  refine F_if_le (tgt := 34) dX4_load_1 rfl (fun c1 => ?_) (fun c1 => ?_)
  · refine F_iconst (v := nI 0) dX4_load_34 rfl ?_
    refine F_zret dX4_load_35 rfl (by first | exact Or.inl rfl | exact Or.inr rfl | exact bI_01 _) ?_
    exact hQ
  · refine F_iload_n dX4_load_4 rfl ?_
    refine F_bipush (v := nI 6) dX4_load_5 rfl ?_
    refine F_icmp_ge (tgt := 34) dX4_load_7 rfl (fun c7 => ?_) (fun c7 => ?_)
    · refine F_iconst (v := nI 0) dX4_load_34 rfl ?_
      refine F_zret dX4_load_35 rfl (by first | exact Or.inl rfl | exact Or.inr rfl | exact bI_01 _) ?_
      exact hQ
    · refine F_iload_n dX4_load_10 rfl ?_
      refine F_if_lt (tgt := 34) dX4_load_11 rfl (fun c11 => ?_) (fun c11 => ?_)
      · refine F_iconst (v := nI 0) dX4_load_34 rfl ?_
        refine F_zret dX4_load_35 rfl (by first | exact Or.inl rfl | exact Or.inr rfl | exact bI_01 _) ?_
        exact hQ
      · refine F_iload_n dX4_load_14 rfl ?_
        refine F_sipush (v := nI 300) dX4_load_15 rfl ?_
        refine F_icmp_gt (tgt := 34) dX4_load_18 rfl (fun c18 => ?_) (fun c18 => ?_)
        · refine F_iconst (v := nI 0) dX4_load_34 rfl ?_
          refine F_zret dX4_load_35 rfl (by first | exact Or.inl rfl | exact Or.inr rfl | exact bI_01 _) ?_
          exact hQ
        · exfalso
          rw [le0_iff, Decidable.not_not] at c1
          rw [ge_iff (n := 5) (by decide), Decidable.not_not] at c7
          rw [lt0_iff, Decidable.not_not] at c11
          rw [inR, inR, decide_eq_true c1, decide_eq_true c7, decide_eq_true c11, decide_eq_true (Int32.not_lt.mp c18)] at h
          cases h

theorem b_loadB (v : Int32) {k : Nat} (hk : k < 6) (h : (inR (nI k) (nI 1) (nI 5) && inR v (nI 0) (nI 300)) = true) (hs : σ 10 k = v) : mV G mX4_load d [.ref 3, .int (nI k), .int v] σ (some (.int (nI 0))) σ := by
  refine mV_of fun Q hQ => ?_
  have hb := h
  rw [Bool.and_eq_true, inR_nI (by decide) (by decide) (by omega), Bool.and_eq_true, decide_eq_true_eq, decide_eq_true_eq] at hb
  obtain ⟨⟨h1, h5⟩, hv⟩ := hb
  simp only [inR, Bool.and_eq_true, decide_eq_true_eq] at hv
  refine F_iload_n dX4_load_0 rfl ?_
  refine F_if_leN (tgt := 34) dX4_load_1 rfl (by omega) (fun c1 => ?_) (fun c1 => ?_)
  · exact absurd c1 (by omega)
  · refine F_iload_n dX4_load_4 rfl ?_
    refine F_bipush (v := nI 6) dX4_load_5 rfl ?_
    refine F_icmp_geN (tgt := 34) dX4_load_7 rfl (by omega) (by omega) (fun c7 => ?_) (fun c7 => ?_)
    · exact absurd c7 (by omega)
    · refine F_iload_n dX4_load_10 rfl ?_
      refine F_if_lt (tgt := 34) dX4_load_11 rfl (fun c11 => ?_) (fun c11 => ?_)
      · exact absurd hv.1 ((lt0_iff v).mp c11)
      · refine F_iload_n dX4_load_14 rfl ?_
        refine F_sipush (v := nI 300) dX4_load_15 rfl ?_
        refine F_icmp_gt (tgt := 34) dX4_load_18 rfl (fun c18 => ?_) (fun c18 => ?_)
        · exact absurd hv.2 (Int32.not_le.mpr c18)
        · refine F_aload_n dX4_load_21 rfl ?_
          refine F_getr dX4_load_22 rfl rfl (by first | assumption | rfl) rfl ?_
          refine F_getr dX4_load_25 rfl rfl (by first | assumption | rfl) rfl ?_
          refine F_iload_n dX4_load_28 rfl ?_
          refine F_ialdE (v := v) dX4_load_29 (by first | assumption | rfl) (by decide) (by omega) hs ?_
          refine F_iload_n dX4_load_30 rfl ?_
          refine F_icmp_ne (tgt := 36) dX4_load_31 rfl (fun c31 => ?_) (fun c31 => ?_)
          · exact absurd rfl c31
          · refine F_iconst (v := nI 0) dX4_load_34 rfl ?_
            refine F_zret dX4_load_35 rfl (by first | exact Or.inl rfl | exact Or.inr rfl | exact bI_01 _) ?_
            exact hQ

theorem b_loadC (v : Int32) {k : Nat} (hk : k < 6) (h : (inR (nI k) (nI 1) (nI 5) && inR v (nI 0) (nI 300)) = true) (hs : ¬ σ 10 k = v) : mV G mX4_load d [.ref 3, .int (nI k), .int v] σ (some (.int (nI 1))) (up σ 10 k v) := by
  refine mV_of fun Q hQ => ?_
  have hb := h
  rw [Bool.and_eq_true, inR_nI (by decide) (by decide) (by omega), Bool.and_eq_true, decide_eq_true_eq, decide_eq_true_eq] at hb
  obtain ⟨⟨h1, h5⟩, hv⟩ := hb
  simp only [inR, Bool.and_eq_true, decide_eq_true_eq] at hv
  refine F_iload_n dX4_load_0 rfl ?_
  refine F_if_leN (tgt := 34) dX4_load_1 rfl (by omega) (fun c1 => ?_) (fun c1 => ?_)
  · exact absurd c1 (by omega)
  · refine F_iload_n dX4_load_4 rfl ?_
    refine F_bipush (v := nI 6) dX4_load_5 rfl ?_
    refine F_icmp_geN (tgt := 34) dX4_load_7 rfl (by omega) (by omega) (fun c7 => ?_) (fun c7 => ?_)
    · exact absurd c7 (by omega)
    · refine F_iload_n dX4_load_10 rfl ?_
      refine F_if_lt (tgt := 34) dX4_load_11 rfl (fun c11 => ?_) (fun c11 => ?_)
      · exact absurd hv.1 ((lt0_iff v).mp c11)
      · refine F_iload_n dX4_load_14 rfl ?_
        refine F_sipush (v := nI 300) dX4_load_15 rfl ?_
        refine F_icmp_gt (tgt := 34) dX4_load_18 rfl (fun c18 => ?_) (fun c18 => ?_)
        · exact absurd hv.2 (Int32.not_le.mpr c18)
        · refine F_aload_n dX4_load_21 rfl ?_
          refine F_getr dX4_load_22 rfl rfl (by first | assumption | rfl) rfl ?_
          refine F_getr dX4_load_25 rfl rfl (by first | assumption | rfl) rfl ?_
          refine F_iload_n dX4_load_28 rfl ?_
          refine F_iald dX4_load_29 (by first | assumption | rfl) (by decide) (by omega) ?_
          refine F_iload_n dX4_load_30 rfl ?_
          refine F_icmp_ne (tgt := 36) dX4_load_31 rfl (fun c31 => ?_) (fun c31 => ?_)
          · refine F_aload_n dX4_load_36 rfl ?_
            refine F_getr dX4_load_37 rfl rfl (by first | assumption | rfl) rfl ?_
            refine F_getr dX4_load_40 rfl rfl (by first | assumption | rfl) rfl ?_
            refine F_iload_n dX4_load_43 rfl ?_
            refine F_iload_n dX4_load_44 rfl ?_
            refine F_iast dX4_load_45 (by first | assumption | rfl) (by decide) (by omega) ?_
            refine F_iconst (v := nI 1) dX4_load_46 rfl ?_
            refine F_zret dX4_load_47 rfl (by first | exact Or.inl rfl | exact Or.inr rfl | exact bI_01 _) ?_
            exact hQ
          · exact absurd c31 hs

theorem b_setA (t v : Int32) (h : inR t (nI 0) (nI 7) = false) : mV G mX4_set (d + 1) [.ref 3, .int t, .int v] σ (some (.int (nI 0))) σ := by
  refine mV_of fun Q hQ => ?_
  refine F_iload_n dX4_set_0 rfl ?_
  refine F_iload_n dX4_set_1 rfl ?_
  refine F_cS2i (v_canBeSettingA (d := d) _ _ h) dX4_set_2 rfl rfl rfl (by decide) (Nat.le_of_ble_eq_true rfl) (by omega) ?_
  refine F_if_eqB (tgt := 21) dX4_set_5 rfl (fun c5 => ?_) (fun c5 => ?_)
  · refine F_iconst (v := nI 0) dX4_set_21 rfl ?_
    refine F_zret dX4_set_22 rfl (by first | exact Or.inl rfl | exact Or.inr rfl | exact bI_01 _) ?_
    exact hQ
  · cases c5

theorem b_setB (v : Int32) {k : Nat} (hk : k < 8) (h : inR v (mLeast.getD k 0) (mMost.getD k 0) = false) : mV G mX4_set (d + 1) [.ref 3, .int (nI k), .int v] σ (some (.int (nI 0))) σ := by
  refine mV_of fun Q hQ => ?_
  refine F_iload_n dX4_set_0 rfl ?_
  refine F_iload_n dX4_set_1 rfl ?_
  refine F_cS2i (v_canBeSettingB (d := d) _ hk) dX4_set_2 rfl rfl rfl (by decide) (Nat.le_of_ble_eq_true rfl) (by omega) ?_
  refine F_if_eqB (tgt := 21) dX4_set_5 rfl (fun c5 => ?_) (fun c5 => ?_)
  · refine F_iconst (v := nI 0) dX4_set_21 rfl ?_
    refine F_zret dX4_set_22 rfl (by first | exact Or.inl rfl | exact Or.inr rfl | exact bI_01 _) ?_
    exact hQ
  · rw [h] at c5
    cases c5

theorem b_setC (v : Int32) {k : Nat} (hk : k < 8) (h : inR v (mLeast.getD k 0) (mMost.getD k 0) = true) (hs : σ 11 k = v) : mV G mX4_set (d + 1) [.ref 3, .int (nI k), .int v] σ (some (.int (nI 0))) σ := by
  refine mV_of fun Q hQ => ?_
  refine F_iload_n dX4_set_0 rfl ?_
  refine F_iload_n dX4_set_1 rfl ?_
  refine F_cS2i (v_canBeSettingB (d := d) _ hk) dX4_set_2 rfl rfl rfl (by decide) (Nat.le_of_ble_eq_true rfl) (by omega) ?_
  refine F_if_eqB (tgt := 21) dX4_set_5 rfl (fun c5 => ?_) (fun c5 => ?_)
  · rw [h] at c5
    cases c5
  · refine F_aload_n dX4_set_8 rfl ?_
    refine F_getr dX4_set_9 rfl rfl (by first | assumption | rfl) rfl ?_
    refine F_getr dX4_set_12 rfl rfl (by first | assumption | rfl) rfl ?_
    refine F_iload_n dX4_set_15 rfl ?_
    refine F_ialdE (v := v) dX4_set_16 (by first | assumption | rfl) (by decide) (by omega) hs ?_
    refine F_iload_n dX4_set_17 rfl ?_
    refine F_icmp_ne (tgt := 23) dX4_set_18 rfl (fun c18 => ?_) (fun c18 => ?_)
    · exact absurd rfl c18
    · refine F_iconst (v := nI 0) dX4_set_21 rfl ?_
      refine F_zret dX4_set_22 rfl (by first | exact Or.inl rfl | exact Or.inr rfl | exact bI_01 _) ?_
      exact hQ

theorem b_setD (v : Int32) {k : Nat} (hk : k < 8) (h : inR v (mLeast.getD k 0) (mMost.getD k 0) = true) (hs : ¬ σ 11 k = v) : mV G mX4_set (d + 1) [.ref 3, .int (nI k), .int v] σ (some (.int (nI 1))) (up σ 11 k v) := by
  refine mV_of fun Q hQ => ?_
  refine F_iload_n dX4_set_0 rfl ?_
  refine F_iload_n dX4_set_1 rfl ?_
  refine F_cS2i (v_canBeSettingB (d := d) _ hk) dX4_set_2 rfl rfl rfl (by decide) (Nat.le_of_ble_eq_true rfl) (by omega) ?_
  refine F_if_eqB (tgt := 21) dX4_set_5 rfl (fun c5 => ?_) (fun c5 => ?_)
  · rw [h] at c5
    cases c5
  · refine F_aload_n dX4_set_8 rfl ?_
    refine F_getr dX4_set_9 rfl rfl (by first | assumption | rfl) rfl ?_
    refine F_getr dX4_set_12 rfl rfl (by first | assumption | rfl) rfl ?_
    refine F_iload_n dX4_set_15 rfl ?_
    refine F_iald dX4_set_16 (by first | assumption | rfl) (by decide) (by omega) ?_
    refine F_iload_n dX4_set_17 rfl ?_
    refine F_icmp_ne (tgt := 23) dX4_set_18 rfl (fun c18 => ?_) (fun c18 => ?_)
    · refine F_aload_n dX4_set_23 rfl ?_
      refine F_getr dX4_set_24 rfl rfl (by first | assumption | rfl) rfl ?_
      refine F_getr dX4_set_27 rfl rfl (by first | assumption | rfl) rfl ?_
      refine F_iload_n dX4_set_30 rfl ?_
      refine F_iload_n dX4_set_31 rfl ?_
      refine F_iast dX4_set_32 (by first | assumption | rfl) (by decide) (by omega) ?_
      refine F_iconst (v := nI 1) dX4_set_33 rfl ?_
      refine F_zret dX4_set_34 rfl (by first | exact Or.inl rfl | exact Or.inr rfl | exact bI_01 _) ?_
      exact hQ
    · exact absurd c18 hs

theorem b_campA (a b : Int32) (h : (dB a && dB b && decide (a ≤ b)) = false) : mV G mX4_camp (d + 2) [.ref 3, .int a, .int b] σ (some (.int (-1))) σ := by
  refine mV_of fun Q hQ => ?_
  refine F_iload_n dX4_camp_0 rfl ?_
  refine F_iload_n dX4_camp_1 rfl ?_
  refine F_cS2i (v_bAreDays (d := d) _ _) dX4_camp_2 rfl rfl rfl (by decide) (Nat.le_of_ble_eq_true rfl) (by omega) ?_
  refine F_if_neB (tgt := 10) dX4_camp_5 rfl (fun c5 => ?_) (fun c5 => ?_)
  · rw [c5] at h
    cases h
  · refine F_iconst (v := (-1)) dX4_camp_8 rfl ?_
    refine F_iret dX4_camp_9 rfl ?_
    exact hQ

theorem b_campB (a b : Int32) (h : (dB a && dB b && decide (a ≤ b)) = true) (hn : σ 4 4 = nI 4) : mV G mX4_camp (d + 2) [.ref 3, .int a, .int b] σ (some (.int (-2))) σ := by
  refine mV_of fun Q hQ => ?_
  refine F_iload_n dX4_camp_0 rfl ?_
  refine F_iload_n dX4_camp_1 rfl ?_
  refine F_cS2i (v_bAreDays (d := d) _ _) dX4_camp_2 rfl rfl rfl (by decide) (Nat.le_of_ble_eq_true rfl) (by omega) ?_
  refine F_if_neB (tgt := 10) dX4_camp_5 rfl (fun c5 => ?_) (fun c5 => ?_)
  · refine F_aload_n dX4_camp_10 rfl ?_
    refine F_getr dX4_camp_11 rfl rfl (by first | assumption | rfl) rfl ?_
    refine F_getE (v := nI 4) dX4_camp_14 rfl rfl (by first | assumption | rfl) rfl hn ?_
    refine F_iconst (v := nI 4) dX4_camp_17 rfl ?_
    refine F_icmp_ltN (tgt := 24) dX4_camp_18 rfl (by omega) (by omega) (fun c18 => ?_) (fun c18 => ?_)
    · exact absurd c18 (by decide)
    · refine F_bipush (v := (-2)) dX4_camp_21 rfl ?_
      refine F_iret dX4_camp_23 rfl ?_
      exact hQ
  · rw [c5] at h
    cases h

theorem b_campC (a b : Int32) (h : (dB a && dB b && decide (a ≤ b)) = true) {n : Nat} (hn : σ 4 4 = nI n) (h4 : n < 4) {j u : Nat} (hj : σ 3 3 = nI j) (hj8 : j < 8) (hu : σ 3 2 = nI u) (hu8 : u ≤ 8) : mV G mX4_camp (d + 2) [.ref 3, .int a, .int b] σ (some (.int (nI n))) (up (up (up (remS σ j u) 8 n a) 9 n b) 4 4 (nI (n + 1))) := by
  refine mV_of fun Q hQ => ?_
  have hr : remS σ j u 4 4 = nI n := by rw [remS_far _ (by omega) (by omega)]; exact hn
  refine F_iload_n dX4_camp_0 rfl ?_
  refine F_iload_n dX4_camp_1 rfl ?_
  refine F_cS2i (v_bAreDays (d := d) _ _) dX4_camp_2 rfl rfl rfl (by decide) (Nat.le_of_ble_eq_true rfl) (by omega) ?_
  refine F_if_neB (tgt := 10) dX4_camp_5 rfl (fun c5 => ?_) (fun c5 => ?_)
  · refine F_aload_n dX4_camp_10 rfl ?_
    refine F_getr dX4_camp_11 rfl rfl (by first | assumption | rfl) rfl ?_
    refine F_getE (v := nI n) dX4_camp_14 rfl rfl (by first | assumption | rfl) rfl hn ?_
    refine F_iconst (v := nI 4) dX4_camp_17 rfl ?_
    refine F_icmp_ltN (tgt := 24) dX4_camp_18 rfl (by omega) (by omega) (fun c18 => ?_) (fun c18 => ?_)
    · refine F_aload_n dX4_camp_24 rfl ?_
      refine F_cV0v (v_remember (d := d) hj hj8 hu hu8) dX4_camp_25 rfl rfl (by decide) (by first | assumption | rfl) rfl rfl rfl (by decide) (Nat.le_of_ble_eq_true rfl) (by omega) ?_
      refine F_aload_n dX4_camp_28 rfl ?_
      refine F_getr dX4_camp_29 rfl rfl (by first | assumption | rfl) rfl ?_
      refine F_iload_n dX4_camp_32 rfl ?_
      refine F_iload_n dX4_camp_33 rfl ?_
      refine F_cV2v (v_addCamp (d := d) isTold_4 _ _ hr h4) dX4_camp_34 rfl rfl (by decide) (by first | assumption | rfl) rfl rfl rfl (by decide) (Nat.le_of_ble_eq_true rfl) (by omega) ?_
      refine F_aload_n dX4_camp_37 rfl ?_
      refine F_getr dX4_camp_38 rfl rfl (by first | assumption | rfl) rfl ?_
      refine F_getE (v := nI (n + 1)) dX4_camp_41 rfl rfl (by first | assumption | rfl) rfl rfl ?_
      refine F_iconst (v := nI 1) dX4_camp_44 rfl ?_
      refine F_isubN dX4_camp_45 (by omega) ?_
      refine F_iret dX4_camp_46 rfl ?_
      exact hQ
    · exact absurd h4 c18
  · rw [c5] at h
    cases h

theorem b_strikeA (c : Int32) (h : grB (σ 4 4) c = false) : mV G mX4_strike (d + 1) [.ref 3, .int c] σ (some (.int (-1))) σ := by
  refine mV_of fun Q hQ => ?_
  refine F_aload_n dX4_strike_0 rfl ?_
  refine F_getr dX4_strike_1 rfl rfl (by first | assumption | rfl) rfl ?_
  refine F_iload_n dX4_strike_4 rfl ?_
  refine F_cV1i (v_hasCamp (d := d) isTold_4 _) dX4_strike_5 rfl rfl (by decide) (by first | assumption | rfl) rfl rfl rfl (by decide) (Nat.le_of_ble_eq_true rfl) (by omega) ?_
  refine F_if_neB (tgt := 13) dX4_strike_8 rfl (fun c8 => ?_) (fun c8 => ?_)
  · have c8 : grB (σ 4 4) c = true := c8
    rw [h] at c8
    cases c8
  · refine F_iconst (v := (-1)) dX4_strike_11 rfl ?_
    refine F_iret dX4_strike_12 rfl ?_
    exact hQ

theorem b_strikeB {c n : Nat} (hn : σ 4 4 = nI n) (hc : c < n) (h4 : n ≤ 4) {j u : Nat} (hj : σ 3 3 = nI j) (hj8 : j < 8) (hu : σ 3 2 = nI u) (hu8 : u ≤ 8) : mV G mX4_strike (d + 2) [.ref 3, .int (nI c)] σ (some (.int (nI (n - 1)))) (up (upR (upR (remS σ j u) 8 (va_cpy (σ 8) (σ 8) (c + 1) c (n - 1 - c))) 9 (va_cpy (σ 9) (σ 9) (c + 1) c (n - 1 - c))) 4 4 (nI (n - 1))) := by
  refine mV_of fun Q hQ => ?_
  have hr : remS σ j u 4 4 = nI n := by rw [remS_far _ (by omega) (by omega)]; exact hn
  have hr8 : remS σ j u 8 = σ 8 := remS_far _ (by omega) (by omega)
  have hr9 : remS σ j u 9 = σ 9 := remS_far _ (by omega) (by omega)
  refine F_aload_n dX4_strike_0 rfl ?_
  refine F_getr dX4_strike_1 rfl rfl (by first | assumption | rfl) rfl ?_
  refine F_iload_n dX4_strike_4 rfl ?_
  refine F_cV1i (v_hasCamp (d := d) isTold_4 _) dX4_strike_5 rfl rfl (by decide) (by first | assumption | rfl) rfl rfl rfl (by decide) (Nat.le_of_ble_eq_true rfl) (by omega) ?_
  refine F_if_neB (tgt := 13) dX4_strike_8 rfl (fun c8 => ?_) (fun c8 => ?_)
  · refine F_aload_n dX4_strike_13 rfl ?_
    refine F_cV0v (v_remember (d := d) hj hj8 hu hu8) dX4_strike_14 rfl rfl (by decide) (by first | assumption | rfl) rfl rfl rfl (by decide) (Nat.le_of_ble_eq_true rfl) (by omega) ?_
    refine F_aload_n dX4_strike_17 rfl ?_
    refine F_getr dX4_strike_18 rfl rfl (by first | assumption | rfl) rfl ?_
    refine F_iload_n dX4_strike_21 rfl ?_
    refine F_cV1v (v_dropCamp (d := d) isTold_4 hr hc h4) dX4_strike_22 rfl rfl (by decide) (by first | assumption | rfl) rfl rfl rfl (by decide) (Nat.le_of_ble_eq_true rfl) (by omega) ?_
    refine F_aload_n dX4_strike_25 rfl ?_
    refine F_getr dX4_strike_26 rfl rfl (by first | assumption | rfl) rfl ?_
    refine F_getE (v := nI (n - 1)) dX4_strike_29 rfl rfl (by first | assumption | rfl) rfl rfl ?_
    refine F_iret dX4_strike_32 rfl ?_
    rw [← hr8, ← hr9] at hQ
    exact hQ
  · have c8 : grB (σ 4 4) (nI c) = false := c8
    rw [hn, grB_nI hc (by omega)] at c8
    cases c8

theorem b_planA (g a b kind : Int32) (h : (grB (σ 4 0) g && dB a && dB b && decide (a ≤ b) && inR kind (nI 0) (nI 5)) = false) : mV G mX4_plan (d + 2) [.ref 3, .int g, .int a, .int b, .int kind] σ (some (.int (-1))) σ := by
  refine mV_of fun Q hQ => ?_
  refine F_aload_n dX4_plan_0 rfl ?_
  refine F_getr dX4_plan_1 rfl rfl (by first | assumption | rfl) rfl ?_
  refine F_iload_n dX4_plan_4 rfl ?_
  refine F_cV1i (v_hasGroup (d := d) isTold_4 _) dX4_plan_5 rfl rfl (by decide) (by first | assumption | rfl) rfl rfl rfl (by decide) (Nat.le_of_ble_eq_true rfl) (by omega) ?_
  refine F_if_eqB (tgt := 31) dX4_plan_8 rfl (fun c8 => ?_) (fun c8 => ?_)
  · refine F_iconst (v := (-1)) dX4_plan_31 rfl ?_
    refine F_iret dX4_plan_32 rfl ?_
    exact hQ
  · refine F_iload_n dX4_plan_11 rfl ?_
    refine F_iload_n dX4_plan_12 rfl ?_
    refine F_cS2i (v_bAreDays (d := d) _ _) dX4_plan_13 rfl rfl rfl (by decide) (Nat.le_of_ble_eq_true rfl) (by omega) ?_
    refine F_if_eqB (tgt := 31) dX4_plan_16 rfl (fun c16 => ?_) (fun c16 => ?_)
    · refine F_iconst (v := (-1)) dX4_plan_31 rfl ?_
      refine F_iret dX4_plan_32 rfl ?_
      exact hQ
    · refine F_iload dX4_plan_19 rfl ?_
      refine F_if_lt (tgt := 31) dX4_plan_21 rfl (fun c21 => ?_) (fun c21 => ?_)
      · refine F_iconst (v := (-1)) dX4_plan_31 rfl ?_
        refine F_iret dX4_plan_32 rfl ?_
        exact hQ
      · refine F_iload dX4_plan_24 rfl ?_
        refine F_bipush (v := nI 6) dX4_plan_26 rfl ?_
        refine F_icmp_lt (tgt := 33) dX4_plan_28 rfl (fun c28 => ?_) (fun c28 => ?_)
        · exfalso
          have c8 : grB (σ 4 0) g = true := c8
          rw [lt0_iff, Decidable.not_not] at c21
          rw [lt_nI (n := 5) (by decide)] at c28
          rw [Bool.and_assoc, Bool.and_assoc, Bool.and_assoc, c8, ← Bool.and_assoc, ← Bool.and_assoc, ← Bool.and_assoc] at h
          rw [Bool.true_and, c16, inR, decide_eq_true c21, decide_eq_true c28] at h
          cases h
        · refine F_iconst (v := (-1)) dX4_plan_31 rfl ?_
          refine F_iret dX4_plan_32 rfl ?_
          exact hQ

theorem b_planB {g a b n : Nat} {kind : Int32} (hn : σ 4 0 = nI n) (h6 : n ≤ 6) (hg : g < n) (hab : a ≤ b) (hb : b < 70) (h : inR kind (nI 0) (nI 5) = true) (h0 : cntB (fun i => decide (¬ σ 7 (g * 70 + (a + i)) = kind)) (b + 1 - a) = 0) : mV G mX4_plan (d + 2) [.ref 3, .int (nI g), .int (nI a), .int (nI b), .int kind] σ (some (.int (nI 0))) σ := by
  refine mV_of fun Q hQ => ?_
  have hk := h
  simp only [inR, Bool.and_eq_true, decide_eq_true_eq] at hk
  refine F_aload_n dX4_plan_0 rfl ?_
  refine F_getr dX4_plan_1 rfl rfl (by first | assumption | rfl) rfl ?_
  refine F_iload_n dX4_plan_4 rfl ?_
  refine F_cV1i (v_hasGroup (d := d) isTold_4 _) dX4_plan_5 rfl rfl (by decide) (by first | assumption | rfl) rfl rfl rfl (by decide) (Nat.le_of_ble_eq_true rfl) (by omega) ?_
  refine F_if_eqB (tgt := 31) dX4_plan_8 rfl (fun c8 => ?_) (fun c8 => ?_)
  · have c8 : grB (σ 4 0) (nI g) = false := c8
    rw [hn, grB_nI hg (by omega)] at c8
    cases c8
  · refine F_iload_n dX4_plan_11 rfl ?_
    refine F_iload_n dX4_plan_12 rfl ?_
    refine F_cS2i (v_bAreDays (d := d) _ _) dX4_plan_13 rfl rfl rfl (by decide) (Nat.le_of_ble_eq_true rfl) (by omega) ?_
    refine F_if_eqB (tgt := 31) dX4_plan_16 rfl (fun c16 => ?_) (fun c16 => ?_)
    · rw [dB_nI (by omega), dB_nI hb, decide_eq_true (nI_le hab (by omega))] at c16
      cases c16
    · refine F_iload dX4_plan_19 rfl ?_
      refine F_if_lt (tgt := 31) dX4_plan_21 rfl (fun c21 => ?_) (fun c21 => ?_)
      · exact absurd hk.1 ((lt0_iff kind).mp c21)
      · refine F_iload dX4_plan_24 rfl ?_
        refine F_bipush (v := nI 6) dX4_plan_26 rfl ?_
        refine F_icmp_lt (tgt := 33) dX4_plan_28 rfl (fun c28 => ?_) (fun c28 => ?_)
        · refine F_aload_n dX4_plan_33 rfl ?_
          refine F_getr dX4_plan_34 rfl rfl (by first | assumption | rfl) rfl ?_
          refine F_iload_n dX4_plan_37 rfl ?_
          refine F_iload_n dX4_plan_38 rfl ?_
          refine F_iload_n dX4_plan_39 rfl ?_
          refine F_iload dX4_plan_40 rfl ?_
          refine F_cV4i (v_countOthers (d := d) isTold_4 (by omega) hab hb) dX4_plan_42 rfl rfl (by decide) (by first | assumption | rfl) rfl rfl rfl (by decide) (Nat.le_of_ble_eq_true rfl) (by omega) ?_
          refine F_top (y := nI 0) (by rw [h0]) ?_
          refine F_istore dX4_plan_45 (Nat.le_of_ble_eq_true rfl) ?_
          refine F_iload dX4_plan_47 rfl ?_
          refine F_if_leN (tgt := 68) dX4_plan_49 rfl (by omega) (fun c49 => ?_) (fun c49 => ?_)
          · refine F_iload dX4_plan_68 rfl ?_
            refine F_iret dX4_plan_70 rfl ?_
            exact hQ
          · exact absurd c49 (by omega)
        · exact absurd ((lt_nI (n := 5) (by decide)).mpr hk.2) c28

theorem b_planC {g a b n : Nat} {kind : Int32} (hn : σ 4 0 = nI n) (h6 : n ≤ 6) (hg : g < n) (hab : a ≤ b) (hb : b < 70) (h : inR kind (nI 0) (nI 5) = true) (h0 : 0 < cntB (fun i => decide (¬ σ 7 (g * 70 + (a + i)) = kind)) (b + 1 - a)) {j u : Nat} (hj : σ 3 3 = nI j) (hj8 : j < 8) (hu : σ 3 2 = nI u) (hu8 : u ≤ 8) : mV G mX4_plan (d + 2) [.ref 3, .int (nI g), .int (nI a), .int (nI b), .int kind] σ (some (.int (nI (cntB (fun i => decide (¬ σ 7 (g * 70 + (a + i)) = kind)) (b + 1 - a))))) (upR (remS σ j u) 7 (fillR (σ 7) (g * 70 + a) (g * 70 + a + (b + 1 - a)) kind)) := by
  refine mV_of fun Q hQ => ?_
  have hk := h
  simp only [inR, Bool.and_eq_true, decide_eq_true_eq] at hk
  have hr7 : remS σ j u 7 = σ 7 := remS_far _ (by omega) (by omega)
  have hle := cntB_le (fun i => decide (¬ σ 7 (g * 70 + (a + i)) = kind)) (b + 1 - a)
  refine F_aload_n dX4_plan_0 rfl ?_
  refine F_getr dX4_plan_1 rfl rfl (by first | assumption | rfl) rfl ?_
  refine F_iload_n dX4_plan_4 rfl ?_
  refine F_cV1i (v_hasGroup (d := d) isTold_4 _) dX4_plan_5 rfl rfl (by decide) (by first | assumption | rfl) rfl rfl rfl (by decide) (Nat.le_of_ble_eq_true rfl) (by omega) ?_
  refine F_if_eqB (tgt := 31) dX4_plan_8 rfl (fun c8 => ?_) (fun c8 => ?_)
  · have c8 : grB (σ 4 0) (nI g) = false := c8
    rw [hn, grB_nI hg (by omega)] at c8
    cases c8
  · refine F_iload_n dX4_plan_11 rfl ?_
    refine F_iload_n dX4_plan_12 rfl ?_
    refine F_cS2i (v_bAreDays (d := d) _ _) dX4_plan_13 rfl rfl rfl (by decide) (Nat.le_of_ble_eq_true rfl) (by omega) ?_
    refine F_if_eqB (tgt := 31) dX4_plan_16 rfl (fun c16 => ?_) (fun c16 => ?_)
    · rw [dB_nI (by omega), dB_nI hb, decide_eq_true (nI_le hab (by omega))] at c16
      cases c16
    · refine F_iload dX4_plan_19 rfl ?_
      refine F_if_lt (tgt := 31) dX4_plan_21 rfl (fun c21 => ?_) (fun c21 => ?_)
      · exact absurd hk.1 ((lt0_iff kind).mp c21)
      · refine F_iload dX4_plan_24 rfl ?_
        refine F_bipush (v := nI 6) dX4_plan_26 rfl ?_
        refine F_icmp_lt (tgt := 33) dX4_plan_28 rfl (fun c28 => ?_) (fun c28 => ?_)
        · refine F_aload_n dX4_plan_33 rfl ?_
          refine F_getr dX4_plan_34 rfl rfl (by first | assumption | rfl) rfl ?_
          refine F_iload_n dX4_plan_37 rfl ?_
          refine F_iload_n dX4_plan_38 rfl ?_
          refine F_iload_n dX4_plan_39 rfl ?_
          refine F_iload dX4_plan_40 rfl ?_
          refine F_cV4i (v_countOthers (d := d) isTold_4 (by omega) hab hb) dX4_plan_42 rfl rfl (by decide) (by first | assumption | rfl) rfl rfl rfl (by decide) (Nat.le_of_ble_eq_true rfl) (by omega) ?_
          refine F_top (y := nI (cntB (fun i => decide (¬ σ 7 (g * 70 + (a + i)) = kind)) (b + 1 - a))) rfl ?_
          refine F_istore dX4_plan_45 (Nat.le_of_ble_eq_true rfl) ?_
          refine F_iload dX4_plan_47 rfl ?_
          refine F_if_leN (tgt := 68) dX4_plan_49 rfl (by omega) (fun c49 => ?_) (fun c49 => ?_)
          · exact absurd c49 (by omega)
          · refine F_aload_n dX4_plan_52 rfl ?_
            refine F_cV0v (v_remember (d := d) hj hj8 hu hu8) dX4_plan_53 rfl rfl (by decide) (by first | assumption | rfl) rfl rfl rfl (by decide) (Nat.le_of_ble_eq_true rfl) (by omega) ?_
            refine F_aload_n dX4_plan_56 rfl ?_
            refine F_getr dX4_plan_57 rfl rfl (by first | assumption | rfl) rfl ?_
            refine F_iload_n dX4_plan_60 rfl ?_
            refine F_iload_n dX4_plan_61 rfl ?_
            refine F_iload_n dX4_plan_62 rfl ?_
            refine F_iload dX4_plan_63 rfl ?_
            refine F_cV4v (v_fillKinds (d := d) isTold_4 (by omega) hab hb) dX4_plan_65 rfl rfl (by decide) (by first | assumption | rfl) rfl rfl rfl (by decide) (Nat.le_of_ble_eq_true rfl) (by omega) ?_
            refine F_iload dX4_plan_68 rfl ?_
            refine F_iret dX4_plan_70 rfl ?_
            refine Qv hQ rfl ?_
            show upR (remS σ j u) 7 (fillR (remS σ j u 7) _ _ _) = _
            rw [hr7]
        · exact absurd ((lt_nI (n := 5) (by decide)).mpr hk.2) c28

theorem b_undoA (hu : σ 3 2 = nI 0) : mV G mX4_undo (d + 1) [.ref 3] σ (some (.int (-1))) σ := by
  refine mV_of fun Q hQ => ?_
  refine F_aload_n dX4_undo_0 rfl ?_
  refine F_getE (v := nI 0) dX4_undo_1 rfl rfl (by first | assumption | rfl) rfl hu ?_
  refine F_if_neN (tgt := 9) dX4_undo_4 rfl (by omega) (fun c4 => ?_) (fun c4 => ?_)
  · exact absurd rfl c4
  · refine F_iconst (v := (-1)) dX4_undo_7 rfl ?_
    refine F_iret dX4_undo_8 rfl ?_
    exact hQ

theorem b_undoB {j u : Nat} (hj : σ 3 3 = nI j) (hj8 : j < 8) (hu : σ 3 2 = nI (u + 1)) (hu8 : u < 8) : mV G mX4_undo (d + 1) [.ref 3] σ (some (.int (nI u))) (copyT (up (up σ 3 2 (nI u)) 3 3 (nI ((j + 7) % 8))) 4 (pastB ((j + 7) % 8))) := by
  refine mV_of fun Q hQ => ?_
  have hp := pastB_ge ((j + 7) % 8)
  have hm : (j + 7) % 8 < 8 := Nat.mod_lt _ (by decide)
  refine F_aload_n dX4_undo_0 rfl ?_
  refine F_getE (v := nI (u + 1)) dX4_undo_1 rfl rfl (by first | assumption | rfl) rfl hu ?_
  refine F_if_neN (tgt := 9) dX4_undo_4 rfl (by omega) (fun c4 => ?_) (fun c4 => ?_)
  · refine F_aload_n dX4_undo_9 rfl ?_
    refine F_dup dX4_undo_10 rfl ?_
    refine F_getE (v := nI (u + 1)) dX4_undo_11 rfl rfl (by first | assumption | rfl) rfl hu ?_
    refine F_iconst (v := nI 1) dX4_undo_14 rfl ?_
    refine F_isubN dX4_undo_15 (by omega) ?_
    refine F_put dX4_undo_16 rfl rfl (by first | assumption | rfl) rfl rfl rfl rfl ?_
    refine F_aload_n dX4_undo_19 rfl ?_
    refine F_aload_n dX4_undo_20 rfl ?_
    refine F_getE (v := nI j) dX4_undo_21 rfl rfl (by first | assumption | rfl) rfl hj ?_
    refine F_bipush (v := nI 8) dX4_undo_24 rfl ?_
    refine F_iaddN dX4_undo_26 ?_
    refine F_iconst (v := nI 1) dX4_undo_27 rfl ?_
    refine F_isubN dX4_undo_28 (by omega) ?_
    refine F_bipush (v := nI 8) dX4_undo_29 rfl ?_
    refine F_irem dX4_undo_31 (by decide) ?_
    refine F_top (y := nI ((j + 7) % 8)) (nI_rem (by omega) (by decide)) ?_
    refine F_put dX4_undo_32 rfl rfl (by first | assumption | rfl) rfl rfl rfl rfl ?_
    refine F_aload_n dX4_undo_35 rfl ?_
    refine F_getr dX4_undo_36 rfl rfl (by first | assumption | rfl) rfl ?_
    refine F_aload_n dX4_undo_39 rfl ?_
    refine F_getr dX4_undo_40 rfl rfl (by first | assumption | rfl) rfl ?_
    refine F_aload_n dX4_undo_43 rfl ?_
    refine F_getE (v := nI ((j + 7) % 8)) dX4_undo_44 rfl rfl (by first | assumption | rfl) rfl rfl ?_
    refine F_aald dX4_undo_47 (by first | assumption | rfl) (by decide) (past_at hm) ?_
    refine F_cV_r_v (v_copyFrom (d := d) isTold_4 (isTold_past hm) (by omega)) dX4_undo_48 rfl rfl (by decide) (by first | assumption | rfl) rfl rfl rfl (by decide) (Nat.le_of_ble_eq_true rfl) (by omega) ?_
    refine F_aload_n dX4_undo_51 rfl ?_
    refine F_getE (v := nI u) dX4_undo_52 rfl rfl (by first | assumption | rfl) rfl (by rw [copyT_far _ (by omega)]; rfl) ?_
    refine F_iret dX4_undo_55 rfl ?_
    exact hQ
  · exact absurd c4 (by omega)

theorem b_count0  : mV G mX4_count (d + 1) [.ref 3, .int (nI 0)] σ (some (.int (σ 4 0))) σ := by
  refine mV_of fun Q hQ => ?_
  refine F_iload_n dX4_count_0 rfl ?_
  refine F_tableIn (off := 31) (tgt := 32) dX4_count_1 (by decide) (by decide) (by decide +kernel) rfl ?_
  refine F_aload_n dX4_count_32 rfl ?_
  refine F_getr dX4_count_33 rfl rfl (by first | assumption | rfl) rfl ?_
  refine F_geti dX4_count_36 rfl rfl (by first | assumption | rfl) rfl ?_
  refine F_iret dX4_count_39 rfl ?_
  exact hQ

theorem b_count1  : mV G mX4_count (d + 1) [.ref 3, .int (nI 1)] σ (some (.int (σ 4 4))) σ := by
  refine mV_of fun Q hQ => ?_
  refine F_iload_n dX4_count_0 rfl ?_
  refine F_tableIn (off := 39) (tgt := 40) dX4_count_1 (by decide) (by decide) (by decide +kernel) rfl ?_
  refine F_aload_n dX4_count_40 rfl ?_
  refine F_getr dX4_count_41 rfl rfl (by first | assumption | rfl) rfl ?_
  refine F_geti dX4_count_44 rfl rfl (by first | assumption | rfl) rfl ?_
  refine F_iret dX4_count_47 rfl ?_
  exact hQ

theorem b_count2  : mV G mX4_count (d + 1) [.ref 3, .int (nI 2)] σ (some (.int (σ 14 1))) σ := by
  refine mV_of fun Q hQ => ?_
  refine F_iload_n dX4_count_0 rfl ?_
  refine F_tableIn (off := 47) (tgt := 48) dX4_count_1 (by decide) (by decide) (by decide +kernel) rfl ?_
  refine F_aload_n dX4_count_48 rfl ?_
  refine F_getr dX4_count_49 rfl rfl (by first | assumption | rfl) rfl ?_
  refine F_getr dX4_count_52 rfl rfl (by first | assumption | rfl) rfl ?_
  refine F_geti dX4_count_55 rfl rfl (by first | assumption | rfl) rfl ?_
  refine F_iret dX4_count_58 rfl ?_
  exact hQ

theorem b_count3  : mV G mX4_count (d + 1) [.ref 3, .int (nI 3)] σ (some (.int (σ 3 2))) σ := by
  refine mV_of fun Q hQ => ?_
  refine F_iload_n dX4_count_0 rfl ?_
  refine F_tableIn (off := 58) (tgt := 59) dX4_count_1 (by decide) (by decide) (by decide +kernel) rfl ?_
  refine F_aload_n dX4_count_59 rfl ?_
  refine F_geti dX4_count_60 rfl rfl (by first | assumption | rfl) rfl ?_
  refine F_iret dX4_count_63 rfl ?_
  exact hQ

theorem v_countNumber10 {k : Nat} (hk : k < 6) : mV G mX4_countNumber d [.ref 3, .int (nI (10 + k))] σ (some (.int (σ 10 k))) σ := by
  refine mV_of fun Q hQ => ?_
  refine F_iload_n dX4_countNumber_0 rfl ?_
  refine F_bipush (v := nI 10) dX4_countNumber_1 rfl ?_
  refine F_icmp_ltN (tgt := 25) dX4_countNumber_3 rfl (by omega) (by omega) (fun c3 => ?_) (fun c3 => ?_)
  · exact absurd c3 (by omega)
  · refine F_iload_n dX4_countNumber_6 rfl ?_
    refine F_bipush (v := nI 16) dX4_countNumber_7 rfl ?_
    refine F_icmp_geN (tgt := 25) dX4_countNumber_9 rfl (by omega) (by omega) (fun c9 => ?_) (fun c9 => ?_)
    · exact absurd c9 (by omega)
    · refine F_aload_n dX4_countNumber_12 rfl ?_
      refine F_getr dX4_countNumber_13 rfl rfl (by first | assumption | rfl) rfl ?_
      refine F_getr dX4_countNumber_16 rfl rfl (by first | assumption | rfl) rfl ?_
      refine F_iload_n dX4_countNumber_19 rfl ?_
      refine F_bipush (v := nI 10) dX4_countNumber_20 rfl ?_
      refine F_isubN dX4_countNumber_22 (by omega) ?_
      refine F_ialdE (v := σ 10 k) dX4_countNumber_23 (by first | assumption | rfl) (by decide) (by omega) (by congr 1; omega) ?_
      refine F_iret dX4_countNumber_24 rfl ?_
      exact hQ

theorem v_countNumber20 {k : Nat} (hk : k < 8) : mV G mX4_countNumber d [.ref 3, .int (nI (20 + k))] σ (some (.int (σ 11 k))) σ := by
  refine mV_of fun Q hQ => ?_
  refine F_iload_n dX4_countNumber_0 rfl ?_
  refine F_bipush (v := nI 10) dX4_countNumber_1 rfl ?_
  refine F_icmp_ltN (tgt := 25) dX4_countNumber_3 rfl (by omega) (by omega) (fun c3 => ?_) (fun c3 => ?_)
  · exact absurd c3 (by omega)
  · refine F_iload_n dX4_countNumber_6 rfl ?_
    refine F_bipush (v := nI 16) dX4_countNumber_7 rfl ?_
    refine F_icmp_geN (tgt := 25) dX4_countNumber_9 rfl (by omega) (by omega) (fun c9 => ?_) (fun c9 => ?_)
    · refine F_iload_n dX4_countNumber_25 rfl ?_
      refine F_bipush (v := nI 20) dX4_countNumber_26 rfl ?_
      refine F_icmp_ltN (tgt := 50) dX4_countNumber_28 rfl (by omega) (by omega) (fun c28 => ?_) (fun c28 => ?_)
      · exact absurd c28 (by omega)
      · refine F_iload_n dX4_countNumber_31 rfl ?_
        refine F_bipush (v := nI 28) dX4_countNumber_32 rfl ?_
        refine F_icmp_geN (tgt := 50) dX4_countNumber_34 rfl (by omega) (by omega) (fun c34 => ?_) (fun c34 => ?_)
        · exact absurd c34 (by omega)
        · refine F_aload_n dX4_countNumber_37 rfl ?_
          refine F_getr dX4_countNumber_38 rfl rfl (by first | assumption | rfl) rfl ?_
          refine F_getr dX4_countNumber_41 rfl rfl (by first | assumption | rfl) rfl ?_
          refine F_iload_n dX4_countNumber_44 rfl ?_
          refine F_bipush (v := nI 20) dX4_countNumber_45 rfl ?_
          refine F_isubN dX4_countNumber_47 (by omega) ?_
          refine F_ialdE (v := σ 11 k) dX4_countNumber_48 (by first | assumption | rfl) (by decide) (by omega) (by congr 1; omega) ?_
          refine F_iret dX4_countNumber_49 rfl ?_
          exact hQ
    · exact absurd (show 16 ≤ 20 + k by omega) c9

theorem v_countNumberX (w : Int32) (h1 : inR w (nI 10) (nI 15) = false) (h2 : inR w (nI 20) (nI 27) = false) : mV G mX4_countNumber d [.ref 3, .int w] σ (some (.int (-1))) σ := by
  refine mV_of fun Q hQ => ?_
  refine F_iload_n dX4_countNumber_0 rfl ?_
  refine F_bipush (v := nI 10) dX4_countNumber_1 rfl ?_
  refine F_icmp_lt (tgt := 25) dX4_countNumber_3 rfl (fun c3 => ?_) (fun c3 => ?_)
  · refine F_iload_n dX4_countNumber_25 rfl ?_
    refine F_bipush (v := nI 20) dX4_countNumber_26 rfl ?_
    refine F_icmp_lt (tgt := 50) dX4_countNumber_28 rfl (fun c28 => ?_) (fun c28 => ?_)
    · refine F_iconst (v := (-1)) dX4_countNumber_50 rfl ?_
      refine F_iret dX4_countNumber_51 rfl ?_
      exact hQ
    · refine F_iload_n dX4_countNumber_31 rfl ?_
      refine F_bipush (v := nI 28) dX4_countNumber_32 rfl ?_
      refine F_icmp_ge (tgt := 50) dX4_countNumber_34 rfl (fun c34 => ?_) (fun c34 => ?_)
      · refine F_iconst (v := (-1)) dX4_countNumber_50 rfl ?_
        refine F_iret dX4_countNumber_51 rfl ?_
        exact hQ
      · exfalso
        rw [ge_iff (n := 27) (by decide), Decidable.not_not] at c34
        rw [inR, decide_eq_true (Int32.not_lt.mp c28), decide_eq_true c34] at h2
        cases h2
  · refine F_iload_n dX4_countNumber_6 rfl ?_
    refine F_bipush (v := nI 16) dX4_countNumber_7 rfl ?_
    refine F_icmp_ge (tgt := 25) dX4_countNumber_9 rfl (fun c9 => ?_) (fun c9 => ?_)
    · refine F_iload_n dX4_countNumber_25 rfl ?_
      refine F_bipush (v := nI 20) dX4_countNumber_26 rfl ?_
      refine F_icmp_lt (tgt := 50) dX4_countNumber_28 rfl (fun c28 => ?_) (fun c28 => ?_)
      · refine F_iconst (v := (-1)) dX4_countNumber_50 rfl ?_
        refine F_iret dX4_countNumber_51 rfl ?_
        exact hQ
      · refine F_iload_n dX4_countNumber_31 rfl ?_
        refine F_bipush (v := nI 28) dX4_countNumber_32 rfl ?_
        refine F_icmp_ge (tgt := 50) dX4_countNumber_34 rfl (fun c34 => ?_) (fun c34 => ?_)
        · refine F_iconst (v := (-1)) dX4_countNumber_50 rfl ?_
          refine F_iret dX4_countNumber_51 rfl ?_
          exact hQ
        · exfalso
          rw [ge_iff (n := 27) (by decide), Decidable.not_not] at c34
          rw [inR, decide_eq_true (Int32.not_lt.mp c28), decide_eq_true c34] at h2
          cases h2
    · exfalso
      rw [ge_iff (n := 15) (by decide), Decidable.not_not] at c9
      rw [inR, decide_eq_true (Int32.not_lt.mp c3), decide_eq_true c9] at h1
      cases h1

theorem b_count10 {k : Nat} (hk : k < 6) : mV G mX4_count (d + 1) [.ref 3, .int (nI (10 + k))] σ (some (.int (σ 10 k))) σ := by
  refine mV_of fun Q hQ => ?_
  refine F_iload_n dX4_count_0 rfl ?_
  refine F_tableOut (tgt := 64) dX4_count_1 (Or.inr (by rw [nI_toInt (by omega)]; omega)) rfl ?_
  refine F_aload_n dX4_count_64 rfl ?_
  refine F_iload_n dX4_count_65 rfl ?_
  refine F_cV1i (v_countNumber10 (d := d) hk) dX4_count_66 rfl rfl (by decide) (by first | assumption | rfl) rfl rfl rfl (by decide) (Nat.le_of_ble_eq_true rfl) (by omega) ?_
  refine F_iret dX4_count_69 rfl ?_
  exact hQ

theorem b_count20 {k : Nat} (hk : k < 8) : mV G mX4_count (d + 1) [.ref 3, .int (nI (20 + k))] σ (some (.int (σ 11 k))) σ := by
  refine mV_of fun Q hQ => ?_
  refine F_iload_n dX4_count_0 rfl ?_
  refine F_tableOut (tgt := 64) dX4_count_1 (Or.inr (by rw [nI_toInt (by omega)]; omega)) rfl ?_
  refine F_aload_n dX4_count_64 rfl ?_
  refine F_iload_n dX4_count_65 rfl ?_
  refine F_cV1i (v_countNumber20 (d := d) hk) dX4_count_66 rfl rfl (by decide) (by first | assumption | rfl) rfl rfl rfl (by decide) (Nat.le_of_ble_eq_true rfl) (by omega) ?_
  refine F_iret dX4_count_69 rfl ?_
  exact hQ

theorem b_countX (w : Int32) (h1 : inR w (nI 10) (nI 15) = false) (h2 : inR w (nI 20) (nI 27) = false) (h3 : ¬ w = nI 0) (h4 : ¬ w = nI 1) (h5 : ¬ w = nI 2) (h6 : ¬ w = nI 3) : mV G mX4_count (d + 1) [.ref 3, .int w] σ (some (.int (-1))) σ := by
  refine mV_of fun Q hQ => ?_
  have h7 : w.toInt < 0 ∨ 3 < w.toInt := by
    by_cases hw : w.toInt < 0
    · exact Or.inl hw
    · refine Or.inr ?_
      have e3 : ¬ w.toInt = 0 := fun z => h3 (Int32.toInt_inj.mp (by rw [z]; rfl))
      have e4 : ¬ w.toInt = 1 := fun z => h4 (Int32.toInt_inj.mp (by rw [z]; rfl))
      have e5 : ¬ w.toInt = 2 := fun z => h5 (Int32.toInt_inj.mp (by rw [z]; rfl))
      have e6 : ¬ w.toInt = 3 := fun z => h6 (Int32.toInt_inj.mp (by rw [z]; rfl))
      omega
  refine F_iload_n dX4_count_0 rfl ?_
  refine F_tableOut (tgt := 64) dX4_count_1 h7 rfl ?_
  refine F_aload_n dX4_count_64 rfl ?_
  refine F_iload_n dX4_count_65 rfl ?_
  refine F_cV1i (v_countNumberX (d := d) _ h1 h2) dX4_count_66 rfl rfl (by decide) (by first | assumption | rfl) rfl rfl rfl (by decide) (Nat.le_of_ble_eq_true rfl) (by omega) ?_
  refine F_iret dX4_count_69 rfl ?_
  exact hQ

theorem l_app24 {w : Int32} {n : Nat} (hn : σ 14 1 = nI n) (h4 : n < 400) {Q : Option Value → mS → Prop} (hk : mF G mX1_append d 3 [some (.ref 14), some (.int w), some (.int (nI 16))] [] (up (up σ 15 n (byF w 24)) 14 1 (nI (n + 1))) Q) : mF G mX1_append d 3 [some (.ref 14), some (.int w), some (.int (nI 24))] [] σ Q := by
  refine F_iload_n dX1_append_3 rfl ?_
  refine F_if_ltN (tgt := 46) dX1_append_4 rfl (by omega) ?_
  refine F_aload_n dX1_append_7 rfl ?_
  refine F_getE (v := nI n) dX1_append_8 rfl rfl (by first | assumption | rfl) rfl hn ?_
  refine F_sipush (v := nI 400) dX1_append_11 rfl ?_
  refine F_icmp_geN (tgt := 46) dX1_append_14 rfl (by omega) (by omega) (fun c14 => ?_) (fun c14 => ?_)
  · exact absurd c14 (by omega)
  · refine F_aload_n dX1_append_17 rfl ?_
    refine F_getr dX1_append_18 rfl rfl (by first | assumption | rfl) rfl ?_
    refine F_aload_n dX1_append_21 rfl ?_
    refine F_getE (v := nI n) dX1_append_22 rfl rfl (by first | assumption | rfl) rfl hn ?_
    refine F_iload_n dX1_append_25 rfl ?_
    refine F_iload_n dX1_append_26 rfl ?_
    refine F_ishr dX1_append_27 ?_
    refine F_i2b dX1_append_28 ?_
    refine F_bast dX1_append_29 (by first | assumption | rfl) (by decide) (by omega) ?_
    refine F_aload_n dX1_append_30 rfl ?_
    refine F_dup dX1_append_31 rfl ?_
    refine F_getE (v := nI n) dX1_append_32 rfl rfl (by first | assumption | rfl) rfl hn ?_
    refine F_iconst (v := nI 1) dX1_append_35 rfl ?_
    refine F_iaddN dX1_append_36 ?_
    refine F_put dX1_append_37 rfl rfl (by first | assumption | rfl) rfl rfl rfl rfl ?_
    refine F_iinc (v := nI 16) dX1_append_40 rfl (by decide) ?_
    refine F_goto (tgt := 3) dX1_append_43 rfl ?_
    exact hk

theorem l_app16 {w : Int32} {n : Nat} (hn : σ 14 1 = nI n) (h4 : n < 400) {Q : Option Value → mS → Prop} (hk : mF G mX1_append d 3 [some (.ref 14), some (.int w), some (.int (nI 8))] [] (up (up σ 15 n (byF w 16)) 14 1 (nI (n + 1))) Q) : mF G mX1_append d 3 [some (.ref 14), some (.int w), some (.int (nI 16))] [] σ Q := by
  refine F_iload_n dX1_append_3 rfl ?_
  refine F_if_ltN (tgt := 46) dX1_append_4 rfl (by omega) ?_
  refine F_aload_n dX1_append_7 rfl ?_
  refine F_getE (v := nI n) dX1_append_8 rfl rfl (by first | assumption | rfl) rfl hn ?_
  refine F_sipush (v := nI 400) dX1_append_11 rfl ?_
  refine F_icmp_geN (tgt := 46) dX1_append_14 rfl (by omega) (by omega) (fun c14 => ?_) (fun c14 => ?_)
  · exact absurd c14 (by omega)
  · refine F_aload_n dX1_append_17 rfl ?_
    refine F_getr dX1_append_18 rfl rfl (by first | assumption | rfl) rfl ?_
    refine F_aload_n dX1_append_21 rfl ?_
    refine F_getE (v := nI n) dX1_append_22 rfl rfl (by first | assumption | rfl) rfl hn ?_
    refine F_iload_n dX1_append_25 rfl ?_
    refine F_iload_n dX1_append_26 rfl ?_
    refine F_ishr dX1_append_27 ?_
    refine F_i2b dX1_append_28 ?_
    refine F_bast dX1_append_29 (by first | assumption | rfl) (by decide) (by omega) ?_
    refine F_aload_n dX1_append_30 rfl ?_
    refine F_dup dX1_append_31 rfl ?_
    refine F_getE (v := nI n) dX1_append_32 rfl rfl (by first | assumption | rfl) rfl hn ?_
    refine F_iconst (v := nI 1) dX1_append_35 rfl ?_
    refine F_iaddN dX1_append_36 ?_
    refine F_put dX1_append_37 rfl rfl (by first | assumption | rfl) rfl rfl rfl rfl ?_
    refine F_iinc (v := nI 8) dX1_append_40 rfl (by decide) ?_
    refine F_goto (tgt := 3) dX1_append_43 rfl ?_
    exact hk

theorem l_app8 {w : Int32} {n : Nat} (hn : σ 14 1 = nI n) (h4 : n < 400) {Q : Option Value → mS → Prop} (hk : mF G mX1_append d 3 [some (.ref 14), some (.int w), some (.int (nI 0))] [] (up (up σ 15 n (byF w 8)) 14 1 (nI (n + 1))) Q) : mF G mX1_append d 3 [some (.ref 14), some (.int w), some (.int (nI 8))] [] σ Q := by
  refine F_iload_n dX1_append_3 rfl ?_
  refine F_if_ltN (tgt := 46) dX1_append_4 rfl (by omega) ?_
  refine F_aload_n dX1_append_7 rfl ?_
  refine F_getE (v := nI n) dX1_append_8 rfl rfl (by first | assumption | rfl) rfl hn ?_
  refine F_sipush (v := nI 400) dX1_append_11 rfl ?_
  refine F_icmp_geN (tgt := 46) dX1_append_14 rfl (by omega) (by omega) (fun c14 => ?_) (fun c14 => ?_)
  · exact absurd c14 (by omega)
  · refine F_aload_n dX1_append_17 rfl ?_
    refine F_getr dX1_append_18 rfl rfl (by first | assumption | rfl) rfl ?_
    refine F_aload_n dX1_append_21 rfl ?_
    refine F_getE (v := nI n) dX1_append_22 rfl rfl (by first | assumption | rfl) rfl hn ?_
    refine F_iload_n dX1_append_25 rfl ?_
    refine F_iload_n dX1_append_26 rfl ?_
    refine F_ishr dX1_append_27 ?_
    refine F_i2b dX1_append_28 ?_
    refine F_bast dX1_append_29 (by first | assumption | rfl) (by decide) (by omega) ?_
    refine F_aload_n dX1_append_30 rfl ?_
    refine F_dup dX1_append_31 rfl ?_
    refine F_getE (v := nI n) dX1_append_32 rfl rfl (by first | assumption | rfl) rfl hn ?_
    refine F_iconst (v := nI 1) dX1_append_35 rfl ?_
    refine F_iaddN dX1_append_36 ?_
    refine F_put dX1_append_37 rfl rfl (by first | assumption | rfl) rfl rfl rfl rfl ?_
    refine F_iinc (v := nI 0) dX1_append_40 rfl (by decide) ?_
    refine F_goto (tgt := 3) dX1_append_43 rfl ?_
    exact hk

theorem l_app0 {w : Int32} {n : Nat} (hn : σ 14 1 = nI n) (h4 : n < 400) {Q : Option Value → mS → Prop} (hk : mF G mX1_append d 3 [some (.ref 14), some (.int w), some (.int (-8))] [] (up (up σ 15 n (byF w 0)) 14 1 (nI (n + 1))) Q) : mF G mX1_append d 3 [some (.ref 14), some (.int w), some (.int (nI 0))] [] σ Q := by
  refine F_iload_n dX1_append_3 rfl ?_
  refine F_if_ltN (tgt := 46) dX1_append_4 rfl (by omega) ?_
  refine F_aload_n dX1_append_7 rfl ?_
  refine F_getE (v := nI n) dX1_append_8 rfl rfl (by first | assumption | rfl) rfl hn ?_
  refine F_sipush (v := nI 400) dX1_append_11 rfl ?_
  refine F_icmp_geN (tgt := 46) dX1_append_14 rfl (by omega) (by omega) (fun c14 => ?_) (fun c14 => ?_)
  · exact absurd c14 (by omega)
  · refine F_aload_n dX1_append_17 rfl ?_
    refine F_getr dX1_append_18 rfl rfl (by first | assumption | rfl) rfl ?_
    refine F_aload_n dX1_append_21 rfl ?_
    refine F_getE (v := nI n) dX1_append_22 rfl rfl (by first | assumption | rfl) rfl hn ?_
    refine F_iload_n dX1_append_25 rfl ?_
    refine F_iload_n dX1_append_26 rfl ?_
    refine F_ishr dX1_append_27 ?_
    refine F_i2b dX1_append_28 ?_
    refine F_bast dX1_append_29 (by first | assumption | rfl) (by decide) (by omega) ?_
    refine F_aload_n dX1_append_30 rfl ?_
    refine F_dup dX1_append_31 rfl ?_
    refine F_getE (v := nI n) dX1_append_32 rfl rfl (by first | assumption | rfl) rfl hn ?_
    refine F_iconst (v := nI 1) dX1_append_35 rfl ?_
    refine F_iaddN dX1_append_36 ?_
    refine F_put dX1_append_37 rfl rfl (by first | assumption | rfl) rfl rfl rfl rfl ?_
    refine F_iinc (v := -8) dX1_append_40 rfl (by decide) ?_
    refine F_goto (tgt := 3) dX1_append_43 rfl ?_
    exact hk

theorem v_append (w : Int32) {n : Nat} (hn : σ 14 1 = nI n) (h4 : n + 4 ≤ 400) : mV G mX1_append d [.ref 14, .int w] σ none (up (upR σ 15 (put4 (σ 15) n w)) 14 1 (nI (n + 4))) := by
  refine mV_of fun Q hQ => ?_
  refine F_bipush (v := nI 24) dX1_append_0 rfl ?_
  refine F_istore_n dX1_append_2 (Nat.le_of_ble_eq_true rfl) ?_
  refine l_app24 hn (by omega) ?_
  refine l_app16 (n := n + 1) rfl (by omega) ?_
  refine l_app8 (n := n + 2) rfl (by omega) ?_
  refine l_app0 (n := n + 3) rfl (by omega) ?_
  refine F_iload_n dX1_append_3 rfl ?_
  refine F_if_lt (tgt := 46) dX1_append_4 rfl (fun c4 => ?_) (fun c4 => ?_)
  · refine F_vret dX1_append_46 rfl ?_
    refine Qn hQ ?_
    funext b0
    by_cases h1 : b0 = 14
    · subst h1
      simp [up, upR]
      funext j
      simp only [upd]
      split <;> rfl
    · by_cases h2 : b0 = 15
      · subst h2; simp [up, upR, put4]
      · simp [up, upR, h1, h2]
  · exact absurd (by decide) c4

theorem b_feedA (a b c e f : Int32) {n : Nat} (hn : σ 14 1 = nI n) (h : n ≤ 400) (hf : 400 < n + 20) : mV G mX4_feed (d + 1) [.ref 3, .int a, .int b, .int c, .int e, .int f] σ (some (.int (-1))) σ := by
  refine mV_of fun Q hQ => ?_
  refine F_aload_n dX4_feed_0 rfl ?_
  refine F_getr dX4_feed_1 rfl rfl (by first | assumption | rfl) rfl ?_
  refine F_getr dX4_feed_4 rfl rfl (by first | assumption | rfl) rfl ?_
  refine F_astore dX4_feed_7 (Nat.le_of_ble_eq_true rfl) ?_
  refine F_aload dX4_feed_9 rfl ?_
  refine F_getE (v := nI n) dX4_feed_11 rfl rfl (by first | assumption | rfl) rfl hn ?_
  refine F_sipush (v := nI 380) dX4_feed_14 rfl ?_
  refine F_icmp_leN (tgt := 22) dX4_feed_17 rfl (by omega) (by omega) (fun c17 => ?_) (fun c17 => ?_)
  · exact absurd c17 (by omega)
  · refine F_iconst (v := (-1)) dX4_feed_20 rfl ?_
    refine F_iret dX4_feed_21 rfl ?_
    exact hQ

theorem b_feedB (a b c e f : Int32) {n : Nat} (hn : σ 14 1 = nI n) (hf : n + 20 ≤ 400) : mV G mX4_feed (d + 1) [.ref 3, .int a, .int b, .int c, .int e, .int f] σ (some (.int (nI (n + 20)))) (up (upR σ 15 (put4 (put4 (put4 (put4 (put4 (σ 15) n a) (n + 4) b) (n + 8) c) (n + 12) e) (n + 16) f)) 14 1 (nI (n + 20))) := by
  refine mV_of fun Q hQ => ?_
  refine F_aload_n dX4_feed_0 rfl ?_
  refine F_getr dX4_feed_1 rfl rfl (by first | assumption | rfl) rfl ?_
  refine F_getr dX4_feed_4 rfl rfl (by first | assumption | rfl) rfl ?_
  refine F_astore dX4_feed_7 (Nat.le_of_ble_eq_true rfl) ?_
  refine F_aload dX4_feed_9 rfl ?_
  refine F_getE (v := nI n) dX4_feed_11 rfl rfl (by first | assumption | rfl) rfl hn ?_
  refine F_sipush (v := nI 380) dX4_feed_14 rfl ?_
  refine F_icmp_leN (tgt := 22) dX4_feed_17 rfl (by omega) (by omega) (fun c17 => ?_) (fun c17 => ?_)
  · refine F_aload dX4_feed_22 rfl ?_
    refine F_iload_n dX4_feed_24 rfl ?_
    refine F_cV1v (v_append (d := d) _ (n := n + 0) hn (by omega)) dX4_feed_25 rfl rfl (by decide) (by first | assumption | rfl) rfl rfl rfl (by decide) (Nat.le_of_ble_eq_true rfl) (by omega) ?_
    refine F_aload dX4_feed_28 rfl ?_
    refine F_iload_n dX4_feed_30 rfl ?_
    refine F_cV1v (v_append (d := d) _ (n := n + 4) rfl (by omega)) dX4_feed_31 rfl rfl (by decide) (by first | assumption | rfl) rfl rfl rfl (by decide) (Nat.le_of_ble_eq_true rfl) (by omega) ?_
    refine F_aload dX4_feed_34 rfl ?_
    refine F_iload_n dX4_feed_36 rfl ?_
    refine F_cV1v (v_append (d := d) _ (n := n + 8) rfl (by omega)) dX4_feed_37 rfl rfl (by decide) (by first | assumption | rfl) rfl rfl rfl (by decide) (Nat.le_of_ble_eq_true rfl) (by omega) ?_
    refine F_aload dX4_feed_40 rfl ?_
    refine F_iload dX4_feed_42 rfl ?_
    refine F_cV1v (v_append (d := d) _ (n := n + 12) rfl (by omega)) dX4_feed_44 rfl rfl (by decide) (by first | assumption | rfl) rfl rfl rfl (by decide) (Nat.le_of_ble_eq_true rfl) (by omega) ?_
    refine F_aload dX4_feed_47 rfl ?_
    refine F_iload dX4_feed_49 rfl ?_
    refine F_cV1v (v_append (d := d) _ (n := n + 16) rfl (by omega)) dX4_feed_51 rfl rfl (by decide) (by first | assumption | rfl) rfl rfl rfl (by decide) (Nat.le_of_ble_eq_true rfl) (by omega) ?_
    refine F_aload dX4_feed_54 rfl ?_
    refine F_getE (v := nI (n + 20)) dX4_feed_56 rfl rfl (by first | assumption | rfl) rfl rfl ?_
    refine F_iret dX4_feed_59 rfl ?_
    refine Qn hQ ?_
    funext b0
    by_cases h1 : b0 = 14
    · subst h1
      simp [up, upR]
      funext j
      simp only [upd]
      split <;> rfl
    · by_cases h2 : b0 = 15
      · subst h2; simp [up, upR]
      · simp [up, upR, h1, h2]
  · exact absurd (show n ≤ 380 by omega) c17

theorem b_endA (n : Int32) (h : inR n (nI 0) (σ 14 1) = false) : mV G mX4_end d [.ref 3, .int n] σ (some (.int (nI 0))) σ := by
  refine mV_of fun Q hQ => ?_
  refine F_iload_n dX4_end_0 rfl ?_
  refine F_if_lt (tgt := 18) dX4_end_1 rfl (fun c1 => ?_) (fun c1 => ?_)
  · refine F_iconst (v := nI 0) dX4_end_18 rfl ?_
    refine F_zret dX4_end_19 rfl (by first | exact Or.inl rfl | exact Or.inr rfl | exact bI_01 _) ?_
    exact hQ
  · refine F_iload_n dX4_end_4 rfl ?_
    refine F_aload_n dX4_end_5 rfl ?_
    refine F_getr dX4_end_6 rfl rfl (by first | assumption | rfl) rfl ?_
    refine F_getr dX4_end_9 rfl rfl (by first | assumption | rfl) rfl ?_
    refine F_geti dX4_end_12 rfl rfl (by first | assumption | rfl) rfl ?_
    refine F_icmp_le (tgt := 20) dX4_end_15 rfl (fun c15 => ?_) (fun c15 => ?_)
    · exfalso
      rw [lt0_iff, Decidable.not_not] at c1
      rw [inR, decide_eq_true c1, decide_eq_true c15] at h
      cases h
    · refine F_iconst (v := nI 0) dX4_end_18 rfl ?_
      refine F_zret dX4_end_19 rfl (by first | exact Or.inl rfl | exact Or.inr rfl | exact bI_01 _) ?_
      exact hQ

theorem b_endB (n : Int32) (h : inR n (nI 0) (σ 14 1) = true) : mV G mX4_end d [.ref 3, .int n] σ (some (.int (nI 1))) (up σ 14 1 n) := by
  refine mV_of fun Q hQ => ?_
  have hk := h
  simp only [inR, Bool.and_eq_true, decide_eq_true_eq] at hk
  refine F_iload_n dX4_end_0 rfl ?_
  refine F_if_lt (tgt := 18) dX4_end_1 rfl (fun c1 => ?_) (fun c1 => ?_)
  · exact absurd hk.1 ((lt0_iff n).mp c1)
  · refine F_iload_n dX4_end_4 rfl ?_
    refine F_aload_n dX4_end_5 rfl ?_
    refine F_getr dX4_end_6 rfl rfl (by first | assumption | rfl) rfl ?_
    refine F_getr dX4_end_9 rfl rfl (by first | assumption | rfl) rfl ?_
    refine F_geti dX4_end_12 rfl rfl (by first | assumption | rfl) rfl ?_
    refine F_icmp_le (tgt := 20) dX4_end_15 rfl (fun c15 => ?_) (fun c15 => ?_)
    · refine F_aload_n dX4_end_20 rfl ?_
      refine F_getr dX4_end_21 rfl rfl (by first | assumption | rfl) rfl ?_
      refine F_getr dX4_end_24 rfl rfl (by first | assumption | rfl) rfl ?_
      refine F_iload_n dX4_end_27 rfl ?_
      refine F_put dX4_end_28 rfl rfl (by first | assumption | rfl) rfl rfl rfl rfl ?_
      refine F_iconst (v := nI 1) dX4_end_31 rfl ?_
      refine F_zret dX4_end_32 rfl (by first | exact Or.inl rfl | exact Or.inr rfl | exact bI_01 _) ?_
      exact hQ
    · exact absurd hk.2 c15

theorem b_fault  : mV G mX4_fault d [.ref 3] σ (some (.int (σ 13 3))) σ := by
  refine mV_of fun Q hQ => ?_
  refine F_aload_n dX4_fault_0 rfl ?_
  refine F_getr dX4_fault_1 rfl rfl (by first | assumption | rfl) rfl ?_
  refine F_geti dX4_fault_4 rfl rfl (by first | assumption | rfl) rfl ?_
  refine F_iret dX4_fault_7 rfl ?_
  exact hQ

end BT
