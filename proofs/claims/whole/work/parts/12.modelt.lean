/-! ===== the reference: what is told ===== -/
theorem dX5_keeps_0 : decode cX5_keeps 0 = .ok (.aload_n 0, 1) := by decide +kernel
theorem dX5_keeps_1 : decode cX5_keeps 1 = .ok (.getfield 83, 3) := by decide +kernel
theorem dX5_keeps_4 : decode cX5_keeps 4 = .ok (.bipush 8, 2) := by decide +kernel
theorem dX5_keeps_6 : decode cX5_keeps 6 = .ok (.if_icmp .ne 44, 3) := by decide +kernel
theorem dX5_keeps_9 : decode cX5_keeps 9 = .ok (.iconst 0, 1) := by decide +kernel
theorem dX5_keeps_10 : decode cX5_keeps 10 = .ok (.istore_n 2, 1) := by decide +kernel
theorem dX5_keeps_11 : decode cX5_keeps 11 = .ok (.iload_n 2, 1) := by decide +kernel
theorem dX5_keeps_12 : decode cX5_keeps 12 = .ok (.sipush 3220, 3) := by decide +kernel
theorem dX5_keeps_15 : decode cX5_keeps 15 = .ok (.if_icmp .ge 25, 3) := by decide +kernel
theorem dX5_keeps_18 : decode cX5_keeps 18 = .ok (.aload_n 0, 1) := by decide +kernel
theorem dX5_keeps_19 : decode cX5_keeps 19 = .ok (.getfield 13, 3) := by decide +kernel
theorem dX5_keeps_22 : decode cX5_keeps 22 = .ok (.iload_n 2, 1) := by decide +kernel
theorem dX5_keeps_23 : decode cX5_keeps 23 = .ok (.aload_n 0, 1) := by decide +kernel
theorem dX5_keeps_24 : decode cX5_keeps 24 = .ok (.getfield 13, 3) := by decide +kernel
theorem dX5_keeps_27 : decode cX5_keeps 27 = .ok (.sipush 460, 3) := by decide +kernel
theorem dX5_keeps_30 : decode cX5_keeps 30 = .ok (.iload_n 2, 1) := by decide +kernel
theorem dX5_keeps_31 : decode cX5_keeps 31 = .ok (.iadd, 1) := by decide +kernel
theorem dX5_keeps_32 : decode cX5_keeps 32 = .ok (.iaload, 1) := by decide +kernel
theorem dX5_keeps_33 : decode cX5_keeps 33 = .ok (.iastore, 1) := by decide +kernel
theorem dX5_keeps_34 : decode cX5_keeps 34 = .ok (.iinc 2 1, 3) := by decide +kernel
theorem dX5_keeps_37 : decode cX5_keeps 37 = .ok (.goto (-26), 3) := by decide +kernel
theorem dX5_keeps_40 : decode cX5_keeps 40 = .ok (.aload_n 0, 1) := by decide +kernel
theorem dX5_keeps_41 : decode cX5_keeps 41 = .ok (.dup, 1) := by decide +kernel
theorem dX5_keeps_42 : decode cX5_keeps 42 = .ok (.getfield 83, 3) := by decide +kernel
theorem dX5_keeps_45 : decode cX5_keeps 45 = .ok (.iconst 1, 1) := by decide +kernel
theorem dX5_keeps_46 : decode cX5_keeps 46 = .ok (.isub, 1) := by decide +kernel
theorem dX5_keeps_47 : decode cX5_keeps 47 = .ok (.putfield 83, 3) := by decide +kernel
theorem dX5_keeps_50 : decode cX5_keeps 50 = .ok (.iconst 0, 1) := by decide +kernel
theorem dX5_keeps_51 : decode cX5_keeps 51 = .ok (.istore_n 2, 1) := by decide +kernel
theorem dX5_keeps_52 : decode cX5_keeps 52 = .ok (.iload_n 2, 1) := by decide +kernel
theorem dX5_keeps_53 : decode cX5_keeps 53 = .ok (.sipush 460, 3) := by decide +kernel
theorem dX5_keeps_56 : decode cX5_keeps 56 = .ok (.if_icmp .ge 27, 3) := by decide +kernel
theorem dX5_keeps_59 : decode cX5_keeps 59 = .ok (.aload_n 0, 1) := by decide +kernel
theorem dX5_keeps_60 : decode cX5_keeps 60 = .ok (.getfield 13, 3) := by decide +kernel
theorem dX5_keeps_63 : decode cX5_keeps 63 = .ok (.sipush 460, 3) := by decide +kernel
theorem dX5_keeps_66 : decode cX5_keeps 66 = .ok (.aload_n 0, 1) := by decide +kernel
theorem dX5_keeps_67 : decode cX5_keeps 67 = .ok (.getfield 83, 3) := by decide +kernel
theorem dX5_keeps_70 : decode cX5_keeps 70 = .ok (.imul, 1) := by decide +kernel
theorem dX5_keeps_71 : decode cX5_keeps 71 = .ok (.iload_n 2, 1) := by decide +kernel
theorem dX5_keeps_72 : decode cX5_keeps 72 = .ok (.iadd, 1) := by decide +kernel
theorem dX5_keeps_73 : decode cX5_keeps 73 = .ok (.aload_n 1, 1) := by decide +kernel
theorem dX5_keeps_74 : decode cX5_keeps 74 = .ok (.iload_n 2, 1) := by decide +kernel
theorem dX5_keeps_75 : decode cX5_keeps 75 = .ok (.iaload, 1) := by decide +kernel
theorem dX5_keeps_76 : decode cX5_keeps 76 = .ok (.iastore, 1) := by decide +kernel
theorem dX5_keeps_77 : decode cX5_keeps 77 = .ok (.iinc 2 1, 3) := by decide +kernel
theorem dX5_keeps_80 : decode cX5_keeps 80 = .ok (.goto (-28), 3) := by decide +kernel
theorem dX5_keeps_83 : decode cX5_keeps 83 = .ok (.aload_n 0, 1) := by decide +kernel
theorem dX5_keeps_84 : decode cX5_keeps 84 = .ok (.dup, 1) := by decide +kernel
theorem dX5_keeps_85 : decode cX5_keeps 85 = .ok (.getfield 83, 3) := by decide +kernel
theorem dX5_keeps_88 : decode cX5_keeps 88 = .ok (.iconst 1, 1) := by decide +kernel
theorem dX5_keeps_89 : decode cX5_keeps 89 = .ok (.iadd, 1) := by decide +kernel
theorem dX5_keeps_90 : decode cX5_keeps 90 = .ok (.putfield 83, 3) := by decide +kernel
theorem dX5_keeps_93 : decode cX5_keeps 93 = .ok (.return_, 1) := by decide +kernel
theorem dX5_group_0 : decode cX5_group 0 = .ok (.aload_n 0, 1) := by decide +kernel
theorem dX5_group_1 : decode cX5_group 1 = .ok (.iconst 0, 1) := by decide +kernel
theorem dX5_group_2 : decode cX5_group 2 = .ok (.putfield 61, 3) := by decide +kernel
theorem dX5_group_5 : decode cX5_group 5 = .ok (.iload_n 1, 1) := by decide +kernel
theorem dX5_group_6 : decode cX5_group 6 = .ok (.iconst 0, 1) := by decide +kernel
theorem dX5_group_7 : decode cX5_group 7 = .ok (.sipush 9999, 3) := by decide +kernel
theorem dX5_group_10 : decode cX5_group 10 = .ok (.invokestatic 68, 3) := by decide +kernel
theorem dX5_group_13 : decode cX5_group 13 = .ok (.ifCond .eq 14, 3) := by decide +kernel
theorem dX5_group_16 : decode cX5_group 16 = .ok (.iload_n 2, 1) := by decide +kernel
theorem dX5_group_17 : decode cX5_group 17 = .ok (.iconst 0, 1) := by decide +kernel
theorem dX5_group_18 : decode cX5_group 18 = .ok (.sipush 9999, 3) := by decide +kernel
theorem dX5_group_21 : decode cX5_group 21 = .ok (.invokestatic 68, 3) := by decide +kernel
theorem dX5_group_24 : decode cX5_group 24 = .ok (.ifCond .ne 5, 3) := by decide +kernel
theorem dX5_group_27 : decode cX5_group 27 = .ok (.iconst (-1), 1) := by decide +kernel
theorem dX5_group_28 : decode cX5_group 28 = .ok (.ireturn, 1) := by decide +kernel
theorem dX5_group_29 : decode cX5_group 29 = .ok (.aload_n 0, 1) := by decide +kernel
theorem dX5_group_30 : decode cX5_group 30 = .ok (.invokevirtual 64, 3) := by decide +kernel
theorem dX5_group_33 : decode cX5_group 33 = .ok (.bipush 6, 2) := by decide +kernel
theorem dX5_group_35 : decode cX5_group 35 = .ok (.if_icmp .ne 6, 3) := by decide +kernel
theorem dX5_group_38 : decode cX5_group 38 = .ok (.bipush (-2), 2) := by decide +kernel
theorem dX5_group_40 : decode cX5_group 40 = .ok (.ireturn, 1) := by decide +kernel
theorem dX5_group_41 : decode cX5_group 41 = .ok (.aload_n 0, 1) := by decide +kernel
theorem dX5_group_42 : decode cX5_group 42 = .ok (.aload_n 0, 1) := by decide +kernel
theorem dX5_group_43 : decode cX5_group 43 = .ok (.getfield 7, 3) := by decide +kernel
theorem dX5_group_46 : decode cX5_group 46 = .ok (.invokevirtual 89, 3) := by decide +kernel
theorem dX5_group_49 : decode cX5_group 49 = .ok (.aload_n 0, 1) := by decide +kernel
theorem dX5_group_50 : decode cX5_group 50 = .ok (.iload_n 1, 1) := by decide +kernel
theorem dX5_group_51 : decode cX5_group 51 = .ok (.iload_n 2, 1) := by decide +kernel
theorem dX5_group_52 : decode cX5_group 52 = .ok (.invokevirtual 92, 3) := by decide +kernel
theorem dX5_group_55 : decode cX5_group 55 = .ok (.aload_n 0, 1) := by decide +kernel
theorem dX5_group_56 : decode cX5_group 56 = .ok (.invokevirtual 64, 3) := by decide +kernel
theorem dX5_group_59 : decode cX5_group 59 = .ok (.iconst 1, 1) := by decide +kernel
theorem dX5_group_60 : decode cX5_group 60 = .ok (.isub, 1) := by decide +kernel
theorem dX5_group_61 : decode cX5_group 61 = .ok (.ireturn, 1) := by decide +kernel
theorem dX5_load_0 : decode cX5_load 0 = .ok (.aload_n 0, 1) := by decide +kernel
theorem dX5_load_1 : decode cX5_load 1 = .ok (.iconst 0, 1) := by decide +kernel
theorem dX5_load_2 : decode cX5_load 2 = .ok (.putfield 61, 3) := by decide +kernel
theorem dX5_load_5 : decode cX5_load 5 = .ok (.iload_n 1, 1) := by decide +kernel
theorem dX5_load_6 : decode cX5_load 6 = .ok (.iconst 1, 1) := by decide +kernel
theorem dX5_load_7 : decode cX5_load 7 = .ok (.iconst 5, 1) := by decide +kernel
theorem dX5_load_8 : decode cX5_load 8 = .ok (.invokestatic 68, 3) := by decide +kernel
theorem dX5_load_11 : decode cX5_load 11 = .ok (.ifCond .eq 26, 3) := by decide +kernel
theorem dX5_load_14 : decode cX5_load 14 = .ok (.iload_n 2, 1) := by decide +kernel
theorem dX5_load_15 : decode cX5_load 15 = .ok (.iconst 0, 1) := by decide +kernel
theorem dX5_load_16 : decode cX5_load 16 = .ok (.sipush 300, 3) := by decide +kernel
theorem dX5_load_19 : decode cX5_load 19 = .ok (.invokestatic 68, 3) := by decide +kernel
theorem dX5_load_22 : decode cX5_load 22 = .ok (.ifCond .eq 15, 3) := by decide +kernel
theorem dX5_load_25 : decode cX5_load 25 = .ok (.aload_n 0, 1) := by decide +kernel
theorem dX5_load_26 : decode cX5_load 26 = .ok (.getfield 7, 3) := by decide +kernel
theorem dX5_load_29 : decode cX5_load 29 = .ok (.iconst 0, 1) := by decide +kernel
theorem dX5_load_30 : decode cX5_load 30 = .ok (.iload_n 1, 1) := by decide +kernel
theorem dX5_load_31 : decode cX5_load 31 = .ok (.iadd, 1) := by decide +kernel
theorem dX5_load_32 : decode cX5_load 32 = .ok (.iaload, 1) := by decide +kernel
theorem dX5_load_33 : decode cX5_load 33 = .ok (.iload_n 2, 1) := by decide +kernel
theorem dX5_load_34 : decode cX5_load 34 = .ok (.if_icmp .ne 5, 3) := by decide +kernel
theorem dX5_load_37 : decode cX5_load 37 = .ok (.iconst 0, 1) := by decide +kernel
theorem dX5_load_38 : decode cX5_load 38 = .ok (.ireturn, 1) := by decide +kernel
theorem dX5_load_39 : decode cX5_load 39 = .ok (.aload_n 0, 1) := by decide +kernel
theorem dX5_load_40 : decode cX5_load 40 = .ok (.getfield 7, 3) := by decide +kernel
theorem dX5_load_43 : decode cX5_load 43 = .ok (.iconst 0, 1) := by decide +kernel
theorem dX5_load_44 : decode cX5_load 44 = .ok (.iload_n 1, 1) := by decide +kernel
theorem dX5_load_45 : decode cX5_load 45 = .ok (.iadd, 1) := by decide +kernel
theorem dX5_load_46 : decode cX5_load 46 = .ok (.iload_n 2, 1) := by decide +kernel
theorem dX5_load_47 : decode cX5_load 47 = .ok (.iastore, 1) := by decide +kernel
theorem dX5_load_48 : decode cX5_load 48 = .ok (.iconst 1, 1) := by decide +kernel
theorem dX5_load_49 : decode cX5_load 49 = .ok (.ireturn, 1) := by decide +kernel
theorem dX5_set_0 : decode cX5_set 0 = .ok (.aload_n 0, 1) := by decide +kernel
theorem dX5_set_1 : decode cX5_set 1 = .ok (.iconst 0, 1) := by decide +kernel
theorem dX5_set_2 : decode cX5_set 2 = .ok (.putfield 61, 3) := by decide +kernel
theorem dX5_set_5 : decode cX5_set 5 = .ok (.iload_n 1, 1) := by decide +kernel
theorem dX5_set_6 : decode cX5_set 6 = .ok (.iconst 0, 1) := by decide +kernel
theorem dX5_set_7 : decode cX5_set 7 = .ok (.bipush 7, 2) := by decide +kernel
theorem dX5_set_9 : decode cX5_set 9 = .ok (.invokestatic 68, 3) := by decide +kernel
theorem dX5_set_12 : decode cX5_set 12 = .ok (.ifCond .eq 20, 3) := by decide +kernel
theorem dX5_set_15 : decode cX5_set 15 = .ok (.iload_n 1, 1) := by decide +kernel
theorem dX5_set_16 : decode cX5_set 16 = .ok (.iload_n 2, 1) := by decide +kernel
theorem dX5_set_17 : decode cX5_set 17 = .ok (.invokestatic 96, 3) := by decide +kernel
theorem dX5_set_20 : decode cX5_set 20 = .ok (.ifCond .eq 12, 3) := by decide +kernel
theorem dX5_set_23 : decode cX5_set 23 = .ok (.aload_n 0, 1) := by decide +kernel
theorem dX5_set_24 : decode cX5_set 24 = .ok (.iload_n 1, 1) := by decide +kernel
theorem dX5_set_25 : decode cX5_set 25 = .ok (.invokevirtual 99, 3) := by decide +kernel
theorem dX5_set_28 : decode cX5_set 28 = .ok (.iload_n 2, 1) := by decide +kernel
theorem dX5_set_29 : decode cX5_set 29 = .ok (.if_icmp .ne 5, 3) := by decide +kernel
theorem dX5_set_32 : decode cX5_set 32 = .ok (.iconst 0, 1) := by decide +kernel
theorem dX5_set_33 : decode cX5_set 33 = .ok (.ireturn, 1) := by decide +kernel
theorem dX5_set_34 : decode cX5_set 34 = .ok (.aload_n 0, 1) := by decide +kernel
theorem dX5_set_35 : decode cX5_set 35 = .ok (.getfield 7, 3) := by decide +kernel
theorem dX5_set_38 : decode cX5_set 38 = .ok (.bipush 6, 2) := by decide +kernel
theorem dX5_set_40 : decode cX5_set 40 = .ok (.iload_n 1, 1) := by decide +kernel
theorem dX5_set_41 : decode cX5_set 41 = .ok (.iadd, 1) := by decide +kernel
theorem dX5_set_42 : decode cX5_set 42 = .ok (.iload_n 2, 1) := by decide +kernel
theorem dX5_set_43 : decode cX5_set 43 = .ok (.iastore, 1) := by decide +kernel
theorem dX5_set_44 : decode cX5_set 44 = .ok (.iconst 1, 1) := by decide +kernel
theorem dX5_set_45 : decode cX5_set 45 = .ok (.ireturn, 1) := by decide +kernel
theorem dX5_camp_0 : decode cX5_camp 0 = .ok (.aload_n 0, 1) := by decide +kernel
theorem dX5_camp_1 : decode cX5_camp 1 = .ok (.iconst 0, 1) := by decide +kernel
theorem dX5_camp_2 : decode cX5_camp 2 = .ok (.putfield 61, 3) := by decide +kernel
theorem dX5_camp_5 : decode cX5_camp 5 = .ok (.iload_n 1, 1) := by decide +kernel
theorem dX5_camp_6 : decode cX5_camp 6 = .ok (.invokestatic 76, 3) := by decide +kernel
theorem dX5_camp_9 : decode cX5_camp 9 = .ok (.ifCond .eq 15, 3) := by decide +kernel
theorem dX5_camp_12 : decode cX5_camp 12 = .ok (.iload_n 2, 1) := by decide +kernel
theorem dX5_camp_13 : decode cX5_camp 13 = .ok (.invokestatic 76, 3) := by decide +kernel
theorem dX5_camp_16 : decode cX5_camp 16 = .ok (.ifCond .eq 8, 3) := by decide +kernel
theorem dX5_camp_19 : decode cX5_camp 19 = .ok (.iload_n 2, 1) := by decide +kernel
theorem dX5_camp_20 : decode cX5_camp 20 = .ok (.iload_n 1, 1) := by decide +kernel
theorem dX5_camp_21 : decode cX5_camp 21 = .ok (.if_icmp .ge 5, 3) := by decide +kernel
theorem dX5_camp_24 : decode cX5_camp 24 = .ok (.iconst (-1), 1) := by decide +kernel
theorem dX5_camp_25 : decode cX5_camp 25 = .ok (.ireturn, 1) := by decide +kernel
theorem dX5_camp_26 : decode cX5_camp 26 = .ok (.aload_n 0, 1) := by decide +kernel
theorem dX5_camp_27 : decode cX5_camp 27 = .ok (.invokevirtual 86, 3) := by decide +kernel
theorem dX5_camp_30 : decode cX5_camp 30 = .ok (.iconst 4, 1) := by decide +kernel
theorem dX5_camp_31 : decode cX5_camp 31 = .ok (.if_icmp .ne 6, 3) := by decide +kernel
theorem dX5_camp_34 : decode cX5_camp 34 = .ok (.bipush (-2), 2) := by decide +kernel
theorem dX5_camp_36 : decode cX5_camp 36 = .ok (.ireturn, 1) := by decide +kernel
theorem dX5_camp_37 : decode cX5_camp 37 = .ok (.aload_n 0, 1) := by decide +kernel
theorem dX5_camp_38 : decode cX5_camp 38 = .ok (.aload_n 0, 1) := by decide +kernel
theorem dX5_camp_39 : decode cX5_camp 39 = .ok (.getfield 7, 3) := by decide +kernel
theorem dX5_camp_42 : decode cX5_camp 42 = .ok (.invokevirtual 89, 3) := by decide +kernel
theorem dX5_camp_45 : decode cX5_camp 45 = .ok (.aload_n 0, 1) := by decide +kernel
theorem dX5_camp_46 : decode cX5_camp 46 = .ok (.iload_n 1, 1) := by decide +kernel
theorem dX5_camp_47 : decode cX5_camp 47 = .ok (.iload_n 2, 1) := by decide +kernel
theorem dX5_camp_48 : decode cX5_camp 48 = .ok (.invokevirtual 103, 3) := by decide +kernel
theorem dX5_camp_51 : decode cX5_camp 51 = .ok (.aload_n 0, 1) := by decide +kernel
theorem dX5_camp_52 : decode cX5_camp 52 = .ok (.invokevirtual 86, 3) := by decide +kernel
theorem dX5_camp_55 : decode cX5_camp 55 = .ok (.iconst 1, 1) := by decide +kernel
theorem dX5_camp_56 : decode cX5_camp 56 = .ok (.isub, 1) := by decide +kernel
theorem dX5_camp_57 : decode cX5_camp 57 = .ok (.ireturn, 1) := by decide +kernel
theorem dX5_strikes_0 : decode cX5_strikes 0 = .ok (.bipush 15, 2) := by decide +kernel
theorem dX5_strikes_2 : decode cX5_strikes 2 = .ok (.iconst 2, 1) := by decide +kernel
theorem dX5_strikes_3 : decode cX5_strikes 3 = .ok (.iload_n 1, 1) := by decide +kernel
theorem dX5_strikes_4 : decode cX5_strikes 4 = .ok (.imul, 1) := by decide +kernel
theorem dX5_strikes_5 : decode cX5_strikes 5 = .ok (.iadd, 1) := by decide +kernel
theorem dX5_strikes_6 : decode cX5_strikes 6 = .ok (.istore_n 2, 1) := by decide +kernel
theorem dX5_strikes_7 : decode cX5_strikes 7 = .ok (.iload_n 2, 1) := by decide +kernel
theorem dX5_strikes_8 : decode cX5_strikes 8 = .ok (.bipush 15, 2) := by decide +kernel
theorem dX5_strikes_10 : decode cX5_strikes 10 = .ok (.iconst 2, 1) := by decide +kernel
theorem dX5_strikes_11 : decode cX5_strikes 11 = .ok (.aload_n 0, 1) := by decide +kernel
theorem dX5_strikes_12 : decode cX5_strikes 12 = .ok (.invokevirtual 86, 3) := by decide +kernel
theorem dX5_strikes_15 : decode cX5_strikes 15 = .ok (.imul, 1) := by decide +kernel
theorem dX5_strikes_16 : decode cX5_strikes 16 = .ok (.iadd, 1) := by decide +kernel
theorem dX5_strikes_17 : decode cX5_strikes 17 = .ok (.iconst 2, 1) := by decide +kernel
theorem dX5_strikes_18 : decode cX5_strikes 18 = .ok (.isub, 1) := by decide +kernel
theorem dX5_strikes_19 : decode cX5_strikes 19 = .ok (.if_icmp .ge 23, 3) := by decide +kernel
theorem dX5_strikes_22 : decode cX5_strikes 22 = .ok (.aload_n 0, 1) := by decide +kernel
theorem dX5_strikes_23 : decode cX5_strikes 23 = .ok (.getfield 7, 3) := by decide +kernel
theorem dX5_strikes_26 : decode cX5_strikes 26 = .ok (.iload_n 2, 1) := by decide +kernel
theorem dX5_strikes_27 : decode cX5_strikes 27 = .ok (.aload_n 0, 1) := by decide +kernel
theorem dX5_strikes_28 : decode cX5_strikes 28 = .ok (.getfield 7, 3) := by decide +kernel
theorem dX5_strikes_31 : decode cX5_strikes 31 = .ok (.iload_n 2, 1) := by decide +kernel
theorem dX5_strikes_32 : decode cX5_strikes 32 = .ok (.iconst 2, 1) := by decide +kernel
theorem dX5_strikes_33 : decode cX5_strikes 33 = .ok (.iadd, 1) := by decide +kernel
theorem dX5_strikes_34 : decode cX5_strikes 34 = .ok (.iaload, 1) := by decide +kernel
theorem dX5_strikes_35 : decode cX5_strikes 35 = .ok (.iastore, 1) := by decide +kernel
theorem dX5_strikes_36 : decode cX5_strikes 36 = .ok (.iinc 2 1, 3) := by decide +kernel
theorem dX5_strikes_39 : decode cX5_strikes 39 = .ok (.goto (-32), 3) := by decide +kernel
theorem dX5_strikes_42 : decode cX5_strikes 42 = .ok (.aload_n 0, 1) := by decide +kernel
theorem dX5_strikes_43 : decode cX5_strikes 43 = .ok (.getfield 7, 3) := by decide +kernel
theorem dX5_strikes_46 : decode cX5_strikes 46 = .ok (.bipush 14, 2) := by decide +kernel
theorem dX5_strikes_48 : decode cX5_strikes 48 = .ok (.dup2, 1) := by decide +kernel
theorem dX5_strikes_49 : decode cX5_strikes 49 = .ok (.iaload, 1) := by decide +kernel
theorem dX5_strikes_50 : decode cX5_strikes 50 = .ok (.iconst 1, 1) := by decide +kernel
theorem dX5_strikes_51 : decode cX5_strikes 51 = .ok (.isub, 1) := by decide +kernel
theorem dX5_strikes_52 : decode cX5_strikes 52 = .ok (.iastore, 1) := by decide +kernel
theorem dX5_strikes_53 : decode cX5_strikes 53 = .ok (.return_, 1) := by decide +kernel
theorem dX5_strike_0 : decode cX5_strike 0 = .ok (.aload_n 0, 1) := by decide +kernel
theorem dX5_strike_1 : decode cX5_strike 1 = .ok (.iconst 0, 1) := by decide +kernel
theorem dX5_strike_2 : decode cX5_strike 2 = .ok (.putfield 61, 3) := by decide +kernel
theorem dX5_strike_5 : decode cX5_strike 5 = .ok (.iload_n 1, 1) := by decide +kernel
theorem dX5_strike_6 : decode cX5_strike 6 = .ok (.iconst 0, 1) := by decide +kernel
theorem dX5_strike_7 : decode cX5_strike 7 = .ok (.aload_n 0, 1) := by decide +kernel
theorem dX5_strike_8 : decode cX5_strike 8 = .ok (.invokevirtual 86, 3) := by decide +kernel
theorem dX5_strike_11 : decode cX5_strike 11 = .ok (.iconst 1, 1) := by decide +kernel
theorem dX5_strike_12 : decode cX5_strike 12 = .ok (.isub, 1) := by decide +kernel
theorem dX5_strike_13 : decode cX5_strike 13 = .ok (.invokestatic 68, 3) := by decide +kernel
theorem dX5_strike_16 : decode cX5_strike 16 = .ok (.ifCond .ne 5, 3) := by decide +kernel
theorem dX5_strike_19 : decode cX5_strike 19 = .ok (.iconst (-1), 1) := by decide +kernel
theorem dX5_strike_20 : decode cX5_strike 20 = .ok (.ireturn, 1) := by decide +kernel
theorem dX5_strike_21 : decode cX5_strike 21 = .ok (.aload_n 0, 1) := by decide +kernel
theorem dX5_strike_22 : decode cX5_strike 22 = .ok (.aload_n 0, 1) := by decide +kernel
theorem dX5_strike_23 : decode cX5_strike 23 = .ok (.getfield 7, 3) := by decide +kernel
theorem dX5_strike_26 : decode cX5_strike 26 = .ok (.invokevirtual 89, 3) := by decide +kernel
theorem dX5_strike_29 : decode cX5_strike 29 = .ok (.aload_n 0, 1) := by decide +kernel
theorem dX5_strike_30 : decode cX5_strike 30 = .ok (.iload_n 1, 1) := by decide +kernel
theorem dX5_strike_31 : decode cX5_strike 31 = .ok (.invokevirtual 106, 3) := by decide +kernel
theorem dX5_strike_34 : decode cX5_strike 34 = .ok (.aload_n 0, 1) := by decide +kernel
theorem dX5_strike_35 : decode cX5_strike 35 = .ok (.invokevirtual 86, 3) := by decide +kernel
theorem dX5_strike_38 : decode cX5_strike 38 = .ok (.ireturn, 1) := by decide +kernel
theorem dX5_plan_0 : decode cX5_plan 0 = .ok (.aload_n 0, 1) := by decide +kernel
theorem dX5_plan_1 : decode cX5_plan 1 = .ok (.iconst 0, 1) := by decide +kernel
theorem dX5_plan_2 : decode cX5_plan 2 = .ok (.putfield 61, 3) := by decide +kernel
theorem dX5_plan_5 : decode cX5_plan 5 = .ok (.aload_n 0, 1) := by decide +kernel
theorem dX5_plan_6 : decode cX5_plan 6 = .ok (.iload_n 1, 1) := by decide +kernel
theorem dX5_plan_7 : decode cX5_plan 7 = .ok (.iload_n 2, 1) := by decide +kernel
theorem dX5_plan_8 : decode cX5_plan 8 = .ok (.iload_n 3, 1) := by decide +kernel
theorem dX5_plan_9 : decode cX5_plan 9 = .ok (.invokevirtual 110, 3) := by decide +kernel
theorem dX5_plan_12 : decode cX5_plan 12 = .ok (.ifCond .eq 13, 3) := by decide +kernel
theorem dX5_plan_15 : decode cX5_plan 15 = .ok (.iload 4, 2) := by decide +kernel
theorem dX5_plan_17 : decode cX5_plan 17 = .ok (.iconst 0, 1) := by decide +kernel
theorem dX5_plan_18 : decode cX5_plan 18 = .ok (.iconst 5, 1) := by decide +kernel
theorem dX5_plan_19 : decode cX5_plan 19 = .ok (.invokestatic 68, 3) := by decide +kernel
theorem dX5_plan_22 : decode cX5_plan 22 = .ok (.ifCond .ne 5, 3) := by decide +kernel
theorem dX5_plan_25 : decode cX5_plan 25 = .ok (.iconst (-1), 1) := by decide +kernel
theorem dX5_plan_26 : decode cX5_plan 26 = .ok (.ireturn, 1) := by decide +kernel
theorem dX5_plan_27 : decode cX5_plan 27 = .ok (.iconst 0, 1) := by decide +kernel
theorem dX5_plan_28 : decode cX5_plan 28 = .ok (.istore 5, 2) := by decide +kernel
theorem dX5_plan_30 : decode cX5_plan 30 = .ok (.iload_n 2, 1) := by decide +kernel
theorem dX5_plan_31 : decode cX5_plan 31 = .ok (.istore 6, 2) := by decide +kernel
theorem dX5_plan_33 : decode cX5_plan 33 = .ok (.iload 6, 2) := by decide +kernel
theorem dX5_plan_35 : decode cX5_plan 35 = .ok (.iload_n 3, 1) := by decide +kernel
theorem dX5_plan_36 : decode cX5_plan 36 = .ok (.if_icmp .gt 31, 3) := by decide +kernel
theorem dX5_plan_39 : decode cX5_plan 39 = .ok (.iload 5, 2) := by decide +kernel
theorem dX5_plan_41 : decode cX5_plan 41 = .ok (.aload_n 0, 1) := by decide +kernel
theorem dX5_plan_42 : decode cX5_plan 42 = .ok (.iload_n 1, 1) := by decide +kernel
theorem dX5_plan_43 : decode cX5_plan 43 = .ok (.iload 6, 2) := by decide +kernel
theorem dX5_plan_45 : decode cX5_plan 45 = .ok (.invokevirtual 113, 3) := by decide +kernel
theorem dX5_plan_48 : decode cX5_plan 48 = .ok (.iload 4, 2) := by decide +kernel
theorem dX5_plan_50 : decode cX5_plan 50 = .ok (.if_icmp .eq 7, 3) := by decide +kernel
theorem dX5_plan_53 : decode cX5_plan 53 = .ok (.iconst 1, 1) := by decide +kernel
theorem dX5_plan_54 : decode cX5_plan 54 = .ok (.goto 4, 3) := by decide +kernel
theorem dX5_plan_57 : decode cX5_plan 57 = .ok (.iconst 0, 1) := by decide +kernel
theorem dX5_plan_58 : decode cX5_plan 58 = .ok (.iadd, 1) := by decide +kernel
theorem dX5_plan_59 : decode cX5_plan 59 = .ok (.istore 5, 2) := by decide +kernel
theorem dX5_plan_61 : decode cX5_plan 61 = .ok (.iinc 6 1, 3) := by decide +kernel
theorem dX5_plan_64 : decode cX5_plan 64 = .ok (.goto (-31), 3) := by decide +kernel
theorem dX5_plan_67 : decode cX5_plan 67 = .ok (.iload 5, 2) := by decide +kernel
theorem dX5_plan_69 : decode cX5_plan 69 = .ok (.ifCond .le 11, 3) := by decide +kernel
theorem dX5_plan_72 : decode cX5_plan 72 = .ok (.aload_n 0, 1) := by decide +kernel
theorem dX5_plan_73 : decode cX5_plan 73 = .ok (.aload_n 0, 1) := by decide +kernel
theorem dX5_plan_74 : decode cX5_plan 74 = .ok (.getfield 7, 3) := by decide +kernel
theorem dX5_plan_77 : decode cX5_plan 77 = .ok (.invokevirtual 89, 3) := by decide +kernel
theorem dX5_plan_80 : decode cX5_plan 80 = .ok (.iload_n 2, 1) := by decide +kernel
theorem dX5_plan_81 : decode cX5_plan 81 = .ok (.istore 6, 2) := by decide +kernel
theorem dX5_plan_83 : decode cX5_plan 83 = .ok (.iload 6, 2) := by decide +kernel
theorem dX5_plan_85 : decode cX5_plan 85 = .ok (.iload_n 3, 1) := by decide +kernel
theorem dX5_plan_86 : decode cX5_plan 86 = .ok (.if_icmp .gt 26, 3) := by decide +kernel
theorem dX5_plan_89 : decode cX5_plan 89 = .ok (.aload_n 0, 1) := by decide +kernel
theorem dX5_plan_90 : decode cX5_plan 90 = .ok (.getfield 7, 3) := by decide +kernel
theorem dX5_plan_93 : decode cX5_plan 93 = .ok (.bipush 40, 2) := by decide +kernel
theorem dX5_plan_95 : decode cX5_plan 95 = .ok (.bipush 70, 2) := by decide +kernel
theorem dX5_plan_97 : decode cX5_plan 97 = .ok (.iload_n 1, 1) := by decide +kernel
theorem dX5_plan_98 : decode cX5_plan 98 = .ok (.imul, 1) := by decide +kernel
theorem dX5_plan_99 : decode cX5_plan 99 = .ok (.iadd, 1) := by decide +kernel
theorem dX5_plan_100 : decode cX5_plan 100 = .ok (.iload 6, 2) := by decide +kernel
theorem dX5_plan_102 : decode cX5_plan 102 = .ok (.iadd, 1) := by decide +kernel
theorem dX5_plan_103 : decode cX5_plan 103 = .ok (.iload 4, 2) := by decide +kernel
theorem dX5_plan_105 : decode cX5_plan 105 = .ok (.iastore, 1) := by decide +kernel
theorem dX5_plan_106 : decode cX5_plan 106 = .ok (.iinc 6 1, 3) := by decide +kernel
theorem dX5_plan_109 : decode cX5_plan 109 = .ok (.goto (-26), 3) := by decide +kernel
theorem dX5_plan_112 : decode cX5_plan 112 = .ok (.iload 5, 2) := by decide +kernel
theorem dX5_plan_114 : decode cX5_plan 114 = .ok (.ireturn, 1) := by decide +kernel
theorem dX5_undo_0 : decode cX5_undo 0 = .ok (.aload_n 0, 1) := by decide +kernel
theorem dX5_undo_1 : decode cX5_undo 1 = .ok (.iconst 0, 1) := by decide +kernel
theorem dX5_undo_2 : decode cX5_undo 2 = .ok (.putfield 61, 3) := by decide +kernel
theorem dX5_undo_5 : decode cX5_undo 5 = .ok (.aload_n 0, 1) := by decide +kernel
theorem dX5_undo_6 : decode cX5_undo 6 = .ok (.getfield 83, 3) := by decide +kernel
theorem dX5_undo_9 : decode cX5_undo 9 = .ok (.ifCond .ne 5, 3) := by decide +kernel
theorem dX5_undo_12 : decode cX5_undo 12 = .ok (.iconst (-1), 1) := by decide +kernel
theorem dX5_undo_13 : decode cX5_undo 13 = .ok (.ireturn, 1) := by decide +kernel
theorem dX5_undo_14 : decode cX5_undo 14 = .ok (.aload_n 0, 1) := by decide +kernel
theorem dX5_undo_15 : decode cX5_undo 15 = .ok (.dup, 1) := by decide +kernel
theorem dX5_undo_16 : decode cX5_undo 16 = .ok (.getfield 83, 3) := by decide +kernel
theorem dX5_undo_19 : decode cX5_undo 19 = .ok (.iconst 1, 1) := by decide +kernel
theorem dX5_undo_20 : decode cX5_undo 20 = .ok (.isub, 1) := by decide +kernel
theorem dX5_undo_21 : decode cX5_undo 21 = .ok (.putfield 83, 3) := by decide +kernel
theorem dX5_undo_24 : decode cX5_undo 24 = .ok (.iconst 0, 1) := by decide +kernel
theorem dX5_undo_25 : decode cX5_undo 25 = .ok (.istore_n 1, 1) := by decide +kernel
theorem dX5_undo_26 : decode cX5_undo 26 = .ok (.iload_n 1, 1) := by decide +kernel
theorem dX5_undo_27 : decode cX5_undo 27 = .ok (.sipush 460, 3) := by decide +kernel
theorem dX5_undo_30 : decode cX5_undo 30 = .ok (.if_icmp .ge 30, 3) := by decide +kernel
theorem dX5_undo_33 : decode cX5_undo 33 = .ok (.aload_n 0, 1) := by decide +kernel
theorem dX5_undo_34 : decode cX5_undo 34 = .ok (.getfield 7, 3) := by decide +kernel
theorem dX5_undo_37 : decode cX5_undo 37 = .ok (.iload_n 1, 1) := by decide +kernel
theorem dX5_undo_38 : decode cX5_undo 38 = .ok (.aload_n 0, 1) := by decide +kernel
theorem dX5_undo_39 : decode cX5_undo 39 = .ok (.getfield 13, 3) := by decide +kernel
theorem dX5_undo_42 : decode cX5_undo 42 = .ok (.sipush 460, 3) := by decide +kernel
theorem dX5_undo_45 : decode cX5_undo 45 = .ok (.aload_n 0, 1) := by decide +kernel
theorem dX5_undo_46 : decode cX5_undo 46 = .ok (.getfield 83, 3) := by decide +kernel
theorem dX5_undo_49 : decode cX5_undo 49 = .ok (.imul, 1) := by decide +kernel
theorem dX5_undo_50 : decode cX5_undo 50 = .ok (.iload_n 1, 1) := by decide +kernel
theorem dX5_undo_51 : decode cX5_undo 51 = .ok (.iadd, 1) := by decide +kernel
theorem dX5_undo_52 : decode cX5_undo 52 = .ok (.iaload, 1) := by decide +kernel
theorem dX5_undo_53 : decode cX5_undo 53 = .ok (.iastore, 1) := by decide +kernel
theorem dX5_undo_54 : decode cX5_undo 54 = .ok (.iinc 1 1, 3) := by decide +kernel
theorem dX5_undo_57 : decode cX5_undo 57 = .ok (.goto (-31), 3) := by decide +kernel
theorem dX5_undo_60 : decode cX5_undo 60 = .ok (.aload_n 0, 1) := by decide +kernel
theorem dX5_undo_61 : decode cX5_undo 61 = .ok (.getfield 83, 3) := by decide +kernel
theorem dX5_undo_64 : decode cX5_undo 64 = .ok (.ireturn, 1) := by decide +kernel
theorem dX5_count_0 : decode cX5_count 0 = .ok (.aload_n 0, 1) := by decide +kernel
theorem dX5_count_1 : decode cX5_count 1 = .ok (.iconst 0, 1) := by decide +kernel
theorem dX5_count_2 : decode cX5_count 2 = .ok (.putfield 61, 3) := by decide +kernel
theorem dX5_count_5 : decode cX5_count 5 = .ok (.iload_n 1, 1) := by decide +kernel
theorem dX5_count_6 : decode cX5_count 6 = .ok (.bipush 10, 2) := by decide +kernel
theorem dX5_count_8 : decode cX5_count 8 = .ok (.bipush 15, 2) := by decide +kernel
theorem dX5_count_10 : decode cX5_count 10 = .ok (.invokestatic 68, 3) := by decide +kernel
theorem dX5_count_13 : decode cX5_count 13 = .ok (.ifCond .eq 15, 3) := by decide +kernel
theorem dX5_count_16 : decode cX5_count 16 = .ok (.aload_n 0, 1) := by decide +kernel
theorem dX5_count_17 : decode cX5_count 17 = .ok (.getfield 7, 3) := by decide +kernel
theorem dX5_count_20 : decode cX5_count 20 = .ok (.iconst 0, 1) := by decide +kernel
theorem dX5_count_21 : decode cX5_count 21 = .ok (.iload_n 1, 1) := by decide +kernel
theorem dX5_count_22 : decode cX5_count 22 = .ok (.iadd, 1) := by decide +kernel
theorem dX5_count_23 : decode cX5_count 23 = .ok (.bipush 10, 2) := by decide +kernel
theorem dX5_count_25 : decode cX5_count 25 = .ok (.isub, 1) := by decide +kernel
theorem dX5_count_26 : decode cX5_count 26 = .ok (.iaload, 1) := by decide +kernel
theorem dX5_count_27 : decode cX5_count 27 = .ok (.ireturn, 1) := by decide +kernel
theorem dX5_count_28 : decode cX5_count 28 = .ok (.iload_n 1, 1) := by decide +kernel
theorem dX5_count_29 : decode cX5_count 29 = .ok (.bipush 20, 2) := by decide +kernel
theorem dX5_count_31 : decode cX5_count 31 = .ok (.bipush 27, 2) := by decide +kernel
theorem dX5_count_33 : decode cX5_count 33 = .ok (.invokestatic 68, 3) := by decide +kernel
theorem dX5_count_36 : decode cX5_count 36 = .ok (.ifCond .eq 12, 3) := by decide +kernel
theorem dX5_count_39 : decode cX5_count 39 = .ok (.aload_n 0, 1) := by decide +kernel
theorem dX5_count_40 : decode cX5_count 40 = .ok (.iload_n 1, 1) := by decide +kernel
theorem dX5_count_41 : decode cX5_count 41 = .ok (.bipush 20, 2) := by decide +kernel
theorem dX5_count_43 : decode cX5_count 43 = .ok (.isub, 1) := by decide +kernel
theorem dX5_count_44 : decode cX5_count 44 = .ok (.invokevirtual 99, 3) := by decide +kernel
theorem dX5_count_47 : decode cX5_count 47 = .ok (.ireturn, 1) := by decide +kernel
theorem dX5_count_48 : decode cX5_count 48 = .ok (.iload_n 1, 1) := by decide +kernel
theorem dX5_count_49 : decode cX5_count 49 = .ok (.ifCond .ne 10, 3) := by decide +kernel
theorem dX5_count_52 : decode cX5_count 52 = .ok (.aload_n 0, 1) := by decide +kernel
theorem dX5_count_53 : decode cX5_count 53 = .ok (.invokevirtual 64, 3) := by decide +kernel
theorem dX5_count_56 : decode cX5_count 56 = .ok (.goto 40, 3) := by decide +kernel
theorem dX5_count_59 : decode cX5_count 59 = .ok (.iload_n 1, 1) := by decide +kernel
theorem dX5_count_60 : decode cX5_count 60 = .ok (.iconst 1, 1) := by decide +kernel
theorem dX5_count_61 : decode cX5_count 61 = .ok (.if_icmp .ne 10, 3) := by decide +kernel
theorem dX5_count_64 : decode cX5_count 64 = .ok (.aload_n 0, 1) := by decide +kernel
theorem dX5_count_65 : decode cX5_count 65 = .ok (.invokevirtual 86, 3) := by decide +kernel
theorem dX5_count_68 : decode cX5_count 68 = .ok (.goto 28, 3) := by decide +kernel
theorem dX5_count_71 : decode cX5_count 71 = .ok (.iload_n 1, 1) := by decide +kernel
theorem dX5_count_72 : decode cX5_count 72 = .ok (.iconst 2, 1) := by decide +kernel
theorem dX5_count_73 : decode cX5_count 73 = .ok (.if_icmp .ne 10, 3) := by decide +kernel
theorem dX5_count_76 : decode cX5_count 76 = .ok (.aload_n 0, 1) := by decide +kernel
theorem dX5_count_77 : decode cX5_count 77 = .ok (.getfield 117, 3) := by decide +kernel
theorem dX5_count_80 : decode cX5_count 80 = .ok (.goto 16, 3) := by decide +kernel
theorem dX5_count_83 : decode cX5_count 83 = .ok (.iload_n 1, 1) := by decide +kernel
theorem dX5_count_84 : decode cX5_count 84 = .ok (.iconst 3, 1) := by decide +kernel
theorem dX5_count_85 : decode cX5_count 85 = .ok (.if_icmp .ne 10, 3) := by decide +kernel
theorem dX5_count_88 : decode cX5_count 88 = .ok (.aload_n 0, 1) := by decide +kernel
theorem dX5_count_89 : decode cX5_count 89 = .ok (.getfield 83, 3) := by decide +kernel
theorem dX5_count_92 : decode cX5_count 92 = .ok (.goto 4, 3) := by decide +kernel
theorem dX5_count_95 : decode cX5_count 95 = .ok (.iconst (-1), 1) := by decide +kernel
theorem dX5_count_96 : decode cX5_count 96 = .ok (.ireturn, 1) := by decide +kernel
theorem dX5_camped_0 : decode cX5_camped 0 = .ok (.aload_n 0, 1) := by decide +kernel
theorem dX5_camped_1 : decode cX5_camped 1 = .ok (.iload_n 1, 1) := by decide +kernel
theorem dX5_camped_2 : decode cX5_camped 2 = .ok (.iconst 0, 1) := by decide +kernel
theorem dX5_camped_3 : decode cX5_camped 3 = .ok (.aload_n 0, 1) := by decide +kernel
theorem dX5_camped_4 : decode cX5_camped 4 = .ok (.invokevirtual 86, 3) := by decide +kernel
theorem dX5_camped_7 : decode cX5_camped 7 = .ok (.iconst 1, 1) := by decide +kernel
theorem dX5_camped_8 : decode cX5_camped 8 = .ok (.isub, 1) := by decide +kernel
theorem dX5_camped_9 : decode cX5_camped 9 = .ok (.invokestatic 68, 3) := by decide +kernel
theorem dX5_camped_12 : decode cX5_camped 12 = .ok (.ifCond .eq 7, 3) := by decide +kernel
theorem dX5_camped_15 : decode cX5_camped 15 = .ok (.iconst 0, 1) := by decide +kernel
theorem dX5_camped_16 : decode cX5_camped 16 = .ok (.goto 4, 3) := by decide +kernel
theorem dX5_camped_19 : decode cX5_camped 19 = .ok (.iconst 1, 1) := by decide +kernel
theorem dX5_camped_20 : decode cX5_camped 20 = .ok (.putfield 61, 3) := by decide +kernel
theorem dX5_camped_23 : decode cX5_camped 23 = .ok (.aload_n 0, 1) := by decide +kernel
theorem dX5_camped_24 : decode cX5_camped 24 = .ok (.getfield 61, 3) := by decide +kernel
theorem dX5_camped_27 : decode cX5_camped 27 = .ok (.iconst 1, 1) := by decide +kernel
theorem dX5_camped_28 : decode cX5_camped 28 = .ok (.if_icmp .ne 7, 3) := by decide +kernel
theorem dX5_camped_31 : decode cX5_camped 31 = .ok (.iconst 0, 1) := by decide +kernel
theorem dX5_camped_32 : decode cX5_camped 32 = .ok (.goto 24, 3) := by decide +kernel
theorem dX5_camped_35 : decode cX5_camped 35 = .ok (.aload_n 0, 1) := by decide +kernel
theorem dX5_camped_36 : decode cX5_camped 36 = .ok (.getfield 7, 3) := by decide +kernel
theorem dX5_camped_39 : decode cX5_camped 39 = .ok (.bipush 15, 2) := by decide +kernel
theorem dX5_camped_41 : decode cX5_camped 41 = .ok (.iconst 2, 1) := by decide +kernel
theorem dX5_camped_42 : decode cX5_camped 42 = .ok (.iload_n 1, 1) := by decide +kernel
theorem dX5_camped_43 : decode cX5_camped 43 = .ok (.imul, 1) := by decide +kernel
theorem dX5_camped_44 : decode cX5_camped 44 = .ok (.iadd, 1) := by decide +kernel
theorem dX5_camped_45 : decode cX5_camped 45 = .ok (.iload_n 2, 1) := by decide +kernel
theorem dX5_camped_46 : decode cX5_camped 46 = .ok (.ifCond .eq 7, 3) := by decide +kernel
theorem dX5_camped_49 : decode cX5_camped 49 = .ok (.iconst 1, 1) := by decide +kernel
theorem dX5_camped_50 : decode cX5_camped 50 = .ok (.goto 4, 3) := by decide +kernel
theorem dX5_camped_53 : decode cX5_camped 53 = .ok (.iconst 0, 1) := by decide +kernel
theorem dX5_camped_54 : decode cX5_camped 54 = .ok (.iadd, 1) := by decide +kernel
theorem dX5_camped_55 : decode cX5_camped 55 = .ok (.iaload, 1) := by decide +kernel
theorem dX5_camped_56 : decode cX5_camped 56 = .ok (.ireturn, 1) := by decide +kernel
theorem dX5_put_0 : decode cX5_put 0 = .ok (.bipush 24, 2) := by decide +kernel
theorem dX5_put_2 : decode cX5_put 2 = .ok (.istore_n 2, 1) := by decide +kernel
theorem dX5_put_3 : decode cX5_put 3 = .ok (.iload_n 2, 1) := by decide +kernel
theorem dX5_put_4 : decode cX5_put 4 = .ok (.ifCond .lt 32, 3) := by decide +kernel
theorem dX5_put_7 : decode cX5_put 7 = .ok (.aload_n 0, 1) := by decide +kernel
theorem dX5_put_8 : decode cX5_put 8 = .ok (.getfield 19, 3) := by decide +kernel
theorem dX5_put_11 : decode cX5_put 11 = .ok (.aload_n 0, 1) := by decide +kernel
theorem dX5_put_12 : decode cX5_put 12 = .ok (.getfield 117, 3) := by decide +kernel
theorem dX5_put_15 : decode cX5_put 15 = .ok (.iload_n 1, 1) := by decide +kernel
theorem dX5_put_16 : decode cX5_put 16 = .ok (.iload_n 2, 1) := by decide +kernel
theorem dX5_put_17 : decode cX5_put 17 = .ok (.ishr, 1) := by decide +kernel
theorem dX5_put_18 : decode cX5_put 18 = .ok (.i2b, 1) := by decide +kernel
theorem dX5_put_19 : decode cX5_put 19 = .ok (.bastore, 1) := by decide +kernel
theorem dX5_put_20 : decode cX5_put 20 = .ok (.aload_n 0, 1) := by decide +kernel
theorem dX5_put_21 : decode cX5_put 21 = .ok (.dup, 1) := by decide +kernel
theorem dX5_put_22 : decode cX5_put 22 = .ok (.getfield 117, 3) := by decide +kernel
theorem dX5_put_25 : decode cX5_put 25 = .ok (.iconst 1, 1) := by decide +kernel
theorem dX5_put_26 : decode cX5_put 26 = .ok (.iadd, 1) := by decide +kernel
theorem dX5_put_27 : decode cX5_put 27 = .ok (.putfield 117, 3) := by decide +kernel
theorem dX5_put_30 : decode cX5_put 30 = .ok (.iinc 2 (-8), 3) := by decide +kernel
theorem dX5_put_33 : decode cX5_put 33 = .ok (.goto (-30), 3) := by decide +kernel
theorem dX5_put_36 : decode cX5_put 36 = .ok (.return_, 1) := by decide +kernel
theorem dX5_feed_0 : decode cX5_feed 0 = .ok (.aload_n 0, 1) := by decide +kernel
theorem dX5_feed_1 : decode cX5_feed 1 = .ok (.iconst 0, 1) := by decide +kernel
theorem dX5_feed_2 : decode cX5_feed 2 = .ok (.putfield 61, 3) := by decide +kernel
theorem dX5_feed_5 : decode cX5_feed 5 = .ok (.aload_n 0, 1) := by decide +kernel
theorem dX5_feed_6 : decode cX5_feed 6 = .ok (.getfield 117, 3) := by decide +kernel
theorem dX5_feed_9 : decode cX5_feed 9 = .ok (.bipush 20, 2) := by decide +kernel
theorem dX5_feed_11 : decode cX5_feed 11 = .ok (.iadd, 1) := by decide +kernel
theorem dX5_feed_12 : decode cX5_feed 12 = .ok (.sipush 400, 3) := by decide +kernel
theorem dX5_feed_15 : decode cX5_feed 15 = .ok (.if_icmp .le 5, 3) := by decide +kernel
theorem dX5_feed_18 : decode cX5_feed 18 = .ok (.iconst (-1), 1) := by decide +kernel
theorem dX5_feed_19 : decode cX5_feed 19 = .ok (.ireturn, 1) := by decide +kernel
theorem dX5_feed_20 : decode cX5_feed 20 = .ok (.aload_n 0, 1) := by decide +kernel
theorem dX5_feed_21 : decode cX5_feed 21 = .ok (.iload_n 1, 1) := by decide +kernel
theorem dX5_feed_22 : decode cX5_feed 22 = .ok (.invokevirtual 120, 3) := by decide +kernel
theorem dX5_feed_25 : decode cX5_feed 25 = .ok (.aload_n 0, 1) := by decide +kernel
theorem dX5_feed_26 : decode cX5_feed 26 = .ok (.iload_n 2, 1) := by decide +kernel
theorem dX5_feed_27 : decode cX5_feed 27 = .ok (.invokevirtual 120, 3) := by decide +kernel
theorem dX5_feed_30 : decode cX5_feed 30 = .ok (.aload_n 0, 1) := by decide +kernel
theorem dX5_feed_31 : decode cX5_feed 31 = .ok (.iload_n 3, 1) := by decide +kernel
theorem dX5_feed_32 : decode cX5_feed 32 = .ok (.invokevirtual 120, 3) := by decide +kernel
theorem dX5_feed_35 : decode cX5_feed 35 = .ok (.aload_n 0, 1) := by decide +kernel
theorem dX5_feed_36 : decode cX5_feed 36 = .ok (.iload 4, 2) := by decide +kernel
theorem dX5_feed_38 : decode cX5_feed 38 = .ok (.invokevirtual 120, 3) := by decide +kernel
theorem dX5_feed_41 : decode cX5_feed 41 = .ok (.aload_n 0, 1) := by decide +kernel
theorem dX5_feed_42 : decode cX5_feed 42 = .ok (.iload 5, 2) := by decide +kernel
theorem dX5_feed_44 : decode cX5_feed 44 = .ok (.invokevirtual 120, 3) := by decide +kernel
theorem dX5_feed_47 : decode cX5_feed 47 = .ok (.aload_n 0, 1) := by decide +kernel
theorem dX5_feed_48 : decode cX5_feed 48 = .ok (.getfield 117, 3) := by decide +kernel
theorem dX5_feed_51 : decode cX5_feed 51 = .ok (.ireturn, 1) := by decide +kernel
theorem dX5_end_0 : decode cX5_end 0 = .ok (.aload_n 0, 1) := by decide +kernel
theorem dX5_end_1 : decode cX5_end 1 = .ok (.iconst 0, 1) := by decide +kernel
theorem dX5_end_2 : decode cX5_end 2 = .ok (.putfield 61, 3) := by decide +kernel
theorem dX5_end_5 : decode cX5_end 5 = .ok (.iload_n 1, 1) := by decide +kernel
theorem dX5_end_6 : decode cX5_end 6 = .ok (.iconst 0, 1) := by decide +kernel
theorem dX5_end_7 : decode cX5_end 7 = .ok (.aload_n 0, 1) := by decide +kernel
theorem dX5_end_8 : decode cX5_end 8 = .ok (.getfield 117, 3) := by decide +kernel
theorem dX5_end_11 : decode cX5_end 11 = .ok (.invokestatic 68, 3) := by decide +kernel
theorem dX5_end_14 : decode cX5_end 14 = .ok (.ifCond .ne 5, 3) := by decide +kernel
theorem dX5_end_17 : decode cX5_end 17 = .ok (.iconst 0, 1) := by decide +kernel
theorem dX5_end_18 : decode cX5_end 18 = .ok (.ireturn, 1) := by decide +kernel
theorem dX5_end_19 : decode cX5_end 19 = .ok (.aload_n 0, 1) := by decide +kernel
theorem dX5_end_20 : decode cX5_end 20 = .ok (.iload_n 1, 1) := by decide +kernel
theorem dX5_end_21 : decode cX5_end 21 = .ok (.putfield 117, 3) := by decide +kernel
theorem dX5_end_24 : decode cX5_end 24 = .ok (.iconst 1, 1) := by decide +kernel
theorem dX5_end_25 : decode cX5_end 25 = .ok (.ireturn, 1) := by decide +kernel
theorem dX5_fault_0 : decode cX5_fault 0 = .ok (.aload_n 0, 1) := by decide +kernel
theorem dX5_fault_1 : decode cX5_fault 1 = .ok (.iconst 0, 1) := by decide +kernel
theorem dX5_fault_2 : decode cX5_fault 2 = .ok (.putfield 61, 3) := by decide +kernel
theorem dX5_fault_5 : decode cX5_fault 5 = .ok (.aload_n 0, 1) := by decide +kernel
theorem dX5_fault_6 : decode cX5_fault 6 = .ok (.getfield 129, 3) := by decide +kernel
theorem dX5_fault_9 : decode cX5_fault 9 = .ok (.ireturn, 1) := by decide +kernel

section MT
variable {G : mG} {d : Nat} {σ : mS}
theorem l_keeps1 {r : Nat} {Q : Option Value → mS → Prop} (hk : mF G mX5_keeps d 40 [some (.ref 116), some (.ref r), some (.int (nI 3220))] [] (upR σ 118 (va_cpy (σ 118) (σ 118) 460 0 3220)) Q) :
    ∀ e, e ≤ 3220 → mF G mX5_keeps d 11 [some (.ref 116), some (.ref r), some (.int (nI e))] [] (upR σ 118 (va_cpy (σ 118) (σ 118) 460 0 e)) Q := by
  refine loopUp 3220 (fun e he ih => ?_)
  refine F_iload_n dX5_keeps_11 rfl ?_
  refine F_sipush (v := nI 3220) dX5_keeps_12 rfl ?_
  refine F_icmp_geN (tgt := 40) dX5_keeps_15 rfl (by omega) (by omega) (fun c15 => ?_) (fun c15 => ?_)
  · have : e = 3220 := by omega
    subst this
    exact hk
  · refine F_aload_n dX5_keeps_18 rfl ?_
    refine F_getr dX5_keeps_19 rfl rfl (by first | assumption | rfl) rfl ?_
    refine F_iload_n dX5_keeps_22 rfl ?_
    refine F_aload_n dX5_keeps_23 rfl ?_
    refine F_getr dX5_keeps_24 rfl rfl (by first | assumption | rfl) rfl ?_
    refine F_sipush (v := nI 460) dX5_keeps_27 rfl ?_
    refine F_iload_n dX5_keeps_30 rfl ?_
    refine F_iaddN dX5_keeps_31 ?_
    refine F_ialdE (v := σ 118 (460 + e)) dX5_keeps_32 (by first | assumption | rfl) (by decide) (by omega) (by rw [upR_s]; simp only [va_cpy]; rw [if_neg (by omega)]) ?_
    refine F_iast dX5_keeps_33 (by first | assumption | rfl) (by decide) (by omega) ?_
    refine F_iincN dX5_keeps_34 rfl ?_
    refine F_goto (tgt := 11) dX5_keeps_37 rfl ?_
    refine F_sg (up_cpy _ _ _ _ (Nat.zero_add e).symm rfl) ?_
    exact ih (by omega)

theorem l_keeps2 {r m : Nat} {R : Nat → Int32} (hr : sh r = some (.inr (.inl (0, 460)))) (hr8 : r ≠ 118) (hR : σ r = R) (hm : σ 116 4 = nI m) (hm7 : m ≤ 7) {Q : Option Value → mS → Prop} (hk : mF G mX5_keeps d 83 [some (.ref 116), some (.ref r), some (.int (nI 460))] [] (upR σ 118 (va_cpy R (σ 118) 0 (460 * m) 460)) Q) :
    ∀ e, e ≤ 460 → mF G mX5_keeps d 52 [some (.ref 116), some (.ref r), some (.int (nI e))] [] (upR σ 118 (va_cpy R (σ 118) 0 (460 * m) e)) Q := by
  refine loopUp 460 (fun e he ih => ?_)
  refine F_iload_n dX5_keeps_52 rfl ?_
  refine F_sipush (v := nI 460) dX5_keeps_53 rfl ?_
  refine F_icmp_geN (tgt := 83) dX5_keeps_56 rfl (by omega) (by omega) (fun c56 => ?_) (fun c56 => ?_)
  · have : e = 460 := by omega
    subst this
    exact hk
  · refine F_aload_n dX5_keeps_59 rfl ?_
    refine F_getr dX5_keeps_60 rfl rfl (by first | assumption | rfl) rfl ?_
    refine F_sipush (v := nI 460) dX5_keeps_63 rfl ?_
    refine F_aload_n dX5_keeps_66 rfl ?_
    refine F_getE (v := nI m) dX5_keeps_67 rfl rfl (by first | assumption | rfl) rfl (by rw [upR_n _ _ (by decide)]; exact hm) ?_
    refine F_imulN dX5_keeps_70 ?_
    refine F_iload_n dX5_keeps_71 rfl ?_
    refine F_iaddN dX5_keeps_72 ?_
    refine F_aload_n dX5_keeps_73 rfl ?_
    refine F_iload_n dX5_keeps_74 rfl ?_
    refine F_ialdE (v := R e) dX5_keeps_75 (by first | assumption | rfl) (by decide) (by omega) (by rw [upR_n _ _ hr8, hR]) ?_
    refine F_iast dX5_keeps_76 (by first | assumption | rfl) (by decide) (by omega) ?_
    refine F_iincN dX5_keeps_77 rfl ?_
    refine F_goto (tgt := 52) dX5_keeps_80 rfl ?_
    refine F_sg (up_cpy _ _ _ _ rfl (by rw [Nat.zero_add])) ?_
    exact ih (by omega)

/-- the row of the past with one more: the eldest of eight goes -/
def keptF (n : Nat) (K R : Nat → Int32) : Nat → Int32 := va_cpy R (if n = 8 then va_cpy K K 460 0 3220 else K) 0 (460 * min n 7) 460
theorem v_keeps {r n : Nat} (hr : sh r = some (.inr (.inl (0, 460)))) (hr8 : r ≠ 118) (hr6 : r ≠ 116) (hn : σ 116 4 = nI n) (hn8 : n ≤ 8) : mV G mX5_keeps d [.ref 116, .ref r] σ none (up (upR σ 118 (keptF n (σ 118) (σ r))) 116 4 (nI (min n 7 + 1))) := by
  refine mV_of fun Q hQ => ?_
  refine F_aload_n dX5_keeps_0 rfl ?_
  refine F_getE (v := nI n) dX5_keeps_1 rfl rfl (by first | assumption | rfl) rfl hn ?_
  refine F_bipush (v := nI 8) dX5_keeps_4 rfl ?_
  refine F_icmp_neN (tgt := 50) dX5_keeps_6 rfl (by omega) (by omega) (fun c6 => ?_) (fun c6 => ?_)
  · refine F_iconst (v := nI 0) dX5_keeps_50 rfl ?_
    refine F_istore_n dX5_keeps_51 (Nat.le_of_ble_eq_true rfl) ?_
    have hm7 : min n 7 = n := by omega
    refine F_sg (cpy_0 _ 118 (σ r) 0 (460 * n)).symm ?_
    refine l_keeps2 hr hr8 rfl hn (by omega) ?_ 0 (by omega)
    refine F_aload_n dX5_keeps_83 rfl ?_
    refine F_dup dX5_keeps_84 rfl ?_
    refine F_getE (v := nI n) dX5_keeps_85 rfl rfl (by first | assumption | rfl) rfl (by rw [upR_n _ _ (by decide)]; exact hn) ?_
    refine F_iconst (v := nI 1) dX5_keeps_88 rfl ?_
    refine F_iaddN dX5_keeps_89 ?_
    refine F_put dX5_keeps_90 rfl rfl (by first | assumption | rfl) rfl rfl rfl rfl ?_
    refine F_vret dX5_keeps_93 rfl ?_
    refine Qn hQ ?_
    simp only [keptF, hm7]
    rw [if_neg c6]
  · refine F_iconst (v := nI 0) dX5_keeps_9 rfl ?_
    refine F_istore_n dX5_keeps_10 (Nat.le_of_ble_eq_true rfl) ?_
    have hn8' : n = 8 := by omega
    subst hn8'
    refine F_sg (cpy_0 _ 118 (σ 118) 460 0).symm ?_
    refine l_keeps1 ?_ 0 (by omega)
    refine F_aload_n dX5_keeps_40 rfl ?_
    refine F_dup dX5_keeps_41 rfl ?_
    refine F_getE (v := nI 8) dX5_keeps_42 rfl rfl (by first | assumption | rfl) rfl (by rw [upR_n _ _ (by decide)]; exact hn) ?_
    refine F_iconst (v := nI 1) dX5_keeps_45 rfl ?_
    refine F_isubN dX5_keeps_46 (by omega) ?_
    refine F_put dX5_keeps_47 rfl rfl (by first | assumption | rfl) rfl rfl rfl rfl ?_
    refine F_iconst (v := nI 0) dX5_keeps_50 rfl ?_
    refine F_istore_n dX5_keeps_51 (Nat.le_of_ble_eq_true rfl) ?_
    refine F_sg (cpy_0 _ 118 (σ r) 0 (460 * 7)).symm ?_
    refine l_keeps2 (m := 7) hr hr8 (by rw [up_n _ _ _ hr6, upR_n _ _ hr8]) (up_s _ _ _ _) (by omega) ?_ 0 (by omega)
    refine F_aload_n dX5_keeps_83 rfl ?_
    refine F_dup dX5_keeps_84 rfl ?_
    refine F_getE (v := nI 7) dX5_keeps_85 rfl rfl (by first | assumption | rfl) rfl (by rw [upR_n _ _ (by decide)]; exact up_s _ _ _ _) ?_
    refine F_iconst (v := nI 1) dX5_keeps_88 rfl ?_
    refine F_iaddN dX5_keeps_89 ?_
    refine F_put dX5_keeps_90 rfl rfl (by first | assumption | rfl) rfl rfl rfl rfl ?_
    refine F_vret dX5_keeps_93 rfl ?_
    refine Qn hQ ?_
    rw [up_n _ _ _ (show (118 : Nat) ≠ 116 by decide), upR_s]
    simp only [keptF, if_true]
    funext b
    by_cases h1 : b = 116
    · subst h1
      simp [up, upR]
      funext j
      simp only [upd]
      split <;> rfl
    · by_cases h2 : b = 118
      · subst h2; simp [up, upR]
      · simp [up, upR, h1, h2]

end MT
