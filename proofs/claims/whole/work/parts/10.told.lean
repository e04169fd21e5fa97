/-! ===== Told: its methods ===== -/
theorem dX3_copyFrom_0 : decode cX3_copyFrom 0 = .ok (.aload_n 0, 1) := by decide +kernel
theorem dX3_copyFrom_1 : decode cX3_copyFrom 1 = .ok (.aload_n 1, 1) := by decide +kernel
theorem dX3_copyFrom_2 : decode cX3_copyFrom 2 = .ok (.getfield 33, 3) := by decide +kernel
theorem dX3_copyFrom_5 : decode cX3_copyFrom 5 = .ok (.putfield 33, 3) := by decide +kernel
theorem dX3_copyFrom_8 : decode cX3_copyFrom 8 = .ok (.aload_n 1, 1) := by decide +kernel
theorem dX3_copyFrom_9 : decode cX3_copyFrom 9 = .ok (.getfield 9, 3) := by decide +kernel
theorem dX3_copyFrom_12 : decode cX3_copyFrom 12 = .ok (.iconst 0, 1) := by decide +kernel
theorem dX3_copyFrom_13 : decode cX3_copyFrom 13 = .ok (.aload_n 0, 1) := by decide +kernel
theorem dX3_copyFrom_14 : decode cX3_copyFrom 14 = .ok (.getfield 9, 3) := by decide +kernel
theorem dX3_copyFrom_17 : decode cX3_copyFrom 17 = .ok (.iconst 0, 1) := by decide +kernel
theorem dX3_copyFrom_18 : decode cX3_copyFrom 18 = .ok (.bipush 6, 2) := by decide +kernel
theorem dX3_copyFrom_20 : decode cX3_copyFrom 20 = .ok (.invokestatic 37, 3) := by decide +kernel
theorem dX3_copyFrom_23 : decode cX3_copyFrom 23 = .ok (.aload_n 1, 1) := by decide +kernel
theorem dX3_copyFrom_24 : decode cX3_copyFrom 24 = .ok (.getfield 15, 3) := by decide +kernel
theorem dX3_copyFrom_27 : decode cX3_copyFrom 27 = .ok (.iconst 0, 1) := by decide +kernel
theorem dX3_copyFrom_28 : decode cX3_copyFrom 28 = .ok (.aload_n 0, 1) := by decide +kernel
theorem dX3_copyFrom_29 : decode cX3_copyFrom 29 = .ok (.getfield 15, 3) := by decide +kernel
theorem dX3_copyFrom_32 : decode cX3_copyFrom 32 = .ok (.iconst 0, 1) := by decide +kernel
theorem dX3_copyFrom_33 : decode cX3_copyFrom 33 = .ok (.bipush 6, 2) := by decide +kernel
theorem dX3_copyFrom_35 : decode cX3_copyFrom 35 = .ok (.invokestatic 37, 3) := by decide +kernel
theorem dX3_copyFrom_38 : decode cX3_copyFrom 38 = .ok (.aload_n 1, 1) := by decide +kernel
theorem dX3_copyFrom_39 : decode cX3_copyFrom 39 = .ok (.getfield 18, 3) := by decide +kernel
theorem dX3_copyFrom_42 : decode cX3_copyFrom 42 = .ok (.iconst 0, 1) := by decide +kernel
theorem dX3_copyFrom_43 : decode cX3_copyFrom 43 = .ok (.aload_n 0, 1) := by decide +kernel
theorem dX3_copyFrom_44 : decode cX3_copyFrom 44 = .ok (.getfield 18, 3) := by decide +kernel
theorem dX3_copyFrom_47 : decode cX3_copyFrom 47 = .ok (.iconst 0, 1) := by decide +kernel
theorem dX3_copyFrom_48 : decode cX3_copyFrom 48 = .ok (.sipush 420, 3) := by decide +kernel
theorem dX3_copyFrom_51 : decode cX3_copyFrom 51 = .ok (.invokestatic 37, 3) := by decide +kernel
theorem dX3_copyFrom_54 : decode cX3_copyFrom 54 = .ok (.aload_n 0, 1) := by decide +kernel
theorem dX3_copyFrom_55 : decode cX3_copyFrom 55 = .ok (.aload_n 1, 1) := by decide +kernel
theorem dX3_copyFrom_56 : decode cX3_copyFrom 56 = .ok (.getfield 43, 3) := by decide +kernel
theorem dX3_copyFrom_59 : decode cX3_copyFrom 59 = .ok (.putfield 43, 3) := by decide +kernel
theorem dX3_copyFrom_62 : decode cX3_copyFrom 62 = .ok (.aload_n 1, 1) := by decide +kernel
theorem dX3_copyFrom_63 : decode cX3_copyFrom 63 = .ok (.getfield 21, 3) := by decide +kernel
theorem dX3_copyFrom_66 : decode cX3_copyFrom 66 = .ok (.iconst 0, 1) := by decide +kernel
theorem dX3_copyFrom_67 : decode cX3_copyFrom 67 = .ok (.aload_n 0, 1) := by decide +kernel
theorem dX3_copyFrom_68 : decode cX3_copyFrom 68 = .ok (.getfield 21, 3) := by decide +kernel
theorem dX3_copyFrom_71 : decode cX3_copyFrom 71 = .ok (.iconst 0, 1) := by decide +kernel
theorem dX3_copyFrom_72 : decode cX3_copyFrom 72 = .ok (.iconst 4, 1) := by decide +kernel
theorem dX3_copyFrom_73 : decode cX3_copyFrom 73 = .ok (.invokestatic 37, 3) := by decide +kernel
theorem dX3_copyFrom_76 : decode cX3_copyFrom 76 = .ok (.aload_n 1, 1) := by decide +kernel
theorem dX3_copyFrom_77 : decode cX3_copyFrom 77 = .ok (.getfield 24, 3) := by decide +kernel
theorem dX3_copyFrom_80 : decode cX3_copyFrom 80 = .ok (.iconst 0, 1) := by decide +kernel
theorem dX3_copyFrom_81 : decode cX3_copyFrom 81 = .ok (.aload_n 0, 1) := by decide +kernel
theorem dX3_copyFrom_82 : decode cX3_copyFrom 82 = .ok (.getfield 24, 3) := by decide +kernel
theorem dX3_copyFrom_85 : decode cX3_copyFrom 85 = .ok (.iconst 0, 1) := by decide +kernel
theorem dX3_copyFrom_86 : decode cX3_copyFrom 86 = .ok (.iconst 4, 1) := by decide +kernel
theorem dX3_copyFrom_87 : decode cX3_copyFrom 87 = .ok (.invokestatic 37, 3) := by decide +kernel
theorem dX3_copyFrom_90 : decode cX3_copyFrom 90 = .ok (.aload_n 1, 1) := by decide +kernel
theorem dX3_copyFrom_91 : decode cX3_copyFrom 91 = .ok (.getfield 27, 3) := by decide +kernel
theorem dX3_copyFrom_94 : decode cX3_copyFrom 94 = .ok (.iconst 0, 1) := by decide +kernel
theorem dX3_copyFrom_95 : decode cX3_copyFrom 95 = .ok (.aload_n 0, 1) := by decide +kernel
theorem dX3_copyFrom_96 : decode cX3_copyFrom 96 = .ok (.getfield 27, 3) := by decide +kernel
theorem dX3_copyFrom_99 : decode cX3_copyFrom 99 = .ok (.iconst 0, 1) := by decide +kernel
theorem dX3_copyFrom_100 : decode cX3_copyFrom 100 = .ok (.bipush 6, 2) := by decide +kernel
theorem dX3_copyFrom_102 : decode cX3_copyFrom 102 = .ok (.invokestatic 37, 3) := by decide +kernel
theorem dX3_copyFrom_105 : decode cX3_copyFrom 105 = .ok (.aload_n 1, 1) := by decide +kernel
theorem dX3_copyFrom_106 : decode cX3_copyFrom 106 = .ok (.getfield 30, 3) := by decide +kernel
theorem dX3_copyFrom_109 : decode cX3_copyFrom 109 = .ok (.iconst 0, 1) := by decide +kernel
theorem dX3_copyFrom_110 : decode cX3_copyFrom 110 = .ok (.aload_n 0, 1) := by decide +kernel
theorem dX3_copyFrom_111 : decode cX3_copyFrom 111 = .ok (.getfield 30, 3) := by decide +kernel
theorem dX3_copyFrom_114 : decode cX3_copyFrom 114 = .ok (.iconst 0, 1) := by decide +kernel
theorem dX3_copyFrom_115 : decode cX3_copyFrom 115 = .ok (.bipush 8, 2) := by decide +kernel
theorem dX3_copyFrom_117 : decode cX3_copyFrom 117 = .ok (.invokestatic 37, 3) := by decide +kernel
theorem dX3_copyFrom_120 : decode cX3_copyFrom 120 = .ok (.return_, 1) := by decide +kernel
theorem dX3_hasGroup_0 : decode cX3_hasGroup 0 = .ok (.iload_n 1, 1) := by decide +kernel
theorem dX3_hasGroup_1 : decode cX3_hasGroup 1 = .ok (.ifCond .lt 15, 3) := by decide +kernel
theorem dX3_hasGroup_4 : decode cX3_hasGroup 4 = .ok (.iload_n 1, 1) := by decide +kernel
theorem dX3_hasGroup_5 : decode cX3_hasGroup 5 = .ok (.aload_n 0, 1) := by decide +kernel
theorem dX3_hasGroup_6 : decode cX3_hasGroup 6 = .ok (.getfield 33, 3) := by decide +kernel
theorem dX3_hasGroup_9 : decode cX3_hasGroup 9 = .ok (.if_icmp .ge 7, 3) := by decide +kernel
theorem dX3_hasGroup_12 : decode cX3_hasGroup 12 = .ok (.iconst 1, 1) := by decide +kernel
theorem dX3_hasGroup_13 : decode cX3_hasGroup 13 = .ok (.goto 4, 3) := by decide +kernel
theorem dX3_hasGroup_16 : decode cX3_hasGroup 16 = .ok (.iconst 0, 1) := by decide +kernel
theorem dX3_hasGroup_17 : decode cX3_hasGroup 17 = .ok (.ireturn, 1) := by decide +kernel
theorem dX3_hasCamp_0 : decode cX3_hasCamp 0 = .ok (.iload_n 1, 1) := by decide +kernel
theorem dX3_hasCamp_1 : decode cX3_hasCamp 1 = .ok (.ifCond .lt 15, 3) := by decide +kernel
theorem dX3_hasCamp_4 : decode cX3_hasCamp 4 = .ok (.iload_n 1, 1) := by decide +kernel
theorem dX3_hasCamp_5 : decode cX3_hasCamp 5 = .ok (.aload_n 0, 1) := by decide +kernel
theorem dX3_hasCamp_6 : decode cX3_hasCamp 6 = .ok (.getfield 43, 3) := by decide +kernel
theorem dX3_hasCamp_9 : decode cX3_hasCamp 9 = .ok (.if_icmp .ge 7, 3) := by decide +kernel
theorem dX3_hasCamp_12 : decode cX3_hasCamp 12 = .ok (.iconst 1, 1) := by decide +kernel
theorem dX3_hasCamp_13 : decode cX3_hasCamp 13 = .ok (.goto 4, 3) := by decide +kernel
theorem dX3_hasCamp_16 : decode cX3_hasCamp 16 = .ok (.iconst 0, 1) := by decide +kernel
theorem dX3_hasCamp_17 : decode cX3_hasCamp 17 = .ok (.ireturn, 1) := by decide +kernel
theorem dX3_addGroup_0 : decode cX3_addGroup 0 = .ok (.aload_n 0, 1) := by decide +kernel
theorem dX3_addGroup_1 : decode cX3_addGroup 1 = .ok (.getfield 33, 3) := by decide +kernel
theorem dX3_addGroup_4 : decode cX3_addGroup 4 = .ok (.bipush 6, 2) := by decide +kernel
theorem dX3_addGroup_6 : decode cX3_addGroup 6 = .ok (.if_icmp .ge 33, 3) := by decide +kernel
theorem dX3_addGroup_9 : decode cX3_addGroup 9 = .ok (.aload_n 0, 1) := by decide +kernel
theorem dX3_addGroup_10 : decode cX3_addGroup 10 = .ok (.getfield 9, 3) := by decide +kernel
theorem dX3_addGroup_13 : decode cX3_addGroup 13 = .ok (.aload_n 0, 1) := by decide +kernel
theorem dX3_addGroup_14 : decode cX3_addGroup 14 = .ok (.getfield 33, 3) := by decide +kernel
theorem dX3_addGroup_17 : decode cX3_addGroup 17 = .ok (.iload_n 1, 1) := by decide +kernel
theorem dX3_addGroup_18 : decode cX3_addGroup 18 = .ok (.iastore, 1) := by decide +kernel
theorem dX3_addGroup_19 : decode cX3_addGroup 19 = .ok (.aload_n 0, 1) := by decide +kernel
theorem dX3_addGroup_20 : decode cX3_addGroup 20 = .ok (.getfield 15, 3) := by decide +kernel
theorem dX3_addGroup_23 : decode cX3_addGroup 23 = .ok (.aload_n 0, 1) := by decide +kernel
theorem dX3_addGroup_24 : decode cX3_addGroup 24 = .ok (.getfield 33, 3) := by decide +kernel
theorem dX3_addGroup_27 : decode cX3_addGroup 27 = .ok (.iload_n 2, 1) := by decide +kernel
theorem dX3_addGroup_28 : decode cX3_addGroup 28 = .ok (.iastore, 1) := by decide +kernel
theorem dX3_addGroup_29 : decode cX3_addGroup 29 = .ok (.aload_n 0, 1) := by decide +kernel
theorem dX3_addGroup_30 : decode cX3_addGroup 30 = .ok (.dup, 1) := by decide +kernel
theorem dX3_addGroup_31 : decode cX3_addGroup 31 = .ok (.getfield 33, 3) := by decide +kernel
theorem dX3_addGroup_34 : decode cX3_addGroup 34 = .ok (.iconst 1, 1) := by decide +kernel
theorem dX3_addGroup_35 : decode cX3_addGroup 35 = .ok (.iadd, 1) := by decide +kernel
theorem dX3_addGroup_36 : decode cX3_addGroup 36 = .ok (.putfield 33, 3) := by decide +kernel
theorem dX3_addGroup_39 : decode cX3_addGroup 39 = .ok (.return_, 1) := by decide +kernel
theorem dX3_addCamp_0 : decode cX3_addCamp 0 = .ok (.aload_n 0, 1) := by decide +kernel
theorem dX3_addCamp_1 : decode cX3_addCamp 1 = .ok (.getfield 43, 3) := by decide +kernel
theorem dX3_addCamp_4 : decode cX3_addCamp 4 = .ok (.iconst 4, 1) := by decide +kernel
theorem dX3_addCamp_5 : decode cX3_addCamp 5 = .ok (.if_icmp .ge 33, 3) := by decide +kernel
theorem dX3_addCamp_8 : decode cX3_addCamp 8 = .ok (.aload_n 0, 1) := by decide +kernel
theorem dX3_addCamp_9 : decode cX3_addCamp 9 = .ok (.getfield 21, 3) := by decide +kernel
theorem dX3_addCamp_12 : decode cX3_addCamp 12 = .ok (.aload_n 0, 1) := by decide +kernel
theorem dX3_addCamp_13 : decode cX3_addCamp 13 = .ok (.getfield 43, 3) := by decide +kernel
theorem dX3_addCamp_16 : decode cX3_addCamp 16 = .ok (.iload_n 1, 1) := by decide +kernel
theorem dX3_addCamp_17 : decode cX3_addCamp 17 = .ok (.iastore, 1) := by decide +kernel
theorem dX3_addCamp_18 : decode cX3_addCamp 18 = .ok (.aload_n 0, 1) := by decide +kernel
theorem dX3_addCamp_19 : decode cX3_addCamp 19 = .ok (.getfield 24, 3) := by decide +kernel
theorem dX3_addCamp_22 : decode cX3_addCamp 22 = .ok (.aload_n 0, 1) := by decide +kernel
theorem dX3_addCamp_23 : decode cX3_addCamp 23 = .ok (.getfield 43, 3) := by decide +kernel
theorem dX3_addCamp_26 : decode cX3_addCamp 26 = .ok (.iload_n 2, 1) := by decide +kernel
theorem dX3_addCamp_27 : decode cX3_addCamp 27 = .ok (.iastore, 1) := by decide +kernel
theorem dX3_addCamp_28 : decode cX3_addCamp 28 = .ok (.aload_n 0, 1) := by decide +kernel
theorem dX3_addCamp_29 : decode cX3_addCamp 29 = .ok (.dup, 1) := by decide +kernel
theorem dX3_addCamp_30 : decode cX3_addCamp 30 = .ok (.getfield 43, 3) := by decide +kernel
theorem dX3_addCamp_33 : decode cX3_addCamp 33 = .ok (.iconst 1, 1) := by decide +kernel
theorem dX3_addCamp_34 : decode cX3_addCamp 34 = .ok (.iadd, 1) := by decide +kernel
theorem dX3_addCamp_35 : decode cX3_addCamp 35 = .ok (.putfield 43, 3) := by decide +kernel
theorem dX3_addCamp_38 : decode cX3_addCamp 38 = .ok (.return_, 1) := by decide +kernel
theorem dX3_dropCamp_0 : decode cX3_dropCamp 0 = .ok (.iload_n 1, 1) := by decide +kernel
theorem dX3_dropCamp_1 : decode cX3_dropCamp 1 = .ok (.istore_n 2, 1) := by decide +kernel
theorem dX3_dropCamp_2 : decode cX3_dropCamp 2 = .ok (.iload_n 2, 1) := by decide +kernel
theorem dX3_dropCamp_3 : decode cX3_dropCamp 3 = .ok (.aload_n 0, 1) := by decide +kernel
theorem dX3_dropCamp_4 : decode cX3_dropCamp 4 = .ok (.getfield 43, 3) := by decide +kernel
theorem dX3_dropCamp_7 : decode cX3_dropCamp 7 = .ok (.iconst 1, 1) := by decide +kernel
theorem dX3_dropCamp_8 : decode cX3_dropCamp 8 = .ok (.isub, 1) := by decide +kernel
theorem dX3_dropCamp_9 : decode cX3_dropCamp 9 = .ok (.if_icmp .ge 37, 3) := by decide +kernel
theorem dX3_dropCamp_12 : decode cX3_dropCamp 12 = .ok (.aload_n 0, 1) := by decide +kernel
theorem dX3_dropCamp_13 : decode cX3_dropCamp 13 = .ok (.getfield 21, 3) := by decide +kernel
theorem dX3_dropCamp_16 : decode cX3_dropCamp 16 = .ok (.iload_n 2, 1) := by decide +kernel
theorem dX3_dropCamp_17 : decode cX3_dropCamp 17 = .ok (.aload_n 0, 1) := by decide +kernel
theorem dX3_dropCamp_18 : decode cX3_dropCamp 18 = .ok (.getfield 21, 3) := by decide +kernel
theorem dX3_dropCamp_21 : decode cX3_dropCamp 21 = .ok (.iload_n 2, 1) := by decide +kernel
theorem dX3_dropCamp_22 : decode cX3_dropCamp 22 = .ok (.iconst 1, 1) := by decide +kernel
theorem dX3_dropCamp_23 : decode cX3_dropCamp 23 = .ok (.iadd, 1) := by decide +kernel
theorem dX3_dropCamp_24 : decode cX3_dropCamp 24 = .ok (.iaload, 1) := by decide +kernel
theorem dX3_dropCamp_25 : decode cX3_dropCamp 25 = .ok (.iastore, 1) := by decide +kernel
theorem dX3_dropCamp_26 : decode cX3_dropCamp 26 = .ok (.aload_n 0, 1) := by decide +kernel
theorem dX3_dropCamp_27 : decode cX3_dropCamp 27 = .ok (.getfield 24, 3) := by decide +kernel
theorem dX3_dropCamp_30 : decode cX3_dropCamp 30 = .ok (.iload_n 2, 1) := by decide +kernel
theorem dX3_dropCamp_31 : decode cX3_dropCamp 31 = .ok (.aload_n 0, 1) := by decide +kernel
theorem dX3_dropCamp_32 : decode cX3_dropCamp 32 = .ok (.getfield 24, 3) := by decide +kernel
theorem dX3_dropCamp_35 : decode cX3_dropCamp 35 = .ok (.iload_n 2, 1) := by decide +kernel
theorem dX3_dropCamp_36 : decode cX3_dropCamp 36 = .ok (.iconst 1, 1) := by decide +kernel
theorem dX3_dropCamp_37 : decode cX3_dropCamp 37 = .ok (.iadd, 1) := by decide +kernel
theorem dX3_dropCamp_38 : decode cX3_dropCamp 38 = .ok (.iaload, 1) := by decide +kernel
theorem dX3_dropCamp_39 : decode cX3_dropCamp 39 = .ok (.iastore, 1) := by decide +kernel
theorem dX3_dropCamp_40 : decode cX3_dropCamp 40 = .ok (.iinc 2 1, 3) := by decide +kernel
theorem dX3_dropCamp_43 : decode cX3_dropCamp 43 = .ok (.goto (-41), 3) := by decide +kernel
theorem dX3_dropCamp_46 : decode cX3_dropCamp 46 = .ok (.aload_n 0, 1) := by decide +kernel
theorem dX3_dropCamp_47 : decode cX3_dropCamp 47 = .ok (.dup, 1) := by decide +kernel
theorem dX3_dropCamp_48 : decode cX3_dropCamp 48 = .ok (.getfield 43, 3) := by decide +kernel
theorem dX3_dropCamp_51 : decode cX3_dropCamp 51 = .ok (.iconst 1, 1) := by decide +kernel
theorem dX3_dropCamp_52 : decode cX3_dropCamp 52 = .ok (.isub, 1) := by decide +kernel
theorem dX3_dropCamp_53 : decode cX3_dropCamp 53 = .ok (.putfield 43, 3) := by decide +kernel
theorem dX3_dropCamp_56 : decode cX3_dropCamp 56 = .ok (.return_, 1) := by decide +kernel
theorem dX3_countOthers_0 : decode cX3_countOthers 0 = .ok (.iconst 0, 1) := by decide +kernel
theorem dX3_countOthers_1 : decode cX3_countOthers 1 = .ok (.istore 5, 2) := by decide +kernel
theorem dX3_countOthers_3 : decode cX3_countOthers 3 = .ok (.iload_n 2, 1) := by decide +kernel
theorem dX3_countOthers_4 : decode cX3_countOthers 4 = .ok (.istore 6, 2) := by decide +kernel
theorem dX3_countOthers_6 : decode cX3_countOthers 6 = .ok (.iload 6, 2) := by decide +kernel
theorem dX3_countOthers_8 : decode cX3_countOthers 8 = .ok (.iload_n 3, 1) := by decide +kernel
theorem dX3_countOthers_9 : decode cX3_countOthers 9 = .ok (.if_icmp .gt 29, 3) := by decide +kernel
theorem dX3_countOthers_12 : decode cX3_countOthers 12 = .ok (.aload_n 0, 1) := by decide +kernel
theorem dX3_countOthers_13 : decode cX3_countOthers 13 = .ok (.getfield 18, 3) := by decide +kernel
theorem dX3_countOthers_16 : decode cX3_countOthers 16 = .ok (.iload_n 1, 1) := by decide +kernel
theorem dX3_countOthers_17 : decode cX3_countOthers 17 = .ok (.bipush 70, 2) := by decide +kernel
theorem dX3_countOthers_19 : decode cX3_countOthers 19 = .ok (.imul, 1) := by decide +kernel
theorem dX3_countOthers_20 : decode cX3_countOthers 20 = .ok (.iload 6, 2) := by decide +kernel
theorem dX3_countOthers_22 : decode cX3_countOthers 22 = .ok (.iadd, 1) := by decide +kernel
theorem dX3_countOthers_23 : decode cX3_countOthers 23 = .ok (.iaload, 1) := by decide +kernel
theorem dX3_countOthers_24 : decode cX3_countOthers 24 = .ok (.iload 4, 2) := by decide +kernel
theorem dX3_countOthers_26 : decode cX3_countOthers 26 = .ok (.if_icmp .eq 6, 3) := by decide +kernel
theorem dX3_countOthers_29 : decode cX3_countOthers 29 = .ok (.iinc 5 1, 3) := by decide +kernel
theorem dX3_countOthers_32 : decode cX3_countOthers 32 = .ok (.iinc 6 1, 3) := by decide +kernel
theorem dX3_countOthers_35 : decode cX3_countOthers 35 = .ok (.goto (-29), 3) := by decide +kernel
theorem dX3_countOthers_38 : decode cX3_countOthers 38 = .ok (.iload 5, 2) := by decide +kernel
theorem dX3_countOthers_40 : decode cX3_countOthers 40 = .ok (.ireturn, 1) := by decide +kernel
theorem dX3_fillKinds_0 : decode cX3_fillKinds 0 = .ok (.iload_n 2, 1) := by decide +kernel
theorem dX3_fillKinds_1 : decode cX3_fillKinds 1 = .ok (.istore 5, 2) := by decide +kernel
theorem dX3_fillKinds_3 : decode cX3_fillKinds 3 = .ok (.iload 5, 2) := by decide +kernel
theorem dX3_fillKinds_5 : decode cX3_fillKinds 5 = .ok (.iload_n 3, 1) := by decide +kernel
theorem dX3_fillKinds_6 : decode cX3_fillKinds 6 = .ok (.if_icmp .gt 23, 3) := by decide +kernel
theorem dX3_fillKinds_9 : decode cX3_fillKinds 9 = .ok (.aload_n 0, 1) := by decide +kernel
theorem dX3_fillKinds_10 : decode cX3_fillKinds 10 = .ok (.getfield 18, 3) := by decide +kernel
theorem dX3_fillKinds_13 : decode cX3_fillKinds 13 = .ok (.iload_n 1, 1) := by decide +kernel
theorem dX3_fillKinds_14 : decode cX3_fillKinds 14 = .ok (.bipush 70, 2) := by decide +kernel
theorem dX3_fillKinds_16 : decode cX3_fillKinds 16 = .ok (.imul, 1) := by decide +kernel
theorem dX3_fillKinds_17 : decode cX3_fillKinds 17 = .ok (.iload 5, 2) := by decide +kernel
theorem dX3_fillKinds_19 : decode cX3_fillKinds 19 = .ok (.iadd, 1) := by decide +kernel
theorem dX3_fillKinds_20 : decode cX3_fillKinds 20 = .ok (.iload 4, 2) := by decide +kernel
theorem dX3_fillKinds_22 : decode cX3_fillKinds 22 = .ok (.iastore, 1) := by decide +kernel
theorem dX3_fillKinds_23 : decode cX3_fillKinds 23 = .ok (.iinc 5 1, 3) := by decide +kernel
theorem dX3_fillKinds_26 : decode cX3_fillKinds 26 = .ok (.goto (-23), 3) := by decide +kernel
theorem dX3_fillKinds_29 : decode cX3_fillKinds 29 = .ok (.return_, 1) := by decide +kernel
theorem dX3_repeatKinds_0 : decode cX3_repeatKinds 0 = .ok (.iload_n 2, 1) := by decide +kernel
theorem dX3_repeatKinds_1 : decode cX3_repeatKinds 1 = .ok (.iload_n 3, 1) := by decide +kernel
theorem dX3_repeatKinds_2 : decode cX3_repeatKinds 2 = .ok (.iadd, 1) := by decide +kernel
theorem dX3_repeatKinds_3 : decode cX3_repeatKinds 3 = .ok (.istore 5, 2) := by decide +kernel
theorem dX3_repeatKinds_5 : decode cX3_repeatKinds 5 = .ok (.iload 5, 2) := by decide +kernel
theorem dX3_repeatKinds_7 : decode cX3_repeatKinds 7 = .ok (.iload 4, 2) := by decide +kernel
theorem dX3_repeatKinds_9 : decode cX3_repeatKinds 9 = .ok (.if_icmp .ge 35, 3) := by decide +kernel
theorem dX3_repeatKinds_12 : decode cX3_repeatKinds 12 = .ok (.aload_n 0, 1) := by decide +kernel
theorem dX3_repeatKinds_13 : decode cX3_repeatKinds 13 = .ok (.getfield 18, 3) := by decide +kernel
theorem dX3_repeatKinds_16 : decode cX3_repeatKinds 16 = .ok (.iload_n 1, 1) := by decide +kernel
theorem dX3_repeatKinds_17 : decode cX3_repeatKinds 17 = .ok (.bipush 70, 2) := by decide +kernel
theorem dX3_repeatKinds_19 : decode cX3_repeatKinds 19 = .ok (.imul, 1) := by decide +kernel
theorem dX3_repeatKinds_20 : decode cX3_repeatKinds 20 = .ok (.iload 5, 2) := by decide +kernel
theorem dX3_repeatKinds_22 : decode cX3_repeatKinds 22 = .ok (.iadd, 1) := by decide +kernel
theorem dX3_repeatKinds_23 : decode cX3_repeatKinds 23 = .ok (.aload_n 0, 1) := by decide +kernel
theorem dX3_repeatKinds_24 : decode cX3_repeatKinds 24 = .ok (.getfield 18, 3) := by decide +kernel
theorem dX3_repeatKinds_27 : decode cX3_repeatKinds 27 = .ok (.iload_n 1, 1) := by decide +kernel
theorem dX3_repeatKinds_28 : decode cX3_repeatKinds 28 = .ok (.bipush 70, 2) := by decide +kernel
theorem dX3_repeatKinds_30 : decode cX3_repeatKinds 30 = .ok (.imul, 1) := by decide +kernel
theorem dX3_repeatKinds_31 : decode cX3_repeatKinds 31 = .ok (.iload 5, 2) := by decide +kernel
theorem dX3_repeatKinds_33 : decode cX3_repeatKinds 33 = .ok (.iadd, 1) := by decide +kernel
theorem dX3_repeatKinds_34 : decode cX3_repeatKinds 34 = .ok (.iload_n 3, 1) := by decide +kernel
theorem dX3_repeatKinds_35 : decode cX3_repeatKinds 35 = .ok (.isub, 1) := by decide +kernel
theorem dX3_repeatKinds_36 : decode cX3_repeatKinds 36 = .ok (.iaload, 1) := by decide +kernel
theorem dX3_repeatKinds_37 : decode cX3_repeatKinds 37 = .ok (.iastore, 1) := by decide +kernel
theorem dX3_repeatKinds_38 : decode cX3_repeatKinds 38 = .ok (.iinc 5 1, 3) := by decide +kernel
theorem dX3_repeatKinds_41 : decode cX3_repeatKinds 41 = .ok (.goto (-36), 3) := by decide +kernel
theorem dX3_repeatKinds_44 : decode cX3_repeatKinds 44 = .ok (.return_, 1) := by decide +kernel

def isTold (b : Nat) : Prop := sh b = some (.inl (3, [none, some (b + 1), some (b + 2), some (b + 3), none, some (b + 4), some (b + 5), some (b + 6), some (b + 7)])) ∧ sh (b + 1) = some (.inr (.inl (0, 6))) ∧ sh (b + 2) = some (.inr (.inl (0, 6))) ∧ sh (b + 3) = some (.inr (.inl (0, 420))) ∧ sh (b + 4) = some (.inr (.inl (0, 4))) ∧ sh (b + 5) = some (.inr (.inl (0, 4))) ∧ sh (b + 6) = some (.inr (.inl (0, 6))) ∧ sh (b + 7) = some (.inr (.inl (0, 8)))
theorem isTold_4 : isTold 4 := ⟨rfl, rfl, rfl, rfl, rfl, rfl, rfl, rfl⟩
theorem isTold_19 : isTold 19 := ⟨rfl, rfl, rfl, rfl, rfl, rfl, rfl, rfl⟩
/-- the j-th of the past -/
def pastB (j : Nat) : Nat := 52 + 8 * j
theorem isTold_past {j : Nat} (h : j < 8) : isTold (pastB j) := by
  unfold pastB
  rcases (show j = 0 ∨ j = 1 ∨ j = 2 ∨ j = 3 ∨ j = 4 ∨ j = 5 ∨ j = 6 ∨ j = 7 by omega) with rfl | rfl | rfl | rfl | rfl | rfl | rfl | rfl <;> exact ⟨rfl, rfl, rfl, rfl, rfl, rfl, rfl, rfl⟩
/-- places lo to hi-1 of a row hold v -/
def fillR (f : Nat → Int32) (lo hi : Nat) (v : Int32) : Nat → Int32 := fun j => if lo ≤ j ∧ j < hi then v else f j
theorem fillR_0 (f : Nat → Int32) (lo : Nat) (v : Int32) : fillR f lo lo v = f := by
  funext j; simp only [fillR]; rw [if_neg (by omega)]
theorem fillR_s (f : Nat → Int32) {lo hi : Nat} (v : Int32) (h : lo ≤ hi) : upd (fillR f lo hi v) hi v = fillR f lo (hi + 1) v := by
  funext j; simp only [fillR, upd]
  by_cases h1 : j = hi
  · rw [if_pos h1, if_pos (by omega)]
  · rw [if_neg h1]
    by_cases h2 : lo ≤ j ∧ j < hi
    · rw [if_pos h2, if_pos (by omega)]
    · rw [if_neg h2, if_neg (by omega)]
theorem upR_upR (σ : mS) (a : Nat) (f g : Nat → Int32) : upR (upR σ a f) a g = upR σ a g := by
  funext b; simp only [upR]; split <;> rfl
theorem upR_self (σ : mS) (a : Nat) : upR σ a (σ a) = σ := by
  funext b; simp only [upR]; split
  · rename_i h; rw [h]
  · rfl
section TOLD
variable {G : mG} {d b : Nat} {σ : mS}
theorem v_hasGroup (hb : isTold b) (g : Int32) : mV G mX3_hasGroup d [.ref b, .int g] σ (some (.int (bI (decide (nI 0 ≤ g) && decide (g < σ b 0))))) σ := by
  obtain ⟨s0, s1, s2, s3, s4, s5, s6, s7⟩ := hb
  refine mV_of fun Q hQ => ?_
  refine F_iload_n dX3_hasGroup_0 rfl ?_
  refine F_if_lt (tgt := 16) dX3_hasGroup_1 rfl (fun c1 => ?_) (fun c1 => ?_)
  · refine F_iconst (v := nI 0) dX3_hasGroup_16 rfl ?_
    refine F_zret dX3_hasGroup_17 rfl (by first | exact Or.inl rfl | exact Or.inr rfl | exact bI_01 _) ?_
    clear s0 s1 s2 s3 s4 s5 s6 s7
    first | exact Qb1 hQ (by simp_all [nI_0]) | exact Qb0 hQ (by simp only [nI_0, Bool.and_eq_false_iff, decide_eq_false_iff_not, Int32.not_le, Int32.not_lt]; first | exact Or.inl c1 | exact Or.inr (by assumption))
  · refine F_iload_n dX3_hasGroup_4 rfl ?_
    refine F_aload_n dX3_hasGroup_5 rfl ?_
    refine F_geti dX3_hasGroup_6 rfl rfl (by first | assumption | rfl) rfl ?_
    refine F_icmp_ge (tgt := 16) dX3_hasGroup_9 rfl (fun c9 => ?_) (fun c9 => ?_)
    · refine F_iconst (v := nI 0) dX3_hasGroup_16 rfl ?_
      refine F_zret dX3_hasGroup_17 rfl (by first | exact Or.inl rfl | exact Or.inr rfl | exact bI_01 _) ?_
      clear s0 s1 s2 s3 s4 s5 s6 s7
      first | exact Qb1 hQ (by simp_all [nI_0]) | exact Qb0 hQ (by simp only [nI_0, Bool.and_eq_false_iff, decide_eq_false_iff_not, Int32.not_le, Int32.not_lt]; first | exact Or.inl c1 | exact Or.inr (by assumption))
    · refine F_iconst (v := nI 1) dX3_hasGroup_12 rfl ?_
      refine F_goto (tgt := 17) dX3_hasGroup_13 rfl ?_
      refine F_zret dX3_hasGroup_17 rfl (by first | exact Or.inl rfl | exact Or.inr rfl | exact bI_01 _) ?_
      clear s0 s1 s2 s3 s4 s5 s6 s7
      first | exact Qb1 hQ (by simp_all [nI_0]) | exact Qb0 hQ (by simp only [nI_0, Bool.and_eq_false_iff, decide_eq_false_iff_not, Int32.not_le, Int32.not_lt]; first | exact Or.inl c1 | exact Or.inr (by assumption))

theorem v_hasCamp (hb : isTold b) (g : Int32) : mV G mX3_hasCamp d [.ref b, .int g] σ (some (.int (bI (decide (nI 0 ≤ g) && decide (g < σ b 4))))) σ := by
  obtain ⟨s0, s1, s2, s3, s4, s5, s6, s7⟩ := hb
  refine mV_of fun Q hQ => ?_
  refine F_iload_n dX3_hasCamp_0 rfl ?_
  refine F_if_lt (tgt := 16) dX3_hasCamp_1 rfl (fun c1 => ?_) (fun c1 => ?_)
  · refine F_iconst (v := nI 0) dX3_hasCamp_16 rfl ?_
    refine F_zret dX3_hasCamp_17 rfl (by first | exact Or.inl rfl | exact Or.inr rfl | exact bI_01 _) ?_
    clear s0 s1 s2 s3 s4 s5 s6 s7
    first | exact Qb1 hQ (by simp_all [nI_0]) | exact Qb0 hQ (by simp only [nI_0, Bool.and_eq_false_iff, decide_eq_false_iff_not, Int32.not_le, Int32.not_lt]; first | exact Or.inl c1 | exact Or.inr (by assumption))
  · refine F_iload_n dX3_hasCamp_4 rfl ?_
    refine F_aload_n dX3_hasCamp_5 rfl ?_
    refine F_geti dX3_hasCamp_6 rfl rfl (by first | assumption | rfl) rfl ?_
    refine F_icmp_ge (tgt := 16) dX3_hasCamp_9 rfl (fun c9 => ?_) (fun c9 => ?_)
    · refine F_iconst (v := nI 0) dX3_hasCamp_16 rfl ?_
      refine F_zret dX3_hasCamp_17 rfl (by first | exact Or.inl rfl | exact Or.inr rfl | exact bI_01 _) ?_
      clear s0 s1 s2 s3 s4 s5 s6 s7
      first | exact Qb1 hQ (by simp_all [nI_0]) | exact Qb0 hQ (by simp only [nI_0, Bool.and_eq_false_iff, decide_eq_false_iff_not, Int32.not_le, Int32.not_lt]; first | exact Or.inl c1 | exact Or.inr (by assumption))
    · refine F_iconst (v := nI 1) dX3_hasCamp_12 rfl ?_
      refine F_goto (tgt := 17) dX3_hasCamp_13 rfl ?_
      refine F_zret dX3_hasCamp_17 rfl (by first | exact Or.inl rfl | exact Or.inr rfl | exact bI_01 _) ?_
      clear s0 s1 s2 s3 s4 s5 s6 s7
      first | exact Qb1 hQ (by simp_all [nI_0]) | exact Qb0 hQ (by simp only [nI_0, Bool.and_eq_false_iff, decide_eq_false_iff_not, Int32.not_le, Int32.not_lt]; first | exact Or.inl c1 | exact Or.inr (by assumption))

theorem v_addGroup (hb : isTold b) (x y : Int32) {n : Nat} (hn : σ b 0 = nI n) (h6 : n < 6) : mV G mX3_addGroup d [.ref b, .int x, .int y] σ none (up (up (up σ (b + 1) n x) (b + 2) n y) b 0 (nI (n + 1))) := by
  obtain ⟨s0, s1, s2, s3, s4, s5, s6, s7⟩ := hb
  refine mV_of fun Q hQ => ?_
  refine F_aload_n dX3_addGroup_0 rfl ?_
  refine F_getE (v := nI n) dX3_addGroup_1 rfl rfl (by first | assumption | rfl) rfl (by simp [up, upR, hn]) ?_
  refine F_bipush (v := nI 6) dX3_addGroup_4 rfl ?_
  refine F_icmp_geN (tgt := 39) dX3_addGroup_6 rfl (by omega) (by omega) (fun c6 => ?_) (fun c6 => ?_)
  · exact absurd c6 (by omega)
  · refine F_aload_n dX3_addGroup_9 rfl ?_
    refine F_getr dX3_addGroup_10 rfl rfl (by first | assumption | rfl) rfl ?_
    refine F_aload_n dX3_addGroup_13 rfl ?_
    refine F_getE (v := nI n) dX3_addGroup_14 rfl rfl (by first | assumption | rfl) rfl (by simp [up, upR, hn]) ?_
    refine F_iload_n dX3_addGroup_17 rfl ?_
    refine F_iast dX3_addGroup_18 (by first | assumption | rfl) (by decide) (by omega) ?_
    refine F_aload_n dX3_addGroup_19 rfl ?_
    refine F_getr dX3_addGroup_20 rfl rfl (by first | assumption | rfl) rfl ?_
    refine F_aload_n dX3_addGroup_23 rfl ?_
    refine F_getE (v := nI n) dX3_addGroup_24 rfl rfl (by first | assumption | rfl) rfl (by simp [up, upR, hn]) ?_
    refine F_iload_n dX3_addGroup_27 rfl ?_
    refine F_iast dX3_addGroup_28 (by first | assumption | rfl) (by decide) (by omega) ?_
    refine F_aload_n dX3_addGroup_29 rfl ?_
    refine F_dup dX3_addGroup_30 rfl ?_
    refine F_getE (v := nI n) dX3_addGroup_31 rfl rfl (by first | assumption | rfl) rfl (by simp [up, upR, hn]) ?_
    refine F_iconst (v := nI 1) dX3_addGroup_34 rfl ?_
    refine F_iaddN dX3_addGroup_35 ?_
    refine F_put dX3_addGroup_36 rfl rfl (by first | assumption | rfl) rfl rfl rfl rfl ?_
    refine F_vret dX3_addGroup_39 rfl ?_
    exact hQ

theorem v_addCamp (hb : isTold b) (x y : Int32) {n : Nat} (hn : σ b 4 = nI n) (h6 : n < 4) : mV G mX3_addCamp d [.ref b, .int x, .int y] σ none (up (up (up σ (b + 4) n x) (b + 5) n y) b 4 (nI (n + 1))) := by
  obtain ⟨s0, s1, s2, s3, s4, s5, s6, s7⟩ := hb
  refine mV_of fun Q hQ => ?_
  refine F_aload_n dX3_addCamp_0 rfl ?_
  refine F_getE (v := nI n) dX3_addCamp_1 rfl rfl (by first | assumption | rfl) rfl (by simp [up, upR, hn]) ?_
  refine F_iconst (v := nI 4) dX3_addCamp_4 rfl ?_
  refine F_icmp_geN (tgt := 38) dX3_addCamp_5 rfl (by omega) (by omega) (fun c5 => ?_) (fun c5 => ?_)
  · exact absurd c5 (by omega)
  · refine F_aload_n dX3_addCamp_8 rfl ?_
    refine F_getr dX3_addCamp_9 rfl rfl (by first | assumption | rfl) rfl ?_
    refine F_aload_n dX3_addCamp_12 rfl ?_
    refine F_getE (v := nI n) dX3_addCamp_13 rfl rfl (by first | assumption | rfl) rfl (by simp [up, upR, hn]) ?_
    refine F_iload_n dX3_addCamp_16 rfl ?_
    refine F_iast dX3_addCamp_17 (by first | assumption | rfl) (by decide) (by omega) ?_
    refine F_aload_n dX3_addCamp_18 rfl ?_
    refine F_getr dX3_addCamp_19 rfl rfl (by first | assumption | rfl) rfl ?_
    refine F_aload_n dX3_addCamp_22 rfl ?_
    refine F_getE (v := nI n) dX3_addCamp_23 rfl rfl (by first | assumption | rfl) rfl (by simp [up, upR, hn]) ?_
    refine F_iload_n dX3_addCamp_26 rfl ?_
    refine F_iast dX3_addCamp_27 (by first | assumption | rfl) (by decide) (by omega) ?_
    refine F_aload_n dX3_addCamp_28 rfl ?_
    refine F_dup dX3_addCamp_29 rfl ?_
    refine F_getE (v := nI n) dX3_addCamp_30 rfl rfl (by first | assumption | rfl) rfl (by simp [up, upR, hn]) ?_
    refine F_iconst (v := nI 1) dX3_addCamp_33 rfl ?_
    refine F_iaddN dX3_addCamp_34 ?_
    refine F_put dX3_addCamp_35 rfl rfl (by first | assumption | rfl) rfl rfl rfl rfl ?_
    refine F_vret dX3_addCamp_38 rfl ?_
    exact hQ

theorem loopUp {P : Nat → Prop} (N : Nat) (h : ∀ e, e ≤ N → (e < N → P (e + 1)) → P e) : ∀ e, e ≤ N → P e := by
  intro e he
  obtain ⟨k, hk⟩ : ∃ k, e + k = N := ⟨N - e, by omega⟩
  induction k generalizing e with
  | zero => exact h e he (fun h1 => absurd h1 (by omega))
  | succ k ih => exact h e he (fun h1 => ih (e + 1) (by omega) (by omega))
theorem up_upR (σ : mS) (a : Nat) (f : Nat → Int32) (i : Nat) (v : Int32) : up (upR σ a f) a i v = upR σ a (upd f i v) := by
  unfold up
  rw [upR_s, upR_upR]
theorem up_fill (σ : mS) (a : Nat) (f : Nat → Int32) {lo hi : Nat} (v : Int32) (h : lo ≤ hi) : up (upR σ a (fillR f lo hi v)) a hi v = upR σ a (fillR f lo (hi + 1) v) := by
  rw [up_upR, fillR_s f v h]
theorem fill0 (σ : mS) (a lo : Nat) (v : Int32) : upR σ a (fillR (σ a) lo (lo + 0) v) = σ := by
  rw [Nat.add_zero, fillR_0, upR_self]
theorem up_cpy (σ : mS) (a : Nat) (f g : Nat → Int32) {sp dp n i : Nat} {v : Int32} (hi : i = dp + n) (hv : v = f (sp + n)) : up (upR σ a (va_cpy f g sp dp n)) a i v = upR σ a (va_cpy f g sp dp (n + 1)) := by
  subst hi; subst hv
  rw [up_upR, cpyS]
theorem cpy_0 (σ : mS) (a : Nat) (f : Nat → Int32) (sp dp : Nat) : upR σ a (va_cpy f (σ a) sp dp 0) = σ := by
  rw [cpy0, upR_self]
theorem up_sw (σ : mS) {a b : Nat} (g : Nat → Int32) (i : Nat) (v : Int32) (h : a ≠ b) : up (upR σ b g) a i v = upR (up σ a i v) b g := by
  funext c
  by_cases h1 : c = a
  · subst h1; simp [up, upR, h]
  · by_cases h2 : c = b
    · subst h2; simp [up, upR, h1]
    · simp [up, upR, h1, h2]
/-- how many of the first n -/
def cntB (p : Nat → Bool) : Nat → Nat
  | 0 => 0
  | n + 1 => cntB p n + (if p n = true then 1 else 0)
theorem cntB_le (p : Nat → Bool) (n : Nat) : cntB p n ≤ n := by
  induction n with
  | zero => exact Nat.le_refl 0
  | succ n ih => simp only [cntB]; split <;> omega
theorem cntB_congr {p q : Nat → Bool} {n : Nat} (h : ∀ i, i < n → p i = q i) : cntB p n = cntB q n := by
  induction n with
  | zero => rfl
  | succ n ih => simp only [cntB]; rw [ih (fun i hi => h i (by omega)), h n (by omega)]
def cp1 (σ : mS) (b o k n : Nat) : mS := upR σ (b + k) (va_cpy (σ (o + k)) (σ (b + k)) 0 0 n)
/-- all of o's goes to b -/
def copyT (σ : mS) (b o : Nat) : mS := cp1 (cp1 (cp1 (cp1 (up (cp1 (cp1 (cp1 (up σ b 0 (σ o 0)) b o 1 6) b o 2 6) b o 3 420) b 4 (σ o 4)) b o 4 4) b o 5 4) b o 6 6) b o 7 8
theorem v_copyFrom {o : Nat} (hb : isTold b) (ho : isTold o) (hd : b + 8 ≤ o ∨ o + 8 ≤ b) : mV G mX3_copyFrom d [.ref b, .ref o] σ none (copyT σ b o) := by
  obtain ⟨s0, s1, s2, s3, s4, s5, s6, s7⟩ := hb
  obtain ⟨t0, t1, t2, t3, t4, t5, t6, t7⟩ := ho
  refine mV_of fun Q hQ => ?_
  refine F_aload_n dX3_copyFrom_0 rfl ?_
  refine F_aload_n dX3_copyFrom_1 rfl ?_
  refine F_geti dX3_copyFrom_2 rfl rfl (by first | assumption | rfl) rfl ?_
  refine F_put dX3_copyFrom_5 rfl rfl (by first | assumption | rfl) rfl rfl rfl rfl ?_
  refine F_aload_n dX3_copyFrom_8 rfl ?_
  refine F_getr dX3_copyFrom_9 rfl rfl (by first | assumption | rfl) rfl ?_
  refine F_iconst (v := nI 0) dX3_copyFrom_12 rfl ?_
  refine F_aload_n dX3_copyFrom_13 rfl ?_
  refine F_getr dX3_copyFrom_14 rfl rfl (by first | assumption | rfl) rfl ?_
  refine F_iconst (v := nI 0) dX3_copyFrom_17 rfl ?_
  refine F_bipush (v := nI 6) dX3_copyFrom_18 rfl ?_
  refine F_copy dX3_copyFrom_20 rfl rfl (Nat.le_of_ble_eq_true rfl) (by first | assumption | rfl) (by first | assumption | rfl) (by decide) (by decide) (by omega) (by omega) ?_
  refine F_aload_n dX3_copyFrom_23 rfl ?_
  refine F_getr dX3_copyFrom_24 rfl rfl (by first | assumption | rfl) rfl ?_
  refine F_iconst (v := nI 0) dX3_copyFrom_27 rfl ?_
  refine F_aload_n dX3_copyFrom_28 rfl ?_
  refine F_getr dX3_copyFrom_29 rfl rfl (by first | assumption | rfl) rfl ?_
  refine F_iconst (v := nI 0) dX3_copyFrom_32 rfl ?_
  refine F_bipush (v := nI 6) dX3_copyFrom_33 rfl ?_
  refine F_copy dX3_copyFrom_35 rfl rfl (Nat.le_of_ble_eq_true rfl) (by first | assumption | rfl) (by first | assumption | rfl) (by decide) (by decide) (by omega) (by omega) ?_
  refine F_aload_n dX3_copyFrom_38 rfl ?_
  refine F_getr dX3_copyFrom_39 rfl rfl (by first | assumption | rfl) rfl ?_
  refine F_iconst (v := nI 0) dX3_copyFrom_42 rfl ?_
  refine F_aload_n dX3_copyFrom_43 rfl ?_
  refine F_getr dX3_copyFrom_44 rfl rfl (by first | assumption | rfl) rfl ?_
  refine F_iconst (v := nI 0) dX3_copyFrom_47 rfl ?_
  refine F_sipush (v := nI 420) dX3_copyFrom_48 rfl ?_
  refine F_copy dX3_copyFrom_51 rfl rfl (Nat.le_of_ble_eq_true rfl) (by first | assumption | rfl) (by first | assumption | rfl) (by decide) (by decide) (by omega) (by omega) ?_
  refine F_aload_n dX3_copyFrom_54 rfl ?_
  refine F_aload_n dX3_copyFrom_55 rfl ?_
  refine F_getE (v := σ o 4) dX3_copyFrom_56 rfl rfl (by first | assumption | rfl) rfl (by rw [upR_n _ _ (by omega), upR_n _ _ (by omega), upR_n _ _ (by omega), up_n _ _ _ (by omega)]) ?_
  refine F_put dX3_copyFrom_59 rfl rfl (by first | assumption | rfl) rfl rfl rfl rfl ?_
  refine F_aload_n dX3_copyFrom_62 rfl ?_
  refine F_getr dX3_copyFrom_63 rfl rfl (by first | assumption | rfl) rfl ?_
  refine F_iconst (v := nI 0) dX3_copyFrom_66 rfl ?_
  refine F_aload_n dX3_copyFrom_67 rfl ?_
  refine F_getr dX3_copyFrom_68 rfl rfl (by first | assumption | rfl) rfl ?_
  refine F_iconst (v := nI 0) dX3_copyFrom_71 rfl ?_
  refine F_iconst (v := nI 4) dX3_copyFrom_72 rfl ?_
  refine F_copy dX3_copyFrom_73 rfl rfl (Nat.le_of_ble_eq_true rfl) (by first | assumption | rfl) (by first | assumption | rfl) (by decide) (by decide) (by omega) (by omega) ?_
  refine F_aload_n dX3_copyFrom_76 rfl ?_
  refine F_getr dX3_copyFrom_77 rfl rfl (by first | assumption | rfl) rfl ?_
  refine F_iconst (v := nI 0) dX3_copyFrom_80 rfl ?_
  refine F_aload_n dX3_copyFrom_81 rfl ?_
  refine F_getr dX3_copyFrom_82 rfl rfl (by first | assumption | rfl) rfl ?_
  refine F_iconst (v := nI 0) dX3_copyFrom_85 rfl ?_
  refine F_iconst (v := nI 4) dX3_copyFrom_86 rfl ?_
  refine F_copy dX3_copyFrom_87 rfl rfl (Nat.le_of_ble_eq_true rfl) (by first | assumption | rfl) (by first | assumption | rfl) (by decide) (by decide) (by omega) (by omega) ?_
  refine F_aload_n dX3_copyFrom_90 rfl ?_
  refine F_getr dX3_copyFrom_91 rfl rfl (by first | assumption | rfl) rfl ?_
  refine F_iconst (v := nI 0) dX3_copyFrom_94 rfl ?_
  refine F_aload_n dX3_copyFrom_95 rfl ?_
  refine F_getr dX3_copyFrom_96 rfl rfl (by first | assumption | rfl) rfl ?_
  refine F_iconst (v := nI 0) dX3_copyFrom_99 rfl ?_
  refine F_bipush (v := nI 6) dX3_copyFrom_100 rfl ?_
  refine F_copy dX3_copyFrom_102 rfl rfl (Nat.le_of_ble_eq_true rfl) (by first | assumption | rfl) (by first | assumption | rfl) (by decide) (by decide) (by omega) (by omega) ?_
  refine F_aload_n dX3_copyFrom_105 rfl ?_
  refine F_getr dX3_copyFrom_106 rfl rfl (by first | assumption | rfl) rfl ?_
  refine F_iconst (v := nI 0) dX3_copyFrom_109 rfl ?_
  refine F_aload_n dX3_copyFrom_110 rfl ?_
  refine F_getr dX3_copyFrom_111 rfl rfl (by first | assumption | rfl) rfl ?_
  refine F_iconst (v := nI 0) dX3_copyFrom_114 rfl ?_
  refine F_bipush (v := nI 8) dX3_copyFrom_115 rfl ?_
  refine F_copy dX3_copyFrom_117 rfl rfl (Nat.le_of_ble_eq_true rfl) (by first | assumption | rfl) (by first | assumption | rfl) (by decide) (by decide) (by omega) (by omega) ?_
  refine F_vret dX3_copyFrom_120 rfl ?_
  exact hQ

theorem v_countOthers (hb : isTold b) {g a e : Nat} {kind : Int32} (hg : g < 6) (hab : a ≤ e) (he : e < 70) : mV G mX3_countOthers d [.ref b, .int (nI g), .int (nI a), .int (nI e), .int kind] σ (some (.int (nI (cntB (fun i => decide (¬ σ (b + 3) (g * 70 + (a + i)) = kind)) (e + 1 - a))))) σ := by
  obtain ⟨s0, s1, s2, s3, s4, s5, s6, s7⟩ := hb
  refine mV_of fun Q hQ => ?_
  have hl : ∀ x, x ≤ e + 1 - a → mF G mX3_countOthers d 6 [some (.ref b), some (.int (nI g)), some (.int (nI a)), some (.int (nI e)), some (.int kind), some (.int (nI (cntB (fun i => decide (¬ σ (b + 3) (g * 70 + (a + i)) = kind)) x))), some (.int (nI (a + x)))] [] σ Q := by
    refine loopUp (e + 1 - a) (fun x hx ih => ?_)
    have hle := cntB_le (fun i => decide (¬ σ (b + 3) (g * 70 + (a + i)) = kind)) x
    refine F_iload dX3_countOthers_6 rfl ?_
    refine F_iload_n dX3_countOthers_8 rfl ?_
    refine F_icmp_gtN (tgt := 38) dX3_countOthers_9 rfl (by omega) (by omega) (fun c9 => ?_) (fun c9 => ?_)
    · refine F_iload dX3_countOthers_38 rfl ?_
      refine F_iret dX3_countOthers_40 rfl ?_
      have e1 : x = e + 1 - a := by omega
      subst e1
      exact hQ
    · refine F_aload_n dX3_countOthers_12 rfl ?_
      refine F_getr dX3_countOthers_13 rfl rfl (by first | assumption | rfl) rfl ?_
      refine F_iload_n dX3_countOthers_16 rfl ?_
      refine F_bipush (v := nI 70) dX3_countOthers_17 rfl ?_
      refine F_imulN dX3_countOthers_19 ?_
      refine F_iload dX3_countOthers_20 rfl ?_
      refine F_iaddN dX3_countOthers_22 ?_
      refine F_iald dX3_countOthers_23 (by first | assumption | rfl) (by decide) (by omega) ?_
      refine F_iload dX3_countOthers_24 rfl ?_
      refine F_icmp_eq (tgt := 32) dX3_countOthers_26 rfl (fun c26 => ?_) (fun c26 => ?_)
      · refine F_iincN dX3_countOthers_32 rfl ?_
        refine F_goto (tgt := 6) dX3_countOthers_35 rfl ?_
        have ih := ih (by omega)
        simp only [cntB] at ih
        first
          | (rw [if_pos (by rw [decide_eq_true_eq]; exact c26)] at ih; exact ih)
          | (rw [if_neg (by rw [decide_eq_true_eq]; exact fun z => z c26)] at ih; exact ih)
      · refine F_iincN dX3_countOthers_29 rfl ?_
        refine F_iincN dX3_countOthers_32 rfl ?_
        refine F_goto (tgt := 6) dX3_countOthers_35 rfl ?_
        have ih := ih (by omega)
        simp only [cntB] at ih
        first
          | (rw [if_pos (by rw [decide_eq_true_eq]; exact c26)] at ih; exact ih)
          | (rw [if_neg (by rw [decide_eq_true_eq]; exact fun z => z c26)] at ih; exact ih)
  refine F_iconst (v := nI 0) dX3_countOthers_0 rfl ?_
  refine F_istore dX3_countOthers_1 (Nat.le_of_ble_eq_true rfl) ?_
  refine F_iload_n dX3_countOthers_3 rfl ?_
  refine F_istore dX3_countOthers_4 (Nat.le_of_ble_eq_true rfl) ?_
  exact hl 0 (by omega)

theorem v_fillKinds (hb : isTold b) {g a e : Nat} {kind : Int32} (hg : g < 6) (hab : a ≤ e) (he : e < 70) : mV G mX3_fillKinds d [.ref b, .int (nI g), .int (nI a), .int (nI e), .int kind] σ none (upR σ (b + 3) (fillR (σ (b + 3)) (g * 70 + a) (g * 70 + a + (e + 1 - a)) kind)) := by
  obtain ⟨s0, s1, s2, s3, s4, s5, s6, s7⟩ := hb
  refine mV_of fun Q hQ => ?_
  have hl : ∀ x, x ≤ e + 1 - a → mF G mX3_fillKinds d 3 [some (.ref b), some (.int (nI g)), some (.int (nI a)), some (.int (nI e)), some (.int kind), some (.int (nI (a + x)))] [] (upR σ (b + 3) (fillR (σ (b + 3)) (g * 70 + a) (g * 70 + a + x) kind)) Q := by
    refine loopUp (e + 1 - a) (fun x hx ih => ?_)
    refine F_iload dX3_fillKinds_3 rfl ?_
    refine F_iload_n dX3_fillKinds_5 rfl ?_
    refine F_icmp_gtN (tgt := 29) dX3_fillKinds_6 rfl (by omega) (by omega) (fun c6 => ?_) (fun c6 => ?_)
    · refine F_vret dX3_fillKinds_29 rfl ?_
      have e1 : x = e + 1 - a := by omega
      subst e1
      exact hQ
    · refine F_aload_n dX3_fillKinds_9 rfl ?_
      refine F_getr dX3_fillKinds_10 rfl rfl (by first | assumption | rfl) rfl ?_
      refine F_iload_n dX3_fillKinds_13 rfl ?_
      refine F_bipush (v := nI 70) dX3_fillKinds_14 rfl ?_
      refine F_imulN dX3_fillKinds_16 ?_
      refine F_iload dX3_fillKinds_17 rfl ?_
      refine F_iaddN dX3_fillKinds_19 ?_
      refine F_iload dX3_fillKinds_20 rfl ?_
      refine F_iast dX3_fillKinds_22 (by first | assumption | rfl) (by decide) (by omega) ?_
      refine F_iincN dX3_fillKinds_23 rfl ?_
      refine F_goto (tgt := 3) dX3_fillKinds_26 rfl ?_
      have e3 : g * 70 + (a + x) = g * 70 + a + x := by omega
      rw [e3]
      refine F_sg (up_fill _ _ _ _ (by omega)) ?_
      exact ih (by omega)
  refine F_iload_n dX3_fillKinds_0 rfl ?_
  refine F_istore dX3_fillKinds_1 (Nat.le_of_ble_eq_true rfl) ?_
  refine F_sg (fill0 _ (b + 3) (g * 70 + a) kind).symm ?_
  exact hl 0 (by omega)

theorem v_dropCamp (hb : isTold b) {c n : Nat} (hn : σ b 4 = nI n) (hc : c < n) (h4 : n ≤ 4) : mV G mX3_dropCamp d [.ref b, .int (nI c)] σ none (up (upR (upR σ (b + 4) (va_cpy (σ (b + 4)) (σ (b + 4)) (c + 1) c (n - 1 - c))) (b + 5) (va_cpy (σ (b + 5)) (σ (b + 5)) (c + 1) c (n - 1 - c))) b 4 (nI (n - 1))) := by
  obtain ⟨s0, s1, s2, s3, s4, s5, s6, s7⟩ := hb
  refine mV_of fun Q hQ => ?_
  have hl : ∀ x, x ≤ n - 1 - c → mF G mX3_dropCamp d 2 [some (.ref b), some (.int (nI c)), some (.int (nI (c + x)))] [] (upR (upR σ (b + 4) (va_cpy (σ (b + 4)) (σ (b + 4)) (c + 1) c x)) (b + 5) (va_cpy (σ (b + 5)) (σ (b + 5)) (c + 1) c x)) Q := by
    refine loopUp (n - 1 - c) (fun x hx ih => ?_)
    have hr4 : (upR (upR σ (b + 4) (va_cpy (σ (b + 4)) (σ (b + 4)) (c + 1) c x)) (b + 5) (va_cpy (σ (b + 5)) (σ (b + 5)) (c + 1) c x)) b 4 = nI n := by rw [upR_n _ _ (by omega), upR_n _ _ (by omega)]; exact hn
    refine F_iload_n dX3_dropCamp_2 rfl ?_
    refine F_aload_n dX3_dropCamp_3 rfl ?_
    refine F_getE (v := nI n) dX3_dropCamp_4 rfl rfl (by first | assumption | rfl) rfl hr4 ?_
    refine F_iconst (v := nI 1) dX3_dropCamp_7 rfl ?_
    refine F_isubN dX3_dropCamp_8 (by omega) ?_
    refine F_icmp_geN (tgt := 46) dX3_dropCamp_9 rfl (by omega) (by omega) (fun c9 => ?_) (fun c9 => ?_)
    · refine F_aload_n dX3_dropCamp_46 rfl ?_
      refine F_dup dX3_dropCamp_47 rfl ?_
      refine F_getE (v := nI n) dX3_dropCamp_48 rfl rfl (by first | assumption | rfl) rfl hr4 ?_
      refine F_iconst (v := nI 1) dX3_dropCamp_51 rfl ?_
      refine F_isubN dX3_dropCamp_52 (by omega) ?_
      refine F_put dX3_dropCamp_53 rfl rfl (by first | assumption | rfl) rfl rfl rfl rfl ?_
      refine F_vret dX3_dropCamp_56 rfl ?_
      have e1 : x = n - 1 - c := by omega
      subst e1
      exact hQ
    · refine F_aload_n dX3_dropCamp_12 rfl ?_
      refine F_getr dX3_dropCamp_13 rfl rfl (by first | assumption | rfl) rfl ?_
      refine F_iload_n dX3_dropCamp_16 rfl ?_
      refine F_aload_n dX3_dropCamp_17 rfl ?_
      refine F_getr dX3_dropCamp_18 rfl rfl (by first | assumption | rfl) rfl ?_
      refine F_iload_n dX3_dropCamp_21 rfl ?_
      refine F_iconst (v := nI 1) dX3_dropCamp_22 rfl ?_
      refine F_iaddN dX3_dropCamp_23 ?_
      refine F_ialdE (v := σ (b + 4) (c + 1 + x)) dX3_dropCamp_24 (by first | assumption | rfl) (by decide) (by omega) (by rw [upR_n _ _ (by omega), upR_s]; simp only [va_cpy]; rw [if_neg (by omega)]; congr 1; omega) ?_
      refine F_iast dX3_dropCamp_25 (by first | assumption | rfl) (by decide) (by omega) ?_
      refine F_aload_n dX3_dropCamp_26 rfl ?_
      refine F_getr dX3_dropCamp_27 rfl rfl (by first | assumption | rfl) rfl ?_
      refine F_iload_n dX3_dropCamp_30 rfl ?_
      refine F_aload_n dX3_dropCamp_31 rfl ?_
      refine F_getr dX3_dropCamp_32 rfl rfl (by first | assumption | rfl) rfl ?_
      refine F_iload_n dX3_dropCamp_35 rfl ?_
      refine F_iconst (v := nI 1) dX3_dropCamp_36 rfl ?_
      refine F_iaddN dX3_dropCamp_37 ?_
      refine F_ialdE (v := σ (b + 5) (c + 1 + x)) dX3_dropCamp_38 (by first | assumption | rfl) (by decide) (by omega) (by rw [up_n _ _ _ (by omega), upR_s]; simp only [va_cpy]; rw [if_neg (by omega)]; congr 1; omega) ?_
      refine F_iast dX3_dropCamp_39 (by first | assumption | rfl) (by decide) (by omega) ?_
      refine F_iincN dX3_dropCamp_40 rfl ?_
      refine F_goto (tgt := 2) dX3_dropCamp_43 rfl ?_
      refine F_sg ?_ (ih (by omega))
      rw [up_sw _ _ _ _ (show b + 4 ≠ b + 5 by omega), up_cpy _ _ _ _ rfl rfl, up_cpy _ _ _ _ rfl rfl]
  refine F_iload_n dX3_dropCamp_0 rfl ?_
  refine F_istore_n dX3_dropCamp_1 (Nat.le_of_ble_eq_true rfl) ?_
  refine F_sg ?_ (hl 0 (by omega))
  rw [cpy0, cpy0, upR_self]
  exact (upR_self σ (b + 5)).symm

end TOLD
