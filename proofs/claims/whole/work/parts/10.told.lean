/-! ===== Told: its methods ===== -/
theorem dX3_copyFrom_0 : decode cX3_copyFrom 0 = .ok (.aload_n 0, 1) := by decide +kernel
theorem dX3_copyFrom_1 : decode cX3_copyFrom 1 = .ok (.aload_n 1, 1) := by decide +kernel
theorem dX3_copyFrom_2 : decode cX3_copyFrom 2 = .ok (.getfield 33, 3) := by decide +kernel
theorem dX3_copyFrom_5 : decode cX3_copyFrom 5 = .ok (.putfield 33, 3) := by decide +kernel
theorem dX3_copyFrom_8 : decode cX3_copyFrom 8 = .ok (.aload_n 1, 1) := by decide +kernel
theorem dX3_copyFrom_9 : decode cX3_copyFrom 9 = .ok (.getfield 9, 3) := by decide +kernel
theorem dX3_copyFrom_12 : decode cX3_copyFrom 12 = .ok (.iconst 0, 1) := by decide +kernel
theorem dX3_copyFrom_13 : decode cX3_copyFrom 13 = .ok (.aload_n 0, 1) := by decide +kernel
theorem dX3_copyFrom_14 : decode cX3_copyFrom 14 = .ok (.getfield 9, 3) := by decide +kernel
theorem dX3_copyFrom_17 : decode cX3_copyFrom 17 = .ok (.iconst 0, 1) := by decide +kernel
theorem dX3_copyFrom_18 : decode cX3_copyFrom 18 = .ok (.bipush 6, 2) := by decide +kernel
theorem dX3_copyFrom_20 : decode cX3_copyFrom 20 = .ok (.invokestatic 37, 3) := by decide +kernel
theorem dX3_copyFrom_23 : decode cX3_copyFrom 23 = .ok (.aload_n 1, 1) := by decide +kernel
theorem dX3_copyFrom_24 : decode cX3_copyFrom 24 = .ok (.getfield 15, 3) := by decide +kernel
theorem dX3_copyFrom_27 : decode cX3_copyFrom 27 = .ok (.iconst 0, 1) := by decide +kernel
theorem dX3_copyFrom_28 : decode cX3_copyFrom 28 = .ok (.aload_n 0, 1) := by decide +kernel
theorem dX3_copyFrom_29 : decode cX3_copyFrom 29 = .ok (.getfield 15, 3) := by decide +kernel
theorem dX3_copyFrom_32 : decode cX3_copyFrom 32 = .ok (.iconst 0, 1) := by decide +kernel
theorem dX3_copyFrom_33 : decode cX3_copyFrom 33 = .ok (.bipush 6, 2) := by decide +kernel
theorem dX3_copyFrom_35 : decode cX3_copyFrom 35 = .ok (.invokestatic 37, 3) := by decide +kernel
theorem dX3_copyFrom_38 : decode cX3_copyFrom 38 = .ok (.aload_n 1, 1) := by decide +kernel
theorem dX3_copyFrom_39 : decode cX3_copyFrom 39 = .ok (.getfield 18, 3) := by decide +kernel
theorem dX3_copyFrom_42 : decode cX3_copyFrom 42 = .ok (.iconst 0, 1) := by decide +kernel
theorem dX3_copyFrom_43 : decode cX3_copyFrom 43 = .ok (.aload_n 0, 1) := by decide +kernel
theorem dX3_copyFrom_44 : decode cX3_copyFrom 44 = .ok (.getfield 18, 3) := by decide +kernel
theorem dX3_copyFrom_47 : decode cX3_copyFrom 47 = .ok (.iconst 0, 1) := by decide +kernel
theorem dX3_copyFrom_48 : decode cX3_copyFrom 48 = .ok (.sipush 420, 3) := by decide +kernel
theorem dX3_copyFrom_51 : decode cX3_copyFrom 51 = .ok (.invokestatic 37, 3) := by decide +kernel
theorem dX3_copyFrom_54 : decode cX3_copyFrom 54 = .ok (.aload_n 0, 1) := by decide +kernel
theorem dX3_copyFrom_55 : decode cX3_copyFrom 55 = .ok (.aload_n 1, 1) := by decide +kernel
theorem dX3_copyFrom_56 : decode cX3_copyFrom 56 = .ok (.getfield 43, 3) := by decide +kernel
theorem dX3_copyFrom_59 : decode cX3_copyFrom 59 = .ok (.putfield 43, 3) := by decide +kernel
theorem dX3_copyFrom_62 : decode cX3_copyFrom 62 = .ok (.aload_n 1, 1) := by decide +kernel
theorem dX3_copyFrom_63 : decode cX3_copyFrom 63 = .ok (.getfield 21, 3) := by decide +kernel
theorem dX3_copyFrom_66 : decode cX3_copyFrom 66 = .ok (.iconst 0, 1) := by decide +kernel
theorem dX3_copyFrom_67 : decode cX3_copyFrom 67 = .ok (.aload_n 0, 1) := by decide +kernel
theorem dX3_copyFrom_68 : decode cX3_copyFrom 68 = .ok (.getfield 21, 3) := by decide +kernel
theorem dX3_copyFrom_71 : decode cX3_copyFrom 71 = .ok (.iconst 0, 1) := by decide +kernel
theorem dX3_copyFrom_72 : decode cX3_copyFrom 72 = .ok (.iconst 4, 1) := by decide +kernel
theorem dX3_copyFrom_73 : decode cX3_copyFrom 73 = .ok (.invokestatic 37, 3) := by decide +kernel
theorem dX3_copyFrom_76 : decode cX3_copyFrom 76 = .ok (.aload_n 1, 1) := by decide +kernel
theorem dX3_copyFrom_77 : decode cX3_copyFrom 77 = .ok (.getfield 24, 3) := by decide +kernel
theorem dX3_copyFrom_80 : decode cX3_copyFrom 80 = .ok (.iconst 0, 1) := by decide +kernel
theorem dX3_copyFrom_81 : decode cX3_copyFrom 81 = .ok (.aload_n 0, 1) := by decide +kernel
theorem dX3_copyFrom_82 : decode cX3_copyFrom 82 = .ok (.getfield 24, 3) := by decide +kernel
theorem dX3_copyFrom_85 : decode cX3_copyFrom 85 = .ok (.iconst 0, 1) := by decide +kernel
theorem dX3_copyFrom_86 : decode cX3_copyFrom 86 = .ok (.iconst 4, 1) := by decide +kernel
theorem dX3_copyFrom_87 : decode cX3_copyFrom 87 = .ok (.invokestatic 37, 3) := by decide +kernel
theorem dX3_copyFrom_90 : decode cX3_copyFrom 90 = .ok (.aload_n 1, 1) := by decide +kernel
theorem dX3_copyFrom_91 : decode cX3_copyFrom 91 = .ok (.getfield 27, 3) := by decide +kernel
theorem dX3_copyFrom_94 : decode cX3_copyFrom 94 = .ok (.iconst 0, 1) := by decide +kernel
theorem dX3_copyFrom_95 : decode cX3_copyFrom 95 = .ok (.aload_n 0, 1) := by decide +kernel
theorem dX3_copyFrom_96 : decode cX3_copyFrom 96 = .ok (.getfield 27, 3) := by decide +kernel
theorem dX3_copyFrom_99 : decode cX3_copyFrom 99 = .ok (.iconst 0, 1) := by decide +kernel
theorem dX3_copyFrom_100 : decode cX3_copyFrom 100 = .ok (.bipush 6, 2) := by decide +kernel
theorem dX3_copyFrom_102 : decode cX3_copyFrom 102 = .ok (.invokestatic 37, 3) := by decide +kernel
theorem dX3_copyFrom_105 : decode cX3_copyFrom 105 = .ok (.aload_n 1, 1) := by decide +kernel
theorem dX3_copyFrom_106 : decode cX3_copyFrom 106 = .ok (.getfield 30, 3) := by decide +kernel
theorem dX3_copyFrom_109 : decode cX3_copyFrom 109 = .ok (.iconst 0, 1) := by decide +kernel
theorem dX3_copyFrom_110 : decode cX3_copyFrom 110 = .ok (.aload_n 0, 1) := by decide +kernel
theorem dX3_copyFrom_111 : decode cX3_copyFrom 111 = .ok (.getfield 30, 3) := by decide +kernel
theorem dX3_copyFrom_114 : decode cX3_copyFrom 114 = .ok (.iconst 0, 1) := by decide +kernel
theorem dX3_copyFrom_115 : decode cX3_copyFrom 115 = .ok (.bipush 8, 2) := by decide +kernel
theorem dX3_copyFrom_117 : decode cX3_copyFrom 117 = .ok (.invokestatic 37, 3) := by decide +kernel
theorem dX3_copyFrom_120 : decode cX3_copyFrom 120 = .ok (.return_, 1) := by decide +kernel
theorem dX3_hasGroup_0 : decode cX3_hasGroup 0 = .ok (.iload_n 1, 1) := by decide +kernel
theorem dX3_hasGroup_1 : decode cX3_hasGroup 1 = .ok (.ifCond .lt 15, 3) := by decide +kernel
theorem dX3_hasGroup_4 : decode cX3_hasGroup 4 = .ok (.iload_n 1, 1) := by decide +kernel
theorem dX3_hasGroup_5 : decode cX3_hasGroup 5 = .ok (.aload_n 0, 1) := by decide +kernel
theorem dX3_hasGroup_6 : decode cX3_hasGroup 6 = .ok (.getfield 33, 3) := by decide +kernel
theorem dX3_hasGroup_9 : decode cX3_hasGroup 9 = .ok (.if_icmp .ge 7, 3) := by decide +kernel
theorem dX3_hasGroup_12 : decode cX3_hasGroup 12 = .ok (.iconst 1, 1) := by decide +kernel
theorem dX3_hasGroup_13 : decode cX3_hasGroup 13 = .ok (.goto 4, 3) := by decide +kernel
theorem dX3_hasGroup_16 : decode cX3_hasGroup 16 = .ok (.iconst 0, 1) := by decide +kernel
theorem dX3_hasGroup_17 : decode cX3_hasGroup 17 = .ok (.ireturn, 1) := by decide +kernel
theorem dX3_hasCamp_0 : decode cX3_hasCamp 0 = .ok (.iload_n 1, 1) := by decide +kernel
theorem dX3_hasCamp_1 : decode cX3_hasCamp 1 = .ok (.ifCond .lt 15, 3) := by decide +kernel
theorem dX3_hasCamp_4 : decode cX3_hasCamp 4 = .ok (.iload_n 1, 1) := by decide +kernel
theorem dX3_hasCamp_5 : decode cX3_hasCamp 5 = .ok (.aload_n 0, 1) := by decide +kernel
theorem dX3_hasCamp_6 : decode cX3_hasCamp 6 = .ok (.getfield 43, 3) := by decide +kernel
theorem dX3_hasCamp_9 : decode cX3_hasCamp 9 = .ok (.if_icmp .ge 7, 3) := by decide +kernel
theorem dX3_hasCamp_12 : decode cX3_hasCamp 12 = .ok (.iconst 1, 1) := by decide +kernel
theorem dX3_hasCamp_13 : decode cX3_hasCamp 13 = .ok (.goto 4, 3) := by decide +kernel
theorem dX3_hasCamp_16 : decode cX3_hasCamp 16 = .ok (.iconst 0, 1) := by decide +kernel
theorem dX3_hasCamp_17 : decode cX3_hasCamp 17 = .ok (.ireturn, 1) := by decide +kernel
theorem dX3_addGroup_0 : decode cX3_addGroup 0 = .ok (.aload_n 0, 1) := by decide +kernel
theorem dX3_addGroup_1 : decode cX3_addGroup 1 = .ok (.getfield 33, 3) := by decide +kernel
theorem dX3_addGroup_4 : decode cX3_addGroup 4 = .ok (.bipush 6, 2) := by decide +kernel
theorem dX3_addGroup_6 : decode cX3_addGroup 6 = .ok (.if_icmp .ge 33, 3) := by decide +kernel
theorem dX3_addGroup_9 : decode cX3_addGroup 9 = .ok (.aload_n 0, 1) := by decide +kernel
theorem dX3_addGroup_10 : decode cX3_addGroup 10 = .ok (.getfield 9, 3) := by decide +kernel
theorem dX3_addGroup_13 : decode cX3_addGroup 13 = .ok (.aload_n 0, 1) := by decide +kernel
theorem dX3_addGroup_14 : decode cX3_addGroup 14 = .ok (.getfield 33, 3) := by decide +kernel
theorem dX3_addGroup_17 : decode cX3_addGroup 17 = .ok (.iload_n 1, 1) := by decide +kernel
theorem dX3_addGroup_18 : decode cX3_addGroup 18 = .ok (.iastore, 1) := by decide +kernel
theorem dX3_addGroup_19 : decode cX3_addGroup 19 = .ok (.aload_n 0, 1) := by decide +kernel
theorem dX3_addGroup_20 : decode cX3_addGroup 20 = .ok (.getfield 15, 3) := by decide +kernel
theorem dX3_addGroup_23 : decode cX3_addGroup 23 = .ok (.aload_n 0, 1) := by decide +kernel
theorem dX3_addGroup_24 : decode cX3_addGroup 24 = .ok (.getfield 33, 3) := by decide +kernel
theorem dX3_addGroup_27 : decode cX3_addGroup 27 = .ok (.iload_n 2, 1) := by decide +kernel
theorem dX3_addGroup_28 : decode cX3_addGroup 28 = .ok (.iastore, 1) := by decide +kernel
theorem dX3_addGroup_29 : decode cX3_addGroup 29 = .ok (.aload_n 0, 1) := by decide +kernel
theorem dX3_addGroup_30 : decode cX3_addGroup 30 = .ok (.dup, 1) := by decide +kernel
theorem dX3_addGroup_31 : decode cX3_addGroup 31 = .ok (.getfield 33, 3) := by decide +kernel
theorem dX3_addGroup_34 : decode cX3_addGroup 34 = .ok (.iconst 1, 1) := by decide +kernel
theorem dX3_addGroup_35 : decode cX3_addGroup 35 = .ok (.iadd, 1) := by decide +kernel
theorem dX3_addGroup_36 : decode cX3_addGroup 36 = .ok (.putfield 33, 3) := by decide +kernel
theorem dX3_addGroup_39 : decode cX3_addGroup 39 = .ok (.return_, 1) := by decide +kernel
theorem dX3_addCamp_0 : decode cX3_addCamp 0 = .ok (.aload_n 0, 1) := by decide +kernel
theorem dX3_addCamp_1 : decode cX3_addCamp 1 = .ok (.getfield 43, 3) := by decide +kernel
theorem dX3_addCamp_4 : decode cX3_addCamp 4 = .ok (.iconst 4, 1) := by decide +kernel
theorem dX3_addCamp_5 : decode cX3_addCamp 5 = .ok (.if_icmp .ge 33, 3) := by decide +kernel
theorem dX3_addCamp_8 : decode cX3_addCamp 8 = .ok (.aload_n 0, 1) := by decide +kernel
theorem dX3_addCamp_9 : decode cX3_addCamp 9 = .ok (.getfield 21, 3) := by decide +kernel
theorem dX3_addCamp_12 : decode cX3_addCamp 12 = .ok (.aload_n 0, 1) := by decide +kernel
theorem dX3_addCamp_13 : decode cX3_addCamp 13 = .ok (.getfield 43, 3) := by decide +kernel
theorem dX3_addCamp_16 : decode cX3_addCamp 16 = .ok (.iload_n 1, 1) := by decide +kernel
theorem dX3_addCamp_17 : decode cX3_addCamp 17 = .ok (.iastore, 1) := by decide +kernel
theorem dX3_addCamp_18 : decode cX3_addCamp 18 = .ok (.aload_n 0, 1) := by decide +kernel
theorem dX3_addCamp_19 : decode cX3_addCamp 19 = .ok (.getfield 24, 3) := by decide +kernel
theorem dX3_addCamp_22 : decode cX3_addCamp 22 = .ok (.aload_n 0, 1) := by decide +kernel
theorem dX3_addCamp_23 : decode cX3_addCamp 23 = .ok (.getfield 43, 3) := by decide +kernel
theorem dX3_addCamp_26 : decode cX3_addCamp 26 = .ok (.iload_n 2, 1) := by decide +kernel
theorem dX3_addCamp_27 : decode cX3_addCamp 27 = .ok (.iastore, 1) := by decide +kernel
theorem dX3_addCamp_28 : decode cX3_addCamp 28 = .ok (.aload_n 0, 1) := by decide +kernel
theorem dX3_addCamp_29 : decode cX3_addCamp 29 = .ok (.dup, 1) := by decide +kernel
theorem dX3_addCamp_30 : decode cX3_addCamp 30 = .ok (.getfield 43, 3) := by decide +kernel
theorem dX3_addCamp_33 : decode cX3_addCamp 33 = .ok (.iconst 1, 1) := by decide +kernel
theorem dX3_addCamp_34 : decode cX3_addCamp 34 = .ok (.iadd, 1) := by decide +kernel
theorem dX3_addCamp_35 : decode cX3_addCamp 35 = .ok (.putfield 43, 3) := by decide +kernel
theorem dX3_addCamp_38 : decode cX3_addCamp 38 = .ok (.return_, 1) := by decide +kernel
theorem dX3_dropCamp_0 : decode cX3_dropCamp 0 = .ok (.iload_n 1, 1) := by decide +kernel
theorem dX3_dropCamp_1 : decode cX3_dropCamp 1 = .ok (.istore_n 2, 1) := by decide +kernel
theorem dX3_dropCamp_2 : decode cX3_dropCamp 2 = .ok (.iload_n 2, 1) := by decide +kernel
theorem dX3_dropCamp_3 : decode cX3_dropCamp 3 = .ok (.aload_n 0, 1) := by decide +kernel
theorem dX3_dropCamp_4 : decode cX3_dropCamp 4 = .ok (.getfield 43, 3) := by decide +kernel
theorem dX3_dropCamp_7 : decode cX3_dropCamp 7 = .ok (.iconst 1, 1) := by decide +kernel
theorem dX3_dropCamp_8 : decode cX3_dropCamp 8 = .ok (.isub, 1) := by decide +kernel
theorem dX3_dropCamp_9 : decode cX3_dropCamp 9 = .ok (.if_icmp .ge 37, 3) := by decide +kernel
theorem dX3_dropCamp_12 : decode cX3_dropCamp 12 = .ok (.aload_n 0, 1) := by decide +kernel
theorem dX3_dropCamp_13 : decode cX3_dropCamp 13 = .ok (.getfield 21, 3) := by decide +kernel
theorem dX3_dropCamp_16 : decode cX3_dropCamp 16 = .ok (.iload_n 2, 1) := by decide +kernel
theorem dX3_dropCamp_17 : decode cX3_dropCamp 17 = .ok (.aload_n 0, 1) := by decide +kernel
theorem dX3_dropCamp_18 : decode cX3_dropCamp 18 = .ok (.getfield 21, 3) := by decide +kernel
theorem dX3_dropCamp_21 : decode cX3_dropCamp 21 = .ok (.iload_n 2, 1) := by decide +kernel
theorem dX3_dropCamp_22 : decode cX3_dropCamp 22 = .ok (.iconst 1, 1) := by decide +kernel
theorem dX3_dropCamp_23 : decode cX3_dropCamp 23 = .ok (.iadd, 1) := by decide +kernel
theorem dX3_dropCamp_24 : decode cX3_dropCamp 24 = .ok (.iaload, 1) := by decide +kernel
theorem dX3_dropCamp_25 : decode cX3_dropCamp 25 = .ok (.iastore, 1) := by decide +kernel
theorem dX3_dropCamp_26 : decode cX3_dropCamp 26 = .ok (.aload_n 0, 1) := by decide +kernel
theorem dX3_dropCamp_27 : decode cX3_dropCamp 27 = .ok (.getfield 24, 3) := by decide +kernel
theorem dX3_dropCamp_30 : decode cX3_dropCamp 30 = .ok (.iload_n 2, 1) := by decide +kernel
theorem dX3_dropCamp_31 : decode cX3_dropCamp 31 = .ok (.aload_n 0, 1) := by decide +kernel
theorem dX3_dropCamp_32 : decode cX3_dropCamp 32 = .ok (.getfield 24, 3) := by decide +kernel
theorem dX3_dropCamp_35 : decode cX3_dropCamp 35 = .ok (.iload_n 2, 1) := by decide +kernel
theorem dX3_dropCamp_36 : decode cX3_dropCamp 36 = .ok (.iconst 1, 1) := by decide +kernel
theorem dX3_dropCamp_37 : decode cX3_dropCamp 37 = .ok (.iadd, 1) := by decide +kernel
theorem dX3_dropCamp_38 : decode cX3_dropCamp 38 = .ok (.iaload, 1) := by decide +kernel
theorem dX3_dropCamp_39 : decode cX3_dropCamp 39 = .ok (.iastore, 1) := by decide +kernel
theorem dX3_dropCamp_40 : decode cX3_dropCamp 40 = .ok (.iinc 2 1, 3) := by decide +kernel
theorem dX3_dropCamp_43 : decode cX3_dropCamp 43 = .ok (.goto (-41), 3) := by decide +kernel
theorem dX3_dropCamp_46 : decode cX3_dropCamp 46 = .ok (.aload_n 0, 1) := by decide +kernel
theorem dX3_dropCamp_47 : decode cX3_dropCamp 47 = .ok (.dup, 1) := by decide +kernel
theorem dX3_dropCamp_48 : decode cX3_dropCamp 48 = .ok (.getfield 43, 3) := by decide +kernel
theorem dX3_dropCamp_51 : decode cX3_dropCamp 51 = .ok (.iconst 1, 1) := by decide +kernel
theorem dX3_dropCamp_52 : decode cX3_dropCamp 52 = .ok (.isub, 1) := by decide +kernel
theorem dX3_dropCamp_53 : decode cX3_dropCamp 53 = .ok (.putfield 43, 3) := by decide +kernel
theorem dX3_dropCamp_56 : decode cX3_dropCamp 56 = .ok (.return_, 1) := by decide +kernel
theorem dX3_countOthers_0 : decode cX3_countOthers 0 = .ok (.iconst 0, 1) := by decide +kernel
theorem dX3_countOthers_1 : decode cX3_countOthers 1 = .ok (.istore 5, 2) := by decide +kernel
theorem dX3_countOthers_3 : decode cX3_countOthers 3 = .ok (.iload_n 2, 1) := by decide +kernel
theorem dX3_countOthers_4 : decode cX3_countOthers 4 = .ok (.istore 6, 2) := by decide +kernel
theorem dX3_countOthers_6 : decode cX3_countOthers 6 = .ok (.iload 6, 2) := by decide +kernel
theorem dX3_countOthers_8 : decode cX3_countOthers 8 = .ok (.iload_n 3, 1) := by decide +kernel
theorem dX3_countOthers_9 : decode cX3_countOthers 9 = .ok (.if_icmp .gt 29, 3) := by decide +kernel
theorem dX3_countOthers_12 : decode cX3_countOthers 12 = .ok (.aload_n 0, 1) := by decide +kernel
theorem dX3_countOthers_13 : decode cX3_countOthers 13 = .ok (.getfield 18, 3) := by decide +kernel
theorem dX3_countOthers_16 : decode cX3_countOthers 16 = .ok (.iload_n 1, 1) := by decide +kernel
theorem dX3_countOthers_17 : decode cX3_countOthers 17 = .ok (.bipush 70, 2) := by decide +kernel
theorem dX3_countOthers_19 : decode cX3_countOthers 19 = .ok (.imul, 1) := by decide +kernel
theorem dX3_countOthers_20 : decode cX3_countOthers 20 = .ok (.iload 6, 2) := by decide +kernel
theorem dX3_countOthers_22 : decode cX3_countOthers 22 = .ok (.iadd, 1) := by decide +kernel
theorem dX3_countOthers_23 : decode cX3_countOthers 23 = .ok (.iaload, 1) := by decide +kernel
theorem dX3_countOthers_24 : decode cX3_countOthers 24 = .ok (.iload 4, 2) := by decide +kernel
theorem dX3_countOthers_26 : decode cX3_countOthers 26 = .ok (.if_icmp .eq 6, 3) := by decide +kernel
theorem dX3_countOthers_29 : decode cX3_countOthers 29 = .ok (.iinc 5 1, 3) := by decide +kernel
theorem dX3_countOthers_32 : decode cX3_countOthers 32 = .ok (.iinc 6 1, 3) := by decide +kernel
theorem dX3_countOthers_35 : decode cX3_countOthers 35 = .ok (.goto (-29), 3) := by decide +kernel
theorem dX3_countOthers_38 : decode cX3_countOthers 38 = .ok (.iload 5, 2) := by decide +kernel
theorem dX3_countOthers_40 : decode cX3_countOthers 40 = .ok (.ireturn, 1) := by decide +kernel
theorem dX3_fillKinds_0 : decode cX3_fillKinds 0 = .ok (.iload_n 2, 1) := by decide +kernel
theorem dX3_fillKinds_1 : decode cX3_fillKinds 1 = .ok (.istore 5, 2) := by decide +kernel
theorem dX3_fillKinds_3 : decode cX3_fillKinds 3 = .ok (.iload 5, 2) := by decide +kernel
theorem dX3_fillKinds_5 : decode cX3_fillKinds 5 = .ok (.iload_n 3, 1) := by decide +kernel
theorem dX3_fillKinds_6 : decode cX3_fillKinds 6 = .ok (.if_icmp .gt 23, 3) := by decide +kernel
theorem dX3_fillKinds_9 : decode cX3_fillKinds 9 = .ok (.aload_n 0, 1) := by decide +kernel
theorem dX3_fillKinds_10 : decode cX3_fillKinds 10 = .ok (.getfield 18, 3) := by decide +kernel
theorem dX3_fillKinds_13 : decode cX3_fillKinds 13 = .ok (.iload_n 1, 1) := by decide +kernel
theorem dX3_fillKinds_14 : decode cX3_fillKinds 14 = .ok (.bipush 70, 2) := by decide +kernel
theorem dX3_fillKinds_16 : decode cX3_fillKinds 16 = .ok (.imul, 1) := by decide +kernel
theorem dX3_fillKinds_17 : decode cX3_fillKinds 17 = .ok (.iload 5, 2) := by decide +kernel
theorem dX3_fillKinds_19 : decode cX3_fillKinds 19 = .ok (.iadd, 1) := by decide +kernel
theorem dX3_fillKinds_20 : decode cX3_fillKinds 20 = .ok (.iload 4, 2) := by decide +kernel
theorem dX3_fillKinds_22 : decode cX3_fillKinds 22 = .ok (.iastore, 1) := by decide +kernel
theorem dX3_fillKinds_23 : decode cX3_fillKinds 23 = .ok (.iinc 5 1, 3) := by decide +kernel
theorem dX3_fillKinds_26 : decode cX3_fillKinds 26 = .ok (.goto (-23), 3) := by decide +kernel
theorem dX3_fillKinds_29 : decode cX3_fillKinds 29 = .ok (.return_, 1) := by decide +kernel
theorem dX3_repeatKinds_0 : decode cX3_repeatKinds 0 = .ok (.iload_n 2, 1) := by decide +kernel
theorem dX3_repeatKinds_1 : decode cX3_repeatKinds 1 = .ok (.iload_n 3, 1) := by decide +kernel
theorem dX3_repeatKinds_2 : decode cX3_repeatKinds 2 = .ok (.iadd, 1) := by decide +kernel
theorem dX3_repeatKinds_3 : decode cX3_repeatKinds 3 = .ok (.istore 5, 2) := by decide +kernel
theorem dX3_repeatKinds_5 : decode cX3_repeatKinds 5 = .ok (.iload 5, 2) := by decide +kernel
theorem dX3_repeatKinds_7 : decode cX3_repeatKinds 7 = .ok (.iload 4, 2) := by decide +kernel
theorem dX3_repeatKinds_9 : decode cX3_repeatKinds 9 = .ok (.if_icmp .ge 35, 3) := by decide +kernel
theorem dX3_repeatKinds_12 : decode cX3_repeatKinds 12 = .ok (.aload_n 0, 1) := by decide +kernel
theorem dX3_repeatKinds_13 : decode cX3_repeatKinds 13 = .ok (.getfield 18, 3) := by decide +kernel
theorem dX3_repeatKinds_16 : decode cX3_repeatKinds 16 = .ok (.iload_n 1, 1) := by decide +kernel
theorem dX3_repeatKinds_17 : decode cX3_repeatKinds 17 = .ok (.bipush 70, 2) := by decide +kernel
theorem dX3_repeatKinds_19 : decode cX3_repeatKinds 19 = .ok (.imul, 1) := by decide +kernel
theorem dX3_repeatKinds_20 : decode cX3_repeatKinds 20 = .ok (.iload 5, 2) := by decide +kernel
theorem dX3_repeatKinds_22 : decode cX3_repeatKinds 22 = .ok (.iadd, 1) := by decide +kernel
theorem dX3_repeatKinds_23 : decode cX3_repeatKinds 23 = .ok (.aload_n 0, 1) := by decide +kernel
theorem dX3_repeatKinds_24 : decode cX3_repeatKinds 24 = .ok (.getfield 18, 3) := by decide +kernel
theorem dX3_repeatKinds_27 : decode cX3_repeatKinds 27 = .ok (.iload_n 1, 1) := by decide +kernel
theorem dX3_repeatKinds_28 : decode cX3_repeatKinds 28 = .ok (.bipush 70, 2) := by decide +kernel
theorem dX3_repeatKinds_30 : decode cX3_repeatKinds 30 = .ok (.imul, 1) := by decide +kernel
theorem dX3_repeatKinds_31 : decode cX3_repeatKinds 31 = .ok (.iload 5, 2) := by decide +kernel
theorem dX3_repeatKinds_33 : decode cX3_repeatKinds 33 = .ok (.iadd, 1) := by decide +kernel
theorem dX3_repeatKinds_34 : decode cX3_repeatKinds 34 = .ok (.iload_n 3, 1) := by decide +kernel
theorem dX3_repeatKinds_35 : decode cX3_repeatKinds 35 = .ok (.isub, 1) := by decide +kernel
theorem dX3_repeatKinds_36 : decode cX3_repeatKinds 36 = .ok (.iaload, 1) := by decide +kernel
theorem dX3_repeatKinds_37 : decode cX3_repeatKinds 37 = .ok (.iastore, 1) := by decide +kernel
theorem dX3_repeatKinds_38 : decode cX3_repeatKinds 38 = .ok (.iinc 5 1, 3) := by decide +kernel
theorem dX3_repeatKinds_41 : decode cX3_repeatKinds 41 = .ok (.goto (-36), 3) := by decide +kernel
theorem dX3_repeatKinds_44 : decode cX3_repeatKinds 44 = .ok (.return_, 1) := by decide +kernel

def isTold (b : Nat) : Prop := sh b = some (.inl (3, [none, some (b + 1), some (b + 2), some (b + 3), none, some (b + 4), some (b + 5), some (b + 6), some (b + 7)])) ∧ sh (b + 1) = some (.inr (.inl (0, 6))) ∧ sh (b + 2) = some (.inr (.inl (0, 6))) ∧ sh (b + 3) = some (.inr (.inl (0, 420))) ∧ sh (b + 4) = some (.inr (.inl (0, 4))) ∧ sh (b + 5) = some (.inr (.inl (0, 4))) ∧ sh (b + 6) = some (.inr (.inl (0, 6))) ∧ sh (b + 7) = some (.inr (.inl (0, 8)))
theorem isTold_4 : isTold 4 := ⟨rfl, rfl, rfl, rfl, rfl, rfl, rfl, rfl⟩
theorem isTold_19 : isTold 19 := ⟨rfl, rfl, rfl, rfl, rfl, rfl, rfl, rfl⟩
/-- the j-th of the past -/
def pastB (j : Nat) : Nat := 52 + 8 * j
theorem isTold_past {j : Nat} (h : j < 8) : isTold (pastB j) := by
  unfold pastB
  rcases (show j = 0 ∨ j = 1 ∨ j = 2 ∨ j = 3 ∨ j = 4 ∨ j = 5 ∨ j = 6 ∨ j = 7 by omega) with rfl | rfl | rfl | rfl | rfl | rfl | rfl | rfl <;> exact ⟨rfl, rfl, rfl, rfl, rfl, rfl, rfl, rfl⟩
/-- places lo to hi-1 of a row hold v -/
def fillR (f : Nat → Int32) (lo hi : Nat) (v : Int32) : Nat → Int32 := fun j => if lo ≤ j ∧ j < hi then v else f j
theorem fillR_0 (f : Nat → Int32) (lo : Nat) (v : Int32) : fillR f lo lo v = f := by
  funext j; simp only [fillR]; rw [if_neg (by omega)]
theorem fillR_s (f : Nat → Int32) {lo hi : Nat} (v : Int32) (h : lo ≤ hi) : upd (fillR f lo hi v) hi v = fillR f lo (hi + 1) v := by
  funext j; simp only [fillR, upd]
  by_cases h1 : j = hi
  · rw [if_pos h1, if_pos (by omega)]
  · rw [if_neg h1]
    by_cases h2 : lo ≤ j ∧ j < hi
    · rw [if_pos h2, if_pos (by omega)]
    · rw [if_neg h2, if_neg (by omega)]
theorem upR_upR (σ : mS) (a : Nat) (f g : Nat → Int32) : upR (upR σ a f) a g = upR σ a g := by
  funext b; simp only [upR]; split <;> rfl
theorem upR_self (σ : mS) (a : Nat) : upR σ a (σ a) = σ := by
  funext b; simp only [upR]; split
  · rename_i h; rw [h]
  · rfl
section TOLD
variable {G : mG} {d b : Nat} {σ : mS}
theorem v_hasGroup (hb : isTold b) (g : Int32) : mV G mX3_hasGroup d [.ref b, .int g] σ (some (.int (bI (decide (nI 0 ≤ g) && decide (g < σ b 0))))) σ := by
  obtain ⟨s0, s1, s2, s3, s4, s5, s6, s7⟩ := hb
  refine mV_of fun Q hQ => ?_
  refine F_iload_n dX3_hasGroup_0 rfl ?_
  refine F_if_lt (tgt := 16) dX3_hasGroup_1 rfl (fun c1 => ?_) (fun c1 => ?_)
  · refine F_iconst (v := nI 0) dX3_hasGroup_16 rfl ?_
    refine F_zret dX3_hasGroup_17 rfl (by first | exact Or.inl rfl | exact Or.inr rfl | exact bI_01 _) ?_
    clear s0 s1 s2 s3 s4 s5 s6 s7
    first | exact Qb1 hQ (by simp_all [nI_0]) | exact Qb0 hQ (by simp only [nI_0, Bool.and_eq_false_iff, decide_eq_false_iff_not, Int32.not_le, Int32.not_lt]; first | exact Or.inl c1 | exact Or.inr (by assumption))
  · refine F_iload_n dX3_hasGroup_4 rfl ?_
    refine F_aload_n dX3_hasGroup_5 rfl ?_
    refine F_geti dX3_hasGroup_6 rfl rfl (by first | assumption | rfl) rfl ?_
    refine F_icmp_ge (tgt := 16) dX3_hasGroup_9 rfl (fun c9 => ?_) (fun c9 => ?_)
    · refine F_iconst (v := nI 0) dX3_hasGroup_16 rfl ?_
      refine F_zret dX3_hasGroup_17 rfl (by first | exact Or.inl rfl | exact Or.inr rfl | exact bI_01 _) ?_
      clear s0 s1 s2 s3 s4 s5 s6 s7
      first | exact Qb1 hQ (by simp_all [nI_0]) | exact Qb0 hQ (by simp only [nI_0, Bool.and_eq_false_iff, decide_eq_false_iff_not, Int32.not_le, Int32.not_lt]; first | exact Or.inl c1 | exact Or.inr (by assumption))
    · refine F_iconst (v := nI 1) dX3_hasGroup_12 rfl ?_
      refine F_goto (tgt := 17) dX3_hasGroup_13 rfl ?_
      refine F_zret dX3_hasGroup_17 rfl (by first | exact Or.inl rfl | exact Or.inr rfl | exact bI_01 _) ?_
      clear s0 s1 s2 s3 s4 s5 s6 s7
      first | exact Qb1 hQ (by simp_all [nI_0]) | exact Qb0 hQ (by simp only [nI_0, Bool.and_eq_false_iff, decide_eq_false_iff_not, Int32.not_le, Int32.not_lt]; first | exact Or.inl c1 | exact Or.inr (by assumption))

theorem v_hasCamp (hb : isTold b) (g : Int32) : mV G mX3_hasCamp d [.ref b, .int g] σ (some (.int (bI (decide (nI 0 ≤ g) && decide (g < σ b 4))))) σ := by
  obtain ⟨s0, s1, s2, s3, s4, s5, s6, s7⟩ := hb
  refine mV_of fun Q hQ => ?_
  refine F_iload_n dX3_hasCamp_0 rfl ?_
  refine F_if_lt (tgt := 16) dX3_hasCamp_1 rfl (fun c1 => ?_) (fun c1 => ?_)
  · refine F_iconst (v := nI 0) dX3_hasCamp_16 rfl ?_
    refine F_zret dX3_hasCamp_17 rfl (by first | exact Or.inl rfl | exact Or.inr rfl | exact bI_01 _) ?_
    clear s0 s1 s2 s3 s4 s5 s6 s7
    first | exact Qb1 hQ (by simp_all [nI_0]) | exact Qb0 hQ (by simp only [nI_0, Bool.and_eq_false_iff, decide_eq_false_iff_not, Int32.not_le, Int32.not_lt]; first | exact Or.inl c1 | exact Or.inr (by assumption))
  · refine F_iload_n dX3_hasCamp_4 rfl ?_
    refine F_aload_n dX3_hasCamp_5 rfl ?_
    refine F_geti dX3_hasCamp_6 rfl rfl (by first | assumption | rfl) rfl ?_
    refine F_icmp_ge (tgt := 16) dX3_hasCamp_9 rfl (fun c9 => ?_) (fun c9 => ?_)
    · refine F_iconst (v := nI 0) dX3_hasCamp_16 rfl ?_
      refine F_zret dX3_hasCamp_17 rfl (by first | exact Or.inl rfl | exact Or.inr rfl | exact bI_01 _) ?_
      clear s0 s1 s2 s3 s4 s5 s6 s7
      first | exact Qb1 hQ (by simp_all [nI_0]) | exact Qb0 hQ (by simp only [nI_0, Bool.and_eq_false_iff, decide_eq_false_iff_not, Int32.not_le, Int32.not_lt]; first | exact Or.inl c1 | exact Or.inr (by assumption))
    · refine F_iconst (v := nI 1) dX3_hasCamp_12 rfl ?_
      refine F_goto (tgt := 17) dX3_hasCamp_13 rfl ?_
      refine F_zret dX3_hasCamp_17 rfl (by first | exact Or.inl rfl | exact Or.inr rfl | exact bI_01 _) ?_
      clear s0 s1 s2 s3 s4 s5 s6 s7
      first | exact Qb1 hQ (by simp_all [nI_0]) | exact Qb0 hQ (by simp only [nI_0, Bool.and_eq_false_iff, decide_eq_false_iff_not, Int32.not_le, Int32.not_lt]; first | exact Or.inl c1 | exact Or.inr (by assumption))

theorem v_addGroup (hb : isTold b) (x y : Int32) {n : Nat} (hn : σ b 0 = nI n) (h6 : n < 6) : mV G mX3_addGroup d [.ref b, .int x, .int y] σ none (up (up (up σ (b + 1) n x) (b + 2) n y) b 0 (nI (n + 1))) := by
  obtain ⟨s0, s1, s2, s3, s4, s5, s6, s7⟩ := hb
  refine mV_of fun Q hQ => ?_
  refine F_aload_n dX3_addGroup_0 rfl ?_
  refine F_getE (v := nI n) dX3_addGroup_1 rfl rfl (by first | assumption | rfl) rfl (by simp [up, upR, hn]) ?_
  refine F_bipush (v := nI 6) dX3_addGroup_4 rfl ?_
  refine F_icmp_geN (tgt := 39) dX3_addGroup_6 rfl (by omega) (by omega) (fun c6 => ?_) (fun c6 => ?_)
  · exact absurd c6 (by omega)
  · refine F_aload_n dX3_addGroup_9 rfl ?_
    refine F_getr dX3_addGroup_10 rfl rfl (by first | assumption | rfl) rfl ?_
    refine F_aload_n dX3_addGroup_13 rfl ?_
    refine F_getE (v := nI n) dX3_addGroup_14 rfl rfl (by first | assumption | rfl) rfl (by simp [up, upR, hn]) ?_
    refine F_iload_n dX3_addGroup_17 rfl ?_
    refine F_iast dX3_addGroup_18 (by first | assumption | rfl) (by decide) (by omega) ?_
    refine F_aload_n dX3_addGroup_19 rfl ?_
    refine F_getr dX3_addGroup_20 rfl rfl (by first | assumption | rfl) rfl ?_
    refine F_aload_n dX3_addGroup_23 rfl ?_
    refine F_getE (v := nI n) dX3_addGroup_24 rfl rfl (by first | assumption | rfl) rfl (by simp [up, upR, hn]) ?_
    refine F_iload_n dX3_addGroup_27 rfl ?_
    refine F_iast dX3_addGroup_28 (by first | assumption | rfl) (by decide) (by omega) ?_
    refine F_aload_n dX3_addGroup_29 rfl ?_
    refine F_dup dX3_addGroup_30 rfl ?_
    refine F_getE (v := nI n) dX3_addGroup_31 rfl rfl (by first | assumption | rfl) rfl (by simp [up, upR, hn]) ?_
    refine F_iconst (v := nI 1) dX3_addGroup_34 rfl ?_
    refine F_iaddN dX3_addGroup_35 ?_
    refine F_put dX3_addGroup_36 rfl rfl (by first | assumption | rfl) rfl rfl rfl rfl ?_
    refine F_vret dX3_addGroup_39 rfl ?_
    exact hQ

theorem v_addCamp (hb : isTold b) (x y : Int32) {n : Nat} (hn : σ b 4 = nI n) (h6 : n < 4) : mV G mX3_addCamp d [.ref b, .int x, .int y] σ none (up (up (up σ (b + 4) n x) (b + 5) n y) b 4 (nI (n + 1))) := by
  obtain ⟨s0, s1, s2, s3, s4, s5, s6, s7⟩ := hb
  refine mV_of fun Q hQ => ?_
  refine F_aload_n dX3_addCamp_0 rfl ?_
  refine F_getE (v := nI n) dX3_addCamp_1 rfl rfl (by first | assumption | rfl) rfl (by simp [up, upR, hn]) ?_
  refine F_iconst (v := nI 4) dX3_addCamp_4 rfl ?_
  refine F_icmp_geN (tgt := 38) dX3_addCamp_5 rfl (by omega) (by omega) (fun c5 => ?_) (fun c5 => ?_)
  · exact absurd c5 (by omega)
  · refine F_aload_n dX3_addCamp_8 rfl ?_
    refine F_getr dX3_addCamp_9 rfl rfl (by first | assumption | rfl) rfl ?_
    refine F_aload_n dX3_addCamp_12 rfl ?_
    refine F_getE (v := nI n) dX3_addCamp_13 rfl rfl (by first | assumption | rfl) rfl (by simp [up, upR, hn]) ?_
    refine F_iload_n dX3_addCamp_16 rfl ?_
    refine F_iast dX3_addCamp_17 (by first | assumption | rfl) (by decide) (by omega) ?_
    refine F_aload_n dX3_addCamp_18 rfl ?_
    refine F_getr dX3_addCamp_19 rfl rfl (by first | assumption | rfl) rfl ?_
    refine F_aload_n dX3_addCamp_22 rfl ?_
    refine F_getE (v := nI n) dX3_addCamp_23 rfl rfl (by first | assumption | rfl) rfl (by simp [up, upR, hn]) ?_
    refine F_iload_n dX3_addCamp_26 rfl ?_
    refine F_iast dX3_addCamp_27 (by first | assumption | rfl) (by decide) (by omega) ?_
    refine F_aload_n dX3_addCamp_28 rfl ?_
    refine F_dup dX3_addCamp_29 rfl ?_
    refine F_getE (v := nI n) dX3_addCamp_30 rfl rfl (by first | assumption | rfl) rfl (by simp [up, upR, hn]) ?_
    refine F_iconst (v := nI 1) dX3_addCamp_33 rfl ?_
    refine F_iaddN dX3_addCamp_34 ?_
    refine F_put dX3_addCamp_35 rfl rfl (by first | assumption | rfl) rfl rfl rfl rfl ?_
    refine F_vret dX3_addCamp_38 rfl ?_
    exact hQ

end TOLD
