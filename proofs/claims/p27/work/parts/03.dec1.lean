-- decode rows out of the printed list of the task
theorem dX2_unmetAhead_34 : decode cX2_unmetAhead 34 = .ok (.if_icmp .ne 17, 3) := by decide +kernel
theorem dX2_unmetAhead_37 : decode cX2_unmetAhead 37 = .ok (.aload 4, 2) := by decide +kernel
theorem dX2_unmetAhead_39 : decode cX2_unmetAhead 39 = .ok (.invokevirtual 66, 3) := by decide +kernel
theorem dX2_unmetAhead_42 : decode cX2_unmetAhead 42 = .ok (.ifCond .ne 9, 3) := by decide +kernel
theorem dX2_unmetAhead_45 : decode cX2_unmetAhead 45 = .ok (.iload_n 2, 1) := by decide +kernel
theorem dX2_unmetAhead_46 : decode cX2_unmetAhead 46 = .ok (.iconst 1, 1) := by decide +kernel
theorem dX2_unmetAhead_47 : decode cX2_unmetAhead 47 = .ok (.iload_n 3, 1) := by decide +kernel
theorem dX2_unmetAhead_48 : decode cX2_unmetAhead 48 = .ok (.ishl, 1) := by decide +kernel
theorem dX2_unmetAhead_49 : decode cX2_unmetAhead 49 = .ok (.ior, 1) := by decide +kernel
theorem dX2_unmetAhead_50 : decode cX2_unmetAhead 50 = .ok (.istore_n 2, 1) := by decide +kernel
theorem dX2_unmetAhead_51 : decode cX2_unmetAhead 51 = .ok (.iinc 3 1, 3) := by decide +kernel
theorem dX2_unmetAhead_54 : decode cX2_unmetAhead 54 = .ok (.goto (-50), 3) := by decide +kernel
theorem dX2_unmetAhead_57 : decode cX2_unmetAhead 57 = .ok (.iload_n 2, 1) := by decide +kernel
theorem dX2_unmetAhead_58 : decode cX2_unmetAhead 58 = .ok (.ireturn, 1) := by decide +kernel
theorem dX2_partsOfAll_0 : decode cX2_partsOfAll 0 = .ok (.iconst 0, 1) := by decide +kernel
theorem dX2_partsOfAll_1 : decode cX2_partsOfAll 1 = .ok (.istore_n 1, 1) := by decide +kernel
theorem dX2_partsOfAll_2 : decode cX2_partsOfAll 2 = .ok (.iconst 0, 1) := by decide +kernel
theorem dX2_partsOfAll_3 : decode cX2_partsOfAll 3 = .ok (.istore_n 2, 1) := by decide +kernel
theorem dX2_partsOfAll_4 : decode cX2_partsOfAll 4 = .ok (.iload_n 2, 1) := by decide +kernel
theorem dX2_partsOfAll_5 : decode cX2_partsOfAll 5 = .ok (.aload_n 0, 1) := by decide +kernel
theorem dX2_partsOfAll_6 : decode cX2_partsOfAll 6 = .ok (.getfield 24, 3) := by decide +kernel
theorem dX2_partsOfAll_9 : decode cX2_partsOfAll 9 = .ok (.if_icmp .ge 21, 3) := by decide +kernel
theorem dX2_partsOfAll_12 : decode cX2_partsOfAll 12 = .ok (.iload_n 1, 1) := by decide +kernel
theorem dX2_partsOfAll_13 : decode cX2_partsOfAll 13 = .ok (.aload_n 0, 1) := by decide +kernel
theorem dX2_partsOfAll_14 : decode cX2_partsOfAll 14 = .ok (.getfield 11, 3) := by decide +kernel
theorem dX2_partsOfAll_17 : decode cX2_partsOfAll 17 = .ok (.iload_n 2, 1) := by decide +kernel
theorem dX2_partsOfAll_18 : decode cX2_partsOfAll 18 = .ok (.aaload, 1) := by decide +kernel
theorem dX2_partsOfAll_19 : decode cX2_partsOfAll 19 = .ok (.getfield 80, 3) := by decide +kernel
theorem dX2_partsOfAll_22 : decode cX2_partsOfAll 22 = .ok (.iadd, 1) := by decide +kernel
theorem dX2_partsOfAll_23 : decode cX2_partsOfAll 23 = .ok (.istore_n 1, 1) := by decide +kernel
theorem dX2_partsOfAll_24 : decode cX2_partsOfAll 24 = .ok (.iinc 2 1, 3) := by decide +kernel
theorem dX2_partsOfAll_27 : decode cX2_partsOfAll 27 = .ok (.goto (-23), 3) := by decide +kernel
theorem dX2_partsOfAll_30 : decode cX2_partsOfAll 30 = .ok (.iload_n 1, 1) := by decide +kernel
theorem dX2_partsOfAll_31 : decode cX2_partsOfAll 31 = .ok (.ireturn, 1) := by decide +kernel
theorem dX2_approvedOfAll_0 : decode cX2_approvedOfAll 0 = .ok (.iconst 0, 1) := by decide +kernel
theorem dX2_approvedOfAll_1 : decode cX2_approvedOfAll 1 = .ok (.istore_n 1, 1) := by decide +kernel
theorem dX2_approvedOfAll_2 : decode cX2_approvedOfAll 2 = .ok (.iconst 0, 1) := by decide +kernel
theorem dX2_approvedOfAll_3 : decode cX2_approvedOfAll 3 = .ok (.istore_n 2, 1) := by decide +kernel
theorem dX2_approvedOfAll_4 : decode cX2_approvedOfAll 4 = .ok (.iload_n 2, 1) := by decide +kernel
theorem dX2_approvedOfAll_5 : decode cX2_approvedOfAll 5 = .ok (.aload_n 0, 1) := by decide +kernel
theorem dX2_approvedOfAll_6 : decode cX2_approvedOfAll 6 = .ok (.getfield 24, 3) := by decide +kernel
theorem dX2_approvedOfAll_9 : decode cX2_approvedOfAll 9 = .ok (.if_icmp .ge 24, 3) := by decide +kernel
theorem dX2_approvedOfAll_12 : decode cX2_approvedOfAll 12 = .ok (.iload_n 1, 1) := by decide +kernel
theorem dX2_approvedOfAll_13 : decode cX2_approvedOfAll 13 = .ok (.aload_n 0, 1) := by decide +kernel
theorem dX2_approvedOfAll_14 : decode cX2_approvedOfAll 14 = .ok (.getfield 11, 3) := by decide +kernel
theorem dX2_approvedOfAll_17 : decode cX2_approvedOfAll 17 = .ok (.iload_n 2, 1) := by decide +kernel
theorem dX2_approvedOfAll_18 : decode cX2_approvedOfAll 18 = .ok (.aaload, 1) := by decide +kernel
theorem dX2_approvedOfAll_19 : decode cX2_approvedOfAll 19 = .ok (.getfield 83, 3) := by decide +kernel
theorem dX2_approvedOfAll_22 : decode cX2_approvedOfAll 22 = .ok (.invokestatic 86, 3) := by decide +kernel
theorem dX2_approvedOfAll_25 : decode cX2_approvedOfAll 25 = .ok (.iadd, 1) := by decide +kernel
theorem dX2_approvedOfAll_26 : decode cX2_approvedOfAll 26 = .ok (.istore_n 1, 1) := by decide +kernel
theorem dX2_approvedOfAll_27 : decode cX2_approvedOfAll 27 = .ok (.iinc 2 1, 3) := by decide +kernel
theorem dX2_approvedOfAll_30 : decode cX2_approvedOfAll 30 = .ok (.goto (-26), 3) := by decide +kernel
theorem dX2_approvedOfAll_33 : decode cX2_approvedOfAll 33 = .ok (.iload_n 1, 1) := by decide +kernel
theorem dX2_approvedOfAll_34 : decode cX2_approvedOfAll 34 = .ok (.ireturn, 1) := by decide +kernel
theorem dX2_addCondition_0 : decode cX2_addCondition 0 = .ok (.iload_n 1, 1) := by decide +kernel
theorem dX2_addCondition_1 : decode cX2_addCondition 1 = .ok (.iconst 0, 1) := by decide +kernel
theorem dX2_addCondition_2 : decode cX2_addCondition 2 = .ok (.iconst 2, 1) := by decide +kernel
theorem dX2_addCondition_3 : decode cX2_addCondition 3 = .ok (.invokestatic 48, 3) := by decide +kernel
theorem dX2_addCondition_6 : decode cX2_addCondition 6 = .ok (.ifCond .eq 37, 3) := by decide +kernel
theorem dX2_addCondition_9 : decode cX2_addCondition 9 = .ok (.iload_n 2, 1) := by decide +kernel
theorem dX2_addCondition_10 : decode cX2_addCondition 10 = .ok (.iconst 0, 1) := by decide +kernel
theorem dX2_addCondition_11 : decode cX2_addCondition 11 = .ok (.iconst 4, 1) := by decide +kernel
theorem dX2_addCondition_12 : decode cX2_addCondition 12 = .ok (.invokestatic 48, 3) := by decide +kernel
theorem dX2_addCondition_15 : decode cX2_addCondition 15 = .ok (.ifCond .eq 28, 3) := by decide +kernel
theorem dX2_addCondition_18 : decode cX2_addCondition 18 = .ok (.iload_n 3, 1) := by decide +kernel
theorem dX2_addCondition_19 : decode cX2_addCondition 19 = .ok (.iload_n 1, 1) := by decide +kernel
theorem dX2_addCondition_20 : decode cX2_addCondition 20 = .ok (.invokestatic 92, 3) := by decide +kernel
theorem dX2_addCondition_23 : decode cX2_addCondition 23 = .ok (.sipush 365, 3) := by decide +kernel
theorem dX2_addCondition_26 : decode cX2_addCondition 26 = .ok (.invokestatic 48, 3) := by decide +kernel
theorem dX2_addCondition_29 : decode cX2_addCondition 29 = .ok (.ifCond .eq 14, 3) := by decide +kernel
theorem dX2_addCondition_32 : decode cX2_addCondition 32 = .ok (.iload 4, 2) := by decide +kernel
theorem dX2_addCondition_34 : decode cX2_addCondition 34 = .ok (.iconst 1, 1) := by decide +kernel
theorem dX2_addCondition_35 : decode cX2_addCondition 35 = .ok (.bipush 6, 2) := by decide +kernel
theorem dX2_addCondition_37 : decode cX2_addCondition 37 = .ok (.invokestatic 48, 3) := by decide +kernel
theorem dX2_addCondition_40 : decode cX2_addCondition 40 = .ok (.ifCond .ne 6, 3) := by decide +kernel
theorem dX2_addCondition_43 : decode cX2_addCondition 43 = .ok (.ldc 95, 2) := by decide +kernel
theorem dX2_addCondition_45 : decode cX2_addCondition 45 = .ok (.ireturn, 1) := by decide +kernel
theorem dX2_addCondition_46 : decode cX2_addCondition 46 = .ok (.aload_n 0, 1) := by decide +kernel
theorem dX2_addCondition_47 : decode cX2_addCondition 47 = .ok (.iload_n 2, 1) := by decide +kernel
theorem dX2_addCondition_48 : decode cX2_addCondition 48 = .ok (.invokevirtual 52, 3) := by decide +kernel
theorem dX2_addCondition_51 : decode cX2_addCondition 51 = .ok (.ifCond .eq 6, 3) := by decide +kernel
theorem dX2_addCondition_54 : decode cX2_addCondition 54 = .ok (.ldc 96, 2) := by decide +kernel
theorem dX2_addCondition_56 : decode cX2_addCondition 56 = .ok (.ireturn, 1) := by decide +kernel
theorem dX2_addCondition_57 : decode cX2_addCondition 57 = .ok (.aload_n 0, 1) := by decide +kernel
theorem dX2_addCondition_58 : decode cX2_addCondition 58 = .ok (.getfield 24, 3) := by decide +kernel
theorem dX2_addCondition_61 : decode cX2_addCondition 61 = .ok (.bipush 10, 2) := by decide +kernel
theorem dX2_addCondition_63 : decode cX2_addCondition 63 = .ok (.if_icmp .lt 6, 3) := by decide +kernel
theorem dX2_addCondition_66 : decode cX2_addCondition 66 = .ok (.ldc 97, 2) := by decide +kernel
theorem dX2_addCondition_68 : decode cX2_addCondition 68 = .ok (.ireturn, 1) := by decide +kernel
theorem dX2_addCondition_69 : decode cX2_addCondition 69 = .ok (.aload_n 0, 1) := by decide +kernel
theorem dX2_addCondition_70 : decode cX2_addCondition 70 = .ok (.getfield 11, 3) := by decide +kernel
theorem dX2_addCondition_73 : decode cX2_addCondition 73 = .ok (.aload_n 0, 1) := by decide +kernel
theorem dX2_addCondition_74 : decode cX2_addCondition 74 = .ok (.getfield 24, 3) := by decide +kernel
theorem dX2_addCondition_77 : decode cX2_addCondition 77 = .ok (.aaload, 1) := by decide +kernel
theorem dX2_addCondition_78 : decode cX2_addCondition 78 = .ok (.iload_n 1, 1) := by decide +kernel
theorem dX2_addCondition_79 : decode cX2_addCondition 79 = .ok (.iload_n 2, 1) := by decide +kernel
theorem dX2_addCondition_80 : decode cX2_addCondition 80 = .ok (.iload_n 3, 1) := by decide +kernel
theorem dX2_addCondition_81 : decode cX2_addCondition 81 = .ok (.iload 4, 2) := by decide +kernel
theorem dX2_addCondition_83 : decode cX2_addCondition 83 = .ok (.invokevirtual 98, 3) := by decide +kernel
theorem dX2_addCondition_86 : decode cX2_addCondition 86 = .ok (.aload_n 0, 1) := by decide +kernel
theorem dX2_addCondition_87 : decode cX2_addCondition 87 = .ok (.dup, 1) := by decide +kernel
theorem dX2_addCondition_88 : decode cX2_addCondition 88 = .ok (.getfield 24, 3) := by decide +kernel
theorem dX2_addCondition_91 : decode cX2_addCondition 91 = .ok (.iconst 1, 1) := by decide +kernel
theorem dX2_addCondition_92 : decode cX2_addCondition 92 = .ok (.iadd, 1) := by decide +kernel
theorem dX2_addCondition_93 : decode cX2_addCondition 93 = .ok (.putfield 24, 3) := by decide +kernel
theorem dX2_addCondition_96 : decode cX2_addCondition 96 = .ok (.aload_n 0, 1) := by decide +kernel
theorem dX2_addCondition_97 : decode cX2_addCondition 97 = .ok (.getfield 24, 3) := by decide +kernel
theorem dX2_addCondition_100 : decode cX2_addCondition 100 = .ok (.iconst 1, 1) := by decide +kernel
theorem dX2_addCondition_101 : decode cX2_addCondition 101 = .ok (.isub, 1) := by decide +kernel
theorem dX2_addCondition_102 : decode cX2_addCondition 102 = .ok (.ireturn, 1) := by decide +kernel
theorem dX2_leastDays_0 : decode cX2_leastDays 0 = .ok (.iload_n 0, 1) := by decide +kernel
theorem dX2_leastDays_1 : decode cX2_leastDays 1 = .ok (.iconst 2, 1) := by decide +kernel
theorem dX2_leastDays_2 : decode cX2_leastDays 2 = .ok (.if_icmp .ne 7, 3) := by decide +kernel
theorem dX2_leastDays_5 : decode cX2_leastDays 5 = .ok (.iconst 1, 1) := by decide +kernel
theorem dX2_leastDays_6 : decode cX2_leastDays 6 = .ok (.goto 4, 3) := by decide +kernel
theorem dX2_leastDays_9 : decode cX2_leastDays 9 = .ok (.iconst 0, 1) := by decide +kernel
theorem dX2_leastDays_10 : decode cX2_leastDays 10 = .ok (.ireturn, 1) := by decide +kernel
theorem dX2_beginStage_0 : decode cX2_beginStage 0 = .ok (.iload_n 1, 1) := by decide +kernel
theorem dX2_beginStage_1 : decode cX2_beginStage 1 = .ok (.iconst 0, 1) := by decide +kernel
theorem dX2_beginStage_2 : decode cX2_beginStage 2 = .ok (.iconst 4, 1) := by decide +kernel
theorem dX2_beginStage_3 : decode cX2_beginStage 3 = .ok (.invokestatic 48, 3) := by decide +kernel
theorem dX2_beginStage_6 : decode cX2_beginStage 6 = .ok (.ifCond .ne 6, 3) := by decide +kernel
theorem dX2_beginStage_9 : decode cX2_beginStage 9 = .ok (.ldc 95, 2) := by decide +kernel
theorem dX2_beginStage_11 : decode cX2_beginStage 11 = .ok (.ireturn, 1) := by decide +kernel
theorem dX2_beginStage_12 : decode cX2_beginStage 12 = .ok (.aload_n 0, 1) := by decide +kernel
theorem dX2_beginStage_13 : decode cX2_beginStage 13 = .ok (.iload_n 1, 1) := by decide +kernel
theorem dX2_beginStage_14 : decode cX2_beginStage 14 = .ok (.invokevirtual 102, 3) := by decide +kernel
theorem dX2_beginStage_17 : decode cX2_beginStage 17 = .ok (.ifCond .ne 6, 3) := by decide +kernel
theorem dX2_beginStage_20 : decode cX2_beginStage 20 = .ok (.ldc 96, 2) := by decide +kernel
theorem dX2_beginStage_22 : decode cX2_beginStage 22 = .ok (.ireturn, 1) := by decide +kernel
theorem dX2_beginStage_23 : decode cX2_beginStage 23 = .ok (.aload_n 0, 1) := by decide +kernel
theorem dX2_beginStage_24 : decode cX2_beginStage 24 = .ok (.getfield 17, 3) := by decide +kernel
theorem dX2_beginStage_27 : decode cX2_beginStage 27 = .ok (.iload_n 1, 1) := by decide +kernel
theorem dX2_beginStage_28 : decode cX2_beginStage 28 = .ok (.aload_n 0, 1) := by decide +kernel
theorem dX2_beginStage_29 : decode cX2_beginStage 29 = .ok (.getfield 28, 3) := by decide +kernel
theorem dX2_beginStage_32 : decode cX2_beginStage 32 = .ok (.iastore, 1) := by decide +kernel
theorem dX2_beginStage_33 : decode cX2_beginStage 33 = .ok (.aload_n 0, 1) := by decide +kernel
theorem dX2_beginStage_34 : decode cX2_beginStage 34 = .ok (.iload_n 1, 1) := by decide +kernel
theorem dX2_beginStage_35 : decode cX2_beginStage 35 = .ok (.invokevirtual 105, 3) := by decide +kernel
theorem dX2_beginStage_38 : decode cX2_beginStage 38 = .ok (.istore_n 2, 1) := by decide +kernel
theorem dX2_beginStage_39 : decode cX2_beginStage 39 = .ok (.iconst 0, 1) := by decide +kernel
theorem dX2_beginStage_40 : decode cX2_beginStage 40 = .ok (.istore_n 3, 1) := by decide +kernel
theorem dX2_beginStage_41 : decode cX2_beginStage 41 = .ok (.iload_n 3, 1) := by decide +kernel
theorem dX2_beginStage_42 : decode cX2_beginStage 42 = .ok (.aload_n 0, 1) := by decide +kernel
theorem dX2_beginStage_43 : decode cX2_beginStage 43 = .ok (.getfield 24, 3) := by decide +kernel
theorem dX2_beginStage_46 : decode cX2_beginStage 46 = .ok (.if_icmp .ge 27, 3) := by decide +kernel
theorem dX2_beginStage_49 : decode cX2_beginStage 49 = .ok (.iload_n 2, 1) := by decide +kernel
theorem dX2_beginStage_50 : decode cX2_beginStage 50 = .ok (.iconst 1, 1) := by decide +kernel
theorem dX2_beginStage_51 : decode cX2_beginStage 51 = .ok (.iload_n 3, 1) := by decide +kernel
theorem dX2_beginStage_52 : decode cX2_beginStage 52 = .ok (.ishl, 1) := by decide +kernel
theorem dX2_beginStage_53 : decode cX2_beginStage 53 = .ok (.iand, 1) := by decide +kernel
theorem dX2_beginStage_54 : decode cX2_beginStage 54 = .ok (.ifCond .eq 13, 3) := by decide +kernel
theorem dX2_beginStage_57 : decode cX2_beginStage 57 = .ok (.aload_n 0, 1) := by decide +kernel
theorem dX2_beginStage_58 : decode cX2_beginStage 58 = .ok (.aload_n 0, 1) := by decide +kernel
theorem dX2_beginStage_59 : decode cX2_beginStage 59 = .ok (.getfield 11, 3) := by decide +kernel
theorem dX2_beginStage_62 : decode cX2_beginStage 62 = .ok (.iload_n 3, 1) := by decide +kernel
theorem dX2_beginStage_63 : decode cX2_beginStage 63 = .ok (.aaload, 1) := by decide +kernel
theorem dX2_beginStage_64 : decode cX2_beginStage 64 = .ok (.invokevirtual 108, 3) := by decide +kernel
theorem dX2_beginStage_67 : decode cX2_beginStage 67 = .ok (.iinc 3 1, 3) := by decide +kernel
theorem dX2_beginStage_70 : decode cX2_beginStage 70 = .ok (.goto (-29), 3) := by decide +kernel
theorem dX2_beginStage_73 : decode cX2_beginStage 73 = .ok (.iload_n 2, 1) := by decide +kernel
theorem dX2_beginStage_74 : decode cX2_beginStage 74 = .ok (.ireturn, 1) := by decide +kernel
theorem dX2_finishStage_0 : decode cX2_finishStage 0 = .ok (.iload_n 1, 1) := by decide +kernel
theorem dX2_finishStage_1 : decode cX2_finishStage 1 = .ok (.iconst 0, 1) := by decide +kernel
theorem dX2_finishStage_2 : decode cX2_finishStage 2 = .ok (.iconst 4, 1) := by decide +kernel
theorem dX2_finishStage_3 : decode cX2_finishStage 3 = .ok (.invokestatic 48, 3) := by decide +kernel
theorem dX2_finishStage_6 : decode cX2_finishStage 6 = .ok (.ifCond .ne 6, 3) := by decide +kernel
theorem dX2_finishStage_9 : decode cX2_finishStage 9 = .ok (.ldc 95, 2) := by decide +kernel
theorem dX2_finishStage_11 : decode cX2_finishStage 11 = .ok (.ireturn, 1) := by decide +kernel
theorem dX2_finishStage_12 : decode cX2_finishStage 12 = .ok (.aload_n 0, 1) := by decide +kernel
theorem dX2_finishStage_13 : decode cX2_finishStage 13 = .ok (.iload_n 1, 1) := by decide +kernel
theorem dX2_finishStage_14 : decode cX2_finishStage 14 = .ok (.invokevirtual 52, 3) := by decide +kernel
theorem dX2_finishStage_17 : decode cX2_finishStage 17 = .ok (.ifCond .eq 11, 3) := by decide +kernel
theorem dX2_finishStage_20 : decode cX2_finishStage 20 = .ok (.aload_n 0, 1) := by decide +kernel
theorem dX2_finishStage_21 : decode cX2_finishStage 21 = .ok (.iload_n 1, 1) := by decide +kernel
theorem dX2_finishStage_22 : decode cX2_finishStage 22 = .ok (.invokevirtual 56, 3) := by decide +kernel
theorem dX2_finishStage_25 : decode cX2_finishStage 25 = .ok (.ifCond .eq 6, 3) := by decide +kernel
theorem dX2_finishStage_28 : decode cX2_finishStage 28 = .ok (.ldc 96, 2) := by decide +kernel
theorem dX2_finishStage_30 : decode cX2_finishStage 30 = .ok (.ireturn, 1) := by decide +kernel
theorem dX2_finishStage_31 : decode cX2_finishStage 31 = .ok (.aload_n 0, 1) := by decide +kernel
theorem dX2_finishStage_32 : decode cX2_finishStage 32 = .ok (.getfield 21, 3) := by decide +kernel
theorem dX2_finishStage_35 : decode cX2_finishStage 35 = .ok (.iload_n 1, 1) := by decide +kernel
theorem dX2_finishStage_36 : decode cX2_finishStage 36 = .ok (.aload_n 0, 1) := by decide +kernel
theorem dX2_finishStage_37 : decode cX2_finishStage 37 = .ok (.getfield 28, 3) := by decide +kernel
theorem dX2_finishStage_40 : decode cX2_finishStage 40 = .ok (.iastore, 1) := by decide +kernel
theorem dX2_finishStage_41 : decode cX2_finishStage 41 = .ok (.aload_n 0, 1) := by decide +kernel
theorem dX2_finishStage_42 : decode cX2_finishStage 42 = .ok (.getfield 28, 3) := by decide +kernel
theorem dX2_finishStage_45 : decode cX2_finishStage 45 = .ok (.aload_n 0, 1) := by decide +kernel
theorem dX2_finishStage_46 : decode cX2_finishStage 46 = .ok (.getfield 17, 3) := by decide +kernel
theorem dX2_finishStage_49 : decode cX2_finishStage 49 = .ok (.iload_n 1, 1) := by decide +kernel
theorem dX2_finishStage_50 : decode cX2_finishStage 50 = .ok (.iaload, 1) := by decide +kernel
theorem dX2_finishStage_51 : decode cX2_finishStage 51 = .ok (.isub, 1) := by decide +kernel
theorem dX2_finishStage_52 : decode cX2_finishStage 52 = .ok (.ireturn, 1) := by decide +kernel
theorem dX2_applyFor_0 : decode cX2_applyFor 0 = .ok (.aload_n 0, 1) := by decide +kernel
theorem dX2_applyFor_1 : decode cX2_applyFor 1 = .ok (.iload_n 1, 1) := by decide +kernel
theorem dX2_applyFor_2 : decode cX2_applyFor 2 = .ok (.invokevirtual 111, 3) := by decide +kernel
theorem dX2_applyFor_5 : decode cX2_applyFor 5 = .ok (.ifCond .ne 6, 3) := by decide +kernel
theorem dX2_applyFor_8 : decode cX2_applyFor 8 = .ok (.ldc 95, 2) := by decide +kernel
theorem dX2_applyFor_10 : decode cX2_applyFor 10 = .ok (.ireturn, 1) := by decide +kernel
theorem dX2_applyFor_11 : decode cX2_applyFor 11 = .ok (.aload_n 0, 1) := by decide +kernel
theorem dX2_applyFor_12 : decode cX2_applyFor 12 = .ok (.getfield 11, 3) := by decide +kernel
theorem dX2_applyFor_15 : decode cX2_applyFor 15 = .ok (.iload_n 1, 1) := by decide +kernel
theorem dX2_applyFor_16 : decode cX2_applyFor 16 = .ok (.aaload, 1) := by decide +kernel
theorem dX2_applyFor_17 : decode cX2_applyFor 17 = .ok (.astore_n 3, 1) := by decide +kernel
theorem dX2_applyFor_18 : decode cX2_applyFor 18 = .ok (.iload_n 2, 1) := by decide +kernel
theorem dX2_applyFor_19 : decode cX2_applyFor 19 = .ok (.ifCond .eq 11, 3) := by decide +kernel
theorem dX2_applyFor_22 : decode cX2_applyFor 22 = .ok (.aload_n 3, 1) := by decide +kernel
theorem dX2_applyFor_23 : decode cX2_applyFor 23 = .ok (.iload_n 2, 1) := by decide +kernel
theorem dX2_applyFor_24 : decode cX2_applyFor 24 = .ok (.invokevirtual 114, 3) := by decide +kernel
theorem dX2_applyFor_27 : decode cX2_applyFor 27 = .ok (.ifCond .ne 6, 3) := by decide +kernel
theorem dX2_applyFor_30 : decode cX2_applyFor 30 = .ok (.ldc 95, 2) := by decide +kernel
theorem dX2_applyFor_32 : decode cX2_applyFor 32 = .ok (.ireturn, 1) := by decide +kernel
theorem dX2_applyFor_33 : decode cX2_applyFor 33 = .ok (.aload_n 3, 1) := by decide +kernel
theorem dX2_applyFor_34 : decode cX2_applyFor 34 = .ok (.getfield 70, 3) := by decide +kernel
theorem dX2_applyFor_37 : decode cX2_applyFor 37 = .ok (.iconst 2, 1) := by decide +kernel
theorem dX2_applyFor_38 : decode cX2_applyFor 38 = .ok (.if_icmp .eq 19, 3) := by decide +kernel
theorem dX2_applyFor_41 : decode cX2_applyFor 41 = .ok (.aload_n 3, 1) := by decide +kernel
theorem dX2_applyFor_42 : decode cX2_applyFor 42 = .ok (.getfield 117, 3) := by decide +kernel
theorem dX2_applyFor_45 : decode cX2_applyFor 45 = .ok (.ifCond .ne 12, 3) := by decide +kernel
theorem dX2_applyFor_48 : decode cX2_applyFor 48 = .ok (.aload_n 3, 1) := by decide +kernel
theorem dX2_applyFor_49 : decode cX2_applyFor 49 = .ok (.getfield 83, 3) := by decide +kernel
theorem dX2_applyFor_52 : decode cX2_applyFor 52 = .ok (.iload_n 2, 1) := by decide +kernel
theorem dX2_applyFor_53 : decode cX2_applyFor 53 = .ok (.iand, 1) := by decide +kernel
theorem dX2_applyFor_54 : decode cX2_applyFor 54 = .ok (.ifCond .eq 6, 3) := by decide +kernel
theorem dX2_applyFor_57 : decode cX2_applyFor 57 = .ok (.ldc 96, 2) := by decide +kernel
theorem dX2_applyFor_59 : decode cX2_applyFor 59 = .ok (.ireturn, 1) := by decide +kernel
theorem dX2_applyFor_60 : decode cX2_applyFor 60 = .ok (.aload_n 3, 1) := by decide +kernel
theorem dX2_applyFor_61 : decode cX2_applyFor 61 = .ok (.iload_n 2, 1) := by decide +kernel
theorem dX2_applyFor_62 : decode cX2_applyFor 62 = .ok (.putfield 117, 3) := by decide +kernel
theorem dX2_applyFor_65 : decode cX2_applyFor 65 = .ok (.aload_n 3, 1) := by decide +kernel
theorem dX2_applyFor_66 : decode cX2_applyFor 66 = .ok (.iconst 0, 1) := by decide +kernel
theorem dX2_applyFor_67 : decode cX2_applyFor 67 = .ok (.putfield 120, 3) := by decide +kernel
theorem dX2_applyFor_70 : decode cX2_applyFor 70 = .ok (.aload_n 0, 1) := by decide +kernel
theorem dX2_applyFor_71 : decode cX2_applyFor 71 = .ok (.getfield 37, 3) := by decide +kernel
theorem dX2_applyFor_74 : decode cX2_applyFor 74 = .ok (.ireturn, 1) := by decide +kernel
theorem dX2_decideOn_0 : decode cX2_decideOn 0 = .ok (.aload_n 0, 1) := by decide +kernel
theorem dX2_decideOn_1 : decode cX2_decideOn 1 = .ok (.iload_n 1, 1) := by decide +kernel
theorem dX2_decideOn_2 : decode cX2_decideOn 2 = .ok (.invokevirtual 111, 3) := by decide +kernel
theorem dX2_decideOn_5 : decode cX2_decideOn 5 = .ok (.ifCond .ne 6, 3) := by decide +kernel
theorem dX2_decideOn_8 : decode cX2_decideOn 8 = .ok (.ldc 95, 2) := by decide +kernel
theorem dX2_decideOn_10 : decode cX2_decideOn 10 = .ok (.ireturn, 1) := by decide +kernel
theorem dX2_decideOn_11 : decode cX2_decideOn 11 = .ok (.aload_n 0, 1) := by decide +kernel
theorem dX2_decideOn_12 : decode cX2_decideOn 12 = .ok (.getfield 11, 3) := by decide +kernel
theorem dX2_decideOn_15 : decode cX2_decideOn 15 = .ok (.iload_n 1, 1) := by decide +kernel
theorem dX2_decideOn_16 : decode cX2_decideOn 16 = .ok (.aaload, 1) := by decide +kernel
theorem dX2_decideOn_17 : decode cX2_decideOn 17 = .ok (.astore_n 3, 1) := by decide +kernel
theorem dX2_decideOn_18 : decode cX2_decideOn 18 = .ok (.aload_n 3, 1) := by decide +kernel
theorem dX2_decideOn_19 : decode cX2_decideOn 19 = .ok (.iload_n 2, 1) := by decide +kernel
theorem dX2_decideOn_20 : decode cX2_decideOn 20 = .ok (.invokevirtual 114, 3) := by decide +kernel
theorem dX2_decideOn_23 : decode cX2_decideOn 23 = .ok (.ifCond .ne 6, 3) := by decide +kernel
theorem dX2_decideOn_26 : decode cX2_decideOn 26 = .ok (.ldc 95, 2) := by decide +kernel
theorem dX2_decideOn_28 : decode cX2_decideOn 28 = .ok (.ireturn, 1) := by decide +kernel
theorem dX2_decideOn_29 : decode cX2_decideOn 29 = .ok (.aload_n 3, 1) := by decide +kernel
theorem dX2_decideOn_30 : decode cX2_decideOn 30 = .ok (.getfield 117, 3) := by decide +kernel
theorem dX2_decideOn_33 : decode cX2_decideOn 33 = .ok (.ifCond .eq 14, 3) := by decide +kernel
theorem dX2_decideOn_36 : decode cX2_decideOn 36 = .ok (.iload_n 2, 1) := by decide +kernel
theorem dX2_decideOn_37 : decode cX2_decideOn 37 = .ok (.aload_n 3, 1) := by decide +kernel
theorem dX2_decideOn_38 : decode cX2_decideOn 38 = .ok (.getfield 117, 3) := by decide +kernel
theorem dX2_decideOn_41 : decode cX2_decideOn 41 = .ok (.iconst (-1), 1) := by decide +kernel
theorem dX2_decideOn_42 : decode cX2_decideOn 42 = .ok (.ixor, 1) := by decide +kernel
theorem dX2_decideOn_43 : decode cX2_decideOn 43 = .ok (.iand, 1) := by decide +kernel
theorem dX2_decideOn_44 : decode cX2_decideOn 44 = .ok (.ifCond .eq 6, 3) := by decide +kernel
theorem dX2_decideOn_47 : decode cX2_decideOn 47 = .ok (.ldc 96, 2) := by decide +kernel
theorem dX2_decideOn_49 : decode cX2_decideOn 49 = .ok (.ireturn, 1) := by decide +kernel
theorem dX2_decideOn_50 : decode cX2_decideOn 50 = .ok (.aload_n 3, 1) := by decide +kernel
theorem dX2_decideOn_51 : decode cX2_decideOn 51 = .ok (.iload_n 2, 1) := by decide +kernel
theorem dX2_decideOn_52 : decode cX2_decideOn 52 = .ok (.invokevirtual 123, 3) := by decide +kernel
theorem dX2_decideOn_55 : decode cX2_decideOn 55 = .ok (.aload_n 3, 1) := by decide +kernel
theorem dX2_decideOn_56 : decode cX2_decideOn 56 = .ok (.getfield 80, 3) := by decide +kernel
theorem dX2_decideOn_59 : decode cX2_decideOn 59 = .ok (.aload_n 3, 1) := by decide +kernel
theorem dX2_decideOn_60 : decode cX2_decideOn 60 = .ok (.getfield 83, 3) := by decide +kernel
theorem dX2_decideOn_63 : decode cX2_decideOn 63 = .ok (.invokestatic 86, 3) := by decide +kernel
theorem dX2_decideOn_66 : decode cX2_decideOn 66 = .ok (.isub, 1) := by decide +kernel
theorem dX2_decideOn_67 : decode cX2_decideOn 67 = .ok (.ireturn, 1) := by decide +kernel
theorem dX2_lapseOf_0 : decode cX2_lapseOf 0 = .ok (.aload_n 0, 1) := by decide +kernel
theorem dX2_lapseOf_1 : decode cX2_lapseOf 1 = .ok (.iload_n 1, 1) := by decide +kernel
theorem dX2_lapseOf_2 : decode cX2_lapseOf 2 = .ok (.invokevirtual 111, 3) := by decide +kernel
theorem dX2_lapseOf_5 : decode cX2_lapseOf 5 = .ok (.ifCond .ne 6, 3) := by decide +kernel
theorem dX2_lapseOf_8 : decode cX2_lapseOf 8 = .ok (.ldc 95, 2) := by decide +kernel
theorem dX2_lapseOf_10 : decode cX2_lapseOf 10 = .ok (.ireturn, 1) := by decide +kernel
theorem dX2_lapseOf_11 : decode cX2_lapseOf 11 = .ok (.aload_n 0, 1) := by decide +kernel
theorem dX2_lapseOf_12 : decode cX2_lapseOf 12 = .ok (.getfield 11, 3) := by decide +kernel
theorem dX2_lapseOf_15 : decode cX2_lapseOf 15 = .ok (.iload_n 1, 1) := by decide +kernel
theorem dX2_lapseOf_16 : decode cX2_lapseOf 16 = .ok (.aaload, 1) := by decide +kernel
theorem dX2_lapseOf_17 : decode cX2_lapseOf 17 = .ok (.astore_n 2, 1) := by decide +kernel
theorem dX2_lapseOf_18 : decode cX2_lapseOf 18 = .ok (.aload_n 2, 1) := by decide +kernel
theorem dX2_lapseOf_19 : decode cX2_lapseOf 19 = .ok (.getfield 70, 3) := by decide +kernel
theorem dX2_lapseOf_22 : decode cX2_lapseOf 22 = .ok (.iconst 2, 1) := by decide +kernel
theorem dX2_lapseOf_23 : decode cX2_lapseOf 23 = .ok (.if_icmp .ne 12, 3) := by decide +kernel
theorem dX2_lapseOf_26 : decode cX2_lapseOf 26 = .ok (.aload_n 0, 1) := by decide +kernel
theorem dX2_lapseOf_27 : decode cX2_lapseOf 27 = .ok (.aload_n 2, 1) := by decide +kernel
theorem dX2_lapseOf_28 : decode cX2_lapseOf 28 = .ok (.invokevirtual 76, 3) := by decide +kernel
theorem dX2_lapseOf_31 : decode cX2_lapseOf 31 = .ok (.iconst 1, 1) := by decide +kernel
theorem dX2_lapseOf_32 : decode cX2_lapseOf 32 = .ok (.if_icmp .eq 6, 3) := by decide +kernel
theorem dX2_lapseOf_35 : decode cX2_lapseOf 35 = .ok (.ldc 96, 2) := by decide +kernel
theorem dX2_lapseOf_37 : decode cX2_lapseOf 37 = .ok (.ireturn, 1) := by decide +kernel
theorem dX2_lapseOf_38 : decode cX2_lapseOf 38 = .ok (.aload_n 0, 1) := by decide +kernel
theorem dX2_lapseOf_39 : decode cX2_lapseOf 39 = .ok (.aload_n 2, 1) := by decide +kernel
theorem dX2_lapseOf_40 : decode cX2_lapseOf 40 = .ok (.invokevirtual 108, 3) := by decide +kernel
theorem dX2_lapseOf_43 : decode cX2_lapseOf 43 = .ok (.aload_n 2, 1) := by decide +kernel
theorem dX2_lapseOf_44 : decode cX2_lapseOf 44 = .ok (.getfield 127, 3) := by decide +kernel
theorem dX2_lapseOf_47 : decode cX2_lapseOf 47 = .ok (.ireturn, 1) := by decide +kernel
theorem dX2_cureOf_0 : decode cX2_cureOf 0 = .ok (.aload_n 0, 1) := by decide +kernel
theorem dX2_cureOf_1 : decode cX2_cureOf 1 = .ok (.iload_n 1, 1) := by decide +kernel
theorem dX2_cureOf_2 : decode cX2_cureOf 2 = .ok (.invokevirtual 111, 3) := by decide +kernel
theorem dX2_cureOf_5 : decode cX2_cureOf 5 = .ok (.ifCond .ne 6, 3) := by decide +kernel
theorem dX2_cureOf_8 : decode cX2_cureOf 8 = .ok (.ldc 95, 2) := by decide +kernel
theorem dX2_cureOf_10 : decode cX2_cureOf 10 = .ok (.ireturn, 1) := by decide +kernel
theorem dX2_cureOf_11 : decode cX2_cureOf 11 = .ok (.aload_n 0, 1) := by decide +kernel
theorem dX2_cureOf_12 : decode cX2_cureOf 12 = .ok (.getfield 11, 3) := by decide +kernel
theorem dX2_cureOf_15 : decode cX2_cureOf 15 = .ok (.iload_n 1, 1) := by decide +kernel
theorem dX2_cureOf_16 : decode cX2_cureOf 16 = .ok (.aaload, 1) := by decide +kernel
theorem dX2_cureOf_17 : decode cX2_cureOf 17 = .ok (.astore_n 2, 1) := by decide +kernel
theorem dX2_cureOf_18 : decode cX2_cureOf 18 = .ok (.aload_n 2, 1) := by decide +kernel
theorem dX2_cureOf_19 : decode cX2_cureOf 19 = .ok (.getfield 70, 3) := by decide +kernel
theorem dX2_cureOf_22 : decode cX2_cureOf 22 = .ok (.iconst 2, 1) := by decide +kernel
theorem dX2_cureOf_23 : decode cX2_cureOf 23 = .ok (.if_icmp .ne 12, 3) := by decide +kernel
theorem dX2_cureOf_26 : decode cX2_cureOf 26 = .ok (.aload_n 0, 1) := by decide +kernel
theorem dX2_cureOf_27 : decode cX2_cureOf 27 = .ok (.aload_n 2, 1) := by decide +kernel
theorem dX2_cureOf_28 : decode cX2_cureOf 28 = .ok (.invokevirtual 76, 3) := by decide +kernel
theorem dX2_cureOf_31 : decode cX2_cureOf 31 = .ok (.iconst 3, 1) := by decide +kernel
theorem dX2_cureOf_32 : decode cX2_cureOf 32 = .ok (.if_icmp .eq 6, 3) := by decide +kernel
theorem dX2_cureOf_35 : decode cX2_cureOf 35 = .ok (.ldc 96, 2) := by decide +kernel
theorem dX2_cureOf_37 : decode cX2_cureOf 37 = .ok (.ireturn, 1) := by decide +kernel
theorem dX2_cureOf_38 : decode cX2_cureOf 38 = .ok (.aload_n 2, 1) := by decide +kernel
theorem dX2_cureOf_39 : decode cX2_cureOf 39 = .ok (.getfield 130, 3) := by decide +kernel
theorem dX2_cureOf_42 : decode cX2_cureOf 42 = .ok (.istore_n 3, 1) := by decide +kernel
theorem dX2_cureOf_43 : decode cX2_cureOf 43 = .ok (.aload_n 2, 1) := by decide +kernel
theorem dX2_cureOf_44 : decode cX2_cureOf 44 = .ok (.invokevirtual 133, 3) := by decide +kernel
theorem dX2_cureOf_47 : decode cX2_cureOf 47 = .ok (.iload_n 3, 1) := by decide +kernel
theorem dX2_cureOf_48 : decode cX2_cureOf 48 = .ok (.ireturn, 1) := by decide +kernel
theorem dX2_serveOn_0 : decode cX2_serveOn 0 = .ok (.aload_n 0, 1) := by decide +kernel
theorem dX2_serveOn_1 : decode cX2_serveOn 1 = .ok (.iload_n 1, 1) := by decide +kernel
theorem dX2_serveOn_2 : decode cX2_serveOn 2 = .ok (.invokevirtual 111, 3) := by decide +kernel
theorem dX2_serveOn_5 : decode cX2_serveOn 5 = .ok (.ifCond .eq 13, 3) := by decide +kernel
theorem dX2_serveOn_8 : decode cX2_serveOn 8 = .ok (.iload_n 2, 1) := by decide +kernel
theorem dX2_serveOn_9 : decode cX2_serveOn 9 = .ok (.iconst 1, 1) := by decide +kernel
theorem dX2_serveOn_10 : decode cX2_serveOn 10 = .ok (.bipush 99, 2) := by decide +kernel
theorem dX2_serveOn_12 : decode cX2_serveOn 12 = .ok (.invokestatic 48, 3) := by decide +kernel
theorem dX2_serveOn_15 : decode cX2_serveOn 15 = .ok (.ifCond .ne 6, 3) := by decide +kernel
theorem dX2_serveOn_18 : decode cX2_serveOn 18 = .ok (.ldc 95, 2) := by decide +kernel
theorem dX2_serveOn_20 : decode cX2_serveOn 20 = .ok (.ireturn, 1) := by decide +kernel
theorem dX2_serveOn_21 : decode cX2_serveOn 21 = .ok (.aload_n 0, 1) := by decide +kernel
theorem dX2_serveOn_22 : decode cX2_serveOn 22 = .ok (.getfield 11, 3) := by decide +kernel
theorem dX2_serveOn_25 : decode cX2_serveOn 25 = .ok (.iload_n 1, 1) := by decide +kernel
theorem dX2_serveOn_26 : decode cX2_serveOn 26 = .ok (.aaload, 1) := by decide +kernel
theorem dX2_serveOn_27 : decode cX2_serveOn 27 = .ok (.astore_n 3, 1) := by decide +kernel
theorem dX2_serveOn_28 : decode cX2_serveOn 28 = .ok (.aload_n 0, 1) := by decide +kernel
theorem dX2_serveOn_29 : decode cX2_serveOn 29 = .ok (.aload_n 3, 1) := by decide +kernel
theorem dX2_serveOn_30 : decode cX2_serveOn 30 = .ok (.invokevirtual 76, 3) := by decide +kernel
theorem dX2_serveOn_33 : decode cX2_serveOn 33 = .ok (.iconst 3, 1) := by decide +kernel
theorem dX2_serveOn_34 : decode cX2_serveOn 34 = .ok (.if_icmp .eq 6, 3) := by decide +kernel
theorem dX2_serveOn_37 : decode cX2_serveOn 37 = .ok (.ldc 96, 2) := by decide +kernel
theorem dX2_serveOn_39 : decode cX2_serveOn 39 = .ok (.ireturn, 1) := by decide +kernel
theorem dX2_serveOn_40 : decode cX2_serveOn 40 = .ok (.aload_n 3, 1) := by decide +kernel
theorem dX2_serveOn_41 : decode cX2_serveOn 41 = .ok (.iconst 1, 1) := by decide +kernel
theorem dX2_serveOn_42 : decode cX2_serveOn 42 = .ok (.putfield 136, 3) := by decide +kernel
theorem dX2_serveOn_45 : decode cX2_serveOn 45 = .ok (.aload_n 3, 1) := by decide +kernel
theorem dX2_serveOn_46 : decode cX2_serveOn 46 = .ok (.iload_n 2, 1) := by decide +kernel
theorem dX2_serveOn_47 : decode cX2_serveOn 47 = .ok (.putfield 139, 3) := by decide +kernel
theorem dX2_serveOn_50 : decode cX2_serveOn 50 = .ok (.aload_n 3, 1) := by decide +kernel
theorem dX2_serveOn_51 : decode cX2_serveOn 51 = .ok (.getfield 130, 3) := by decide +kernel
theorem dX2_serveOn_54 : decode cX2_serveOn 54 = .ok (.ireturn, 1) := by decide +kernel
theorem dX2_varyTo_0 : decode cX2_varyTo 0 = .ok (.aload_n 0, 1) := by decide +kernel
theorem dX2_varyTo_1 : decode cX2_varyTo 1 = .ok (.iload_n 1, 1) := by decide +kernel
theorem dX2_varyTo_2 : decode cX2_varyTo 2 = .ok (.invokevirtual 111, 3) := by decide +kernel
theorem dX2_varyTo_5 : decode cX2_varyTo 5 = .ok (.ifCond .ne 6, 3) := by decide +kernel
theorem dX2_varyTo_8 : decode cX2_varyTo 8 = .ok (.ldc 95, 2) := by decide +kernel
theorem dX2_varyTo_10 : decode cX2_varyTo 10 = .ok (.ireturn, 1) := by decide +kernel
theorem dX2_varyTo_11 : decode cX2_varyTo 11 = .ok (.aload_n 0, 1) := by decide +kernel
theorem dX2_varyTo_12 : decode cX2_varyTo 12 = .ok (.getfield 11, 3) := by decide +kernel
theorem dX2_varyTo_15 : decode cX2_varyTo 15 = .ok (.iload_n 1, 1) := by decide +kernel
theorem dX2_varyTo_16 : decode cX2_varyTo 16 = .ok (.aaload, 1) := by decide +kernel
theorem dX2_varyTo_17 : decode cX2_varyTo 17 = .ok (.astore 4, 2) := by decide +kernel
theorem dX2_varyTo_19 : decode cX2_varyTo 19 = .ok (.aload 4, 2) := by decide +kernel
theorem dX2_varyTo_21 : decode cX2_varyTo 21 = .ok (.getfield 70, 3) := by decide +kernel
theorem dX2_varyTo_24 : decode cX2_varyTo 24 = .ok (.iload_n 2, 1) := by decide +kernel
theorem dX2_varyTo_25 : decode cX2_varyTo 25 = .ok (.iload_n 3, 1) := by decide +kernel
theorem dX2_varyTo_26 : decode cX2_varyTo 26 = .ok (.invokestatic 142, 3) := by decide +kernel
theorem dX2_varyTo_29 : decode cX2_varyTo 29 = .ok (.ifCond .ne 6, 3) := by decide +kernel
theorem dX2_varyTo_32 : decode cX2_varyTo 32 = .ok (.ldc 95, 2) := by decide +kernel
theorem dX2_varyTo_34 : decode cX2_varyTo 34 = .ok (.ireturn, 1) := by decide +kernel
theorem dX2_varyTo_35 : decode cX2_varyTo 35 = .ok (.aload_n 0, 1) := by decide +kernel
theorem dX2_varyTo_36 : decode cX2_varyTo 36 = .ok (.aload 4, 2) := by decide +kernel
theorem dX2_varyTo_38 : decode cX2_varyTo 38 = .ok (.iload_n 2, 1) := by decide +kernel
theorem dX2_varyTo_39 : decode cX2_varyTo 39 = .ok (.iload_n 3, 1) := by decide +kernel
theorem dX2_varyTo_40 : decode cX2_varyTo 40 = .ok (.invokevirtual 145, 3) := by decide +kernel
theorem dX2_varyTo_43 : decode cX2_varyTo 43 = .ok (.ifCond .ne 6, 3) := by decide +kernel
theorem dX2_varyTo_46 : decode cX2_varyTo 46 = .ok (.ldc 96, 2) := by decide +kernel
theorem dX2_varyTo_48 : decode cX2_varyTo 48 = .ok (.ireturn, 1) := by decide +kernel
theorem dX2_varyTo_49 : decode cX2_varyTo 49 = .ok (.iload_n 2, 1) := by decide +kernel
theorem dX2_varyTo_50 : decode cX2_varyTo 50 = .ok (.lookupswitch 58 #[(0, 26), (1, 42)], 26) := by decide +kernel
theorem dX2_varyTo_76 : decode cX2_varyTo 76 = .ok (.aload 4, 2) := by decide +kernel
theorem dX2_varyTo_78 : decode cX2_varyTo 78 = .ok (.getfield 149, 3) := by decide +kernel
theorem dX2_varyTo_81 : decode cX2_varyTo 81 = .ok (.istore 5, 2) := by decide +kernel
theorem dX2_varyTo_83 : decode cX2_varyTo 83 = .ok (.aload 4, 2) := by decide +kernel
theorem dX2_varyTo_85 : decode cX2_varyTo 85 = .ok (.iload_n 3, 1) := by decide +kernel
theorem dX2_varyTo_86 : decode cX2_varyTo 86 = .ok (.putfield 149, 3) := by decide +kernel
theorem dX2_varyTo_89 : decode cX2_varyTo 89 = .ok (.iload 5, 2) := by decide +kernel
theorem dX2_varyTo_91 : decode cX2_varyTo 91 = .ok (.ireturn, 1) := by decide +kernel
theorem dX2_varyTo_92 : decode cX2_varyTo 92 = .ok (.aload 4, 2) := by decide +kernel
theorem dX2_varyTo_94 : decode cX2_varyTo 94 = .ok (.getfield 80, 3) := by decide +kernel
theorem dX2_varyTo_97 : decode cX2_varyTo 97 = .ok (.istore 5, 2) := by decide +kernel
theorem dX2_varyTo_99 : decode cX2_varyTo 99 = .ok (.aload 4, 2) := by decide +kernel
theorem dX2_varyTo_101 : decode cX2_varyTo 101 = .ok (.iload_n 3, 1) := by decide +kernel
theorem dX2_varyTo_102 : decode cX2_varyTo 102 = .ok (.putfield 80, 3) := by decide +kernel
theorem dX2_varyTo_105 : decode cX2_varyTo 105 = .ok (.iload 5, 2) := by decide +kernel
theorem dX2_varyTo_107 : decode cX2_varyTo 107 = .ok (.ireturn, 1) := by decide +kernel
theorem dX2_varyTo_108 : decode cX2_varyTo 108 = .ok (.aload 4, 2) := by decide +kernel
theorem dX2_varyTo_110 : decode cX2_varyTo 110 = .ok (.getfield 73, 3) := by decide +kernel
theorem dX2_varyTo_113 : decode cX2_varyTo 113 = .ok (.istore 5, 2) := by decide +kernel
theorem dX2_varyTo_115 : decode cX2_varyTo 115 = .ok (.aload 4, 2) := by decide +kernel
theorem dX2_varyTo_117 : decode cX2_varyTo 117 = .ok (.iload_n 3, 1) := by decide +kernel
theorem dX2_varyTo_118 : decode cX2_varyTo 118 = .ok (.putfield 73, 3) := by decide +kernel
theorem dX2_varyTo_121 : decode cX2_varyTo 121 = .ok (.aload 4, 2) := by decide +kernel
theorem dX2_varyTo_123 : decode cX2_varyTo 123 = .ok (.iconst 0, 1) := by decide +kernel
theorem dX2_varyTo_124 : decode cX2_varyTo 124 = .ok (.putfield 127, 3) := by decide +kernel
theorem dX2_varyTo_127 : decode cX2_varyTo 127 = .ok (.iload 5, 2) := by decide +kernel
theorem dX2_varyTo_129 : decode cX2_varyTo 129 = .ok (.ireturn, 1) := by decide +kernel
theorem dX2_isVariation_0 : decode cX2_isVariation 0 = .ok (.iload_n 1, 1) := by decide +kernel
theorem dX2_isVariation_1 : decode cX2_isVariation 1 = .ok (.tableswitch 54 0 2 #[27, 39, 47], 27) := by decide +kernel
theorem dX2_isVariation_28 : decode cX2_isVariation 28 = .ok (.iload_n 2, 1) := by decide +kernel
theorem dX2_isVariation_29 : decode cX2_isVariation 29 = .ok (.iload_n 0, 1) := by decide +kernel
theorem dX2_isVariation_30 : decode cX2_isVariation 30 = .ok (.invokestatic 92, 3) := by decide +kernel
theorem dX2_isVariation_33 : decode cX2_isVariation 33 = .ok (.sipush 365, 3) := by decide +kernel
theorem dX2_isVariation_36 : decode cX2_isVariation 36 = .ok (.invokestatic 48, 3) := by decide +kernel
theorem dX2_isVariation_39 : decode cX2_isVariation 39 = .ok (.ireturn, 1) := by decide +kernel
theorem dX2_isVariation_40 : decode cX2_isVariation 40 = .ok (.iload_n 2, 1) := by decide +kernel
theorem dX2_isVariation_41 : decode cX2_isVariation 41 = .ok (.iconst 1, 1) := by decide +kernel
theorem dX2_isVariation_42 : decode cX2_isVariation 42 = .ok (.bipush 6, 2) := by decide +kernel
theorem dX2_isVariation_44 : decode cX2_isVariation 44 = .ok (.invokestatic 48, 3) := by decide +kernel
theorem dX2_isVariation_47 : decode cX2_isVariation 47 = .ok (.ireturn, 1) := by decide +kernel
theorem dX2_isVariation_48 : decode cX2_isVariation 48 = .ok (.iload_n 2, 1) := by decide +kernel
theorem dX2_isVariation_49 : decode cX2_isVariation 49 = .ok (.iconst 0, 1) := by decide +kernel
theorem dX2_isVariation_50 : decode cX2_isVariation 50 = .ok (.iconst 4, 1) := by decide +kernel
theorem dX2_isVariation_51 : decode cX2_isVariation 51 = .ok (.invokestatic 48, 3) := by decide +kernel
theorem dX2_isVariation_54 : decode cX2_isVariation 54 = .ok (.ireturn, 1) := by decide +kernel
theorem dX2_isVariation_55 : decode cX2_isVariation 55 = .ok (.iconst 0, 1) := by decide +kernel
theorem dX2_isVariation_56 : decode cX2_isVariation 56 = .ok (.ireturn, 1) := by decide +kernel
theorem dX2_canVary_0 : decode cX2_canVary 0 = .ok (.aload_n 0, 1) := by decide +kernel
theorem dX2_canVary_1 : decode cX2_canVary 1 = .ok (.aload_n 1, 1) := by decide +kernel
theorem dX2_canVary_2 : decode cX2_canVary 2 = .ok (.invokevirtual 76, 3) := by decide +kernel
theorem dX2_canVary_5 : decode cX2_canVary 5 = .ok (.istore 4, 2) := by decide +kernel
theorem dX2_canVary_7 : decode cX2_canVary 7 = .ok (.iload 4, 2) := by decide +kernel
theorem dX2_canVary_9 : decode cX2_canVary 9 = .ok (.ifCond .eq 9, 3) := by decide +kernel
theorem dX2_canVary_12 : decode cX2_canVary 12 = .ok (.iload 4, 2) := by decide +kernel
theorem dX2_canVary_14 : decode cX2_canVary 14 = .ok (.iconst 1, 1) := by decide +kernel
theorem dX2_canVary_15 : decode cX2_canVary 15 = .ok (.if_icmp .ne 10, 3) := by decide +kernel
theorem dX2_canVary_18 : decode cX2_canVary 18 = .ok (.aload_n 1, 1) := by decide +kernel
theorem dX2_canVary_19 : decode cX2_canVary 19 = .ok (.getfield 117, 3) := by decide +kernel
theorem dX2_canVary_22 : decode cX2_canVary 22 = .ok (.ifCond .eq 5, 3) := by decide +kernel
theorem dX2_canVary_25 : decode cX2_canVary 25 = .ok (.iconst 0, 1) := by decide +kernel
theorem dX2_canVary_26 : decode cX2_canVary 26 = .ok (.ireturn, 1) := by decide +kernel
theorem dX2_canVary_27 : decode cX2_canVary 27 = .ok (.iload_n 2, 1) := by decide +kernel
theorem dX2_canVary_28 : decode cX2_canVary 28 = .ok (.lookupswitch 80 #[(0, 28), (1, 66)], 28) := by decide +kernel
theorem dX2_canVary_56 : decode cX2_canVary 56 = .ok (.aload_n 1, 1) := by decide +kernel
theorem dX2_canVary_57 : decode cX2_canVary 57 = .ok (.getfield 70, 3) := by decide +kernel
theorem dX2_canVary_60 : decode cX2_canVary 60 = .ok (.iconst 2, 1) := by decide +kernel
theorem dX2_canVary_61 : decode cX2_canVary 61 = .ok (.if_icmp .ne 19, 3) := by decide +kernel
theorem dX2_canVary_64 : decode cX2_canVary 64 = .ok (.aload_n 1, 1) := by decide +kernel
theorem dX2_canVary_65 : decode cX2_canVary 65 = .ok (.getfield 127, 3) := by decide +kernel
theorem dX2_canVary_68 : decode cX2_canVary 68 = .ok (.iload_n 3, 1) := by decide +kernel
theorem dX2_canVary_69 : decode cX2_canVary 69 = .ok (.if_icmp .ge 7, 3) := by decide +kernel
theorem dX2_canVary_72 : decode cX2_canVary 72 = .ok (.iconst 1, 1) := by decide +kernel
theorem dX2_canVary_73 : decode cX2_canVary 73 = .ok (.goto 20, 3) := by decide +kernel
theorem dX2_canVary_76 : decode cX2_canVary 76 = .ok (.iconst 0, 1) := by decide +kernel
theorem dX2_canVary_77 : decode cX2_canVary 77 = .ok (.goto 16, 3) := by decide +kernel
theorem dX2_canVary_80 : decode cX2_canVary 80 = .ok (.aload_n 1, 1) := by decide +kernel
theorem dX2_canVary_81 : decode cX2_canVary 81 = .ok (.getfield 127, 3) := by decide +kernel
theorem dX2_canVary_84 : decode cX2_canVary 84 = .ok (.iload_n 3, 1) := by decide +kernel
theorem dX2_canVary_85 : decode cX2_canVary 85 = .ok (.if_icmp .gt 7, 3) := by decide +kernel
theorem dX2_canVary_88 : decode cX2_canVary 88 = .ok (.iconst 1, 1) := by decide +kernel
theorem dX2_canVary_89 : decode cX2_canVary 89 = .ok (.goto 4, 3) := by decide +kernel
theorem dX2_canVary_92 : decode cX2_canVary 92 = .ok (.iconst 0, 1) := by decide +kernel
theorem dX2_canVary_93 : decode cX2_canVary 93 = .ok (.ireturn, 1) := by decide +kernel
theorem dX2_canVary_94 : decode cX2_canVary 94 = .ok (.iload_n 3, 1) := by decide +kernel
theorem dX2_canVary_95 : decode cX2_canVary 95 = .ok (.aload_n 1, 1) := by decide +kernel
theorem dX2_canVary_96 : decode cX2_canVary 96 = .ok (.getfield 80, 3) := by decide +kernel
theorem dX2_canVary_99 : decode cX2_canVary 99 = .ok (.if_icmp .le 7, 3) := by decide +kernel
theorem dX2_canVary_102 : decode cX2_canVary 102 = .ok (.iconst 1, 1) := by decide +kernel
theorem dX2_canVary_103 : decode cX2_canVary 103 = .ok (.goto 4, 3) := by decide +kernel
theorem dX2_canVary_106 : decode cX2_canVary 106 = .ok (.iconst 0, 1) := by decide +kernel
theorem dX2_canVary_107 : decode cX2_canVary 107 = .ok (.ireturn, 1) := by decide +kernel
theorem dX2_canVary_108 : decode cX2_canVary 108 = .ok (.aload_n 0, 1) := by decide +kernel
theorem dX2_canVary_109 : decode cX2_canVary 109 = .ok (.iload_n 3, 1) := by decide +kernel
theorem dX2_canVary_110 : decode cX2_canVary 110 = .ok (.invokevirtual 52, 3) := by decide +kernel
theorem dX2_canVary_113 : decode cX2_canVary 113 = .ok (.ifCond .ne 7, 3) := by decide +kernel
theorem dX2_canVary_116 : decode cX2_canVary 116 = .ok (.iconst 1, 1) := by decide +kernel
theorem dX2_canVary_117 : decode cX2_canVary 117 = .ok (.goto 4, 3) := by decide +kernel
theorem dX2_canVary_120 : decode cX2_canVary 120 = .ok (.iconst 0, 1) := by decide +kernel
theorem dX2_canVary_121 : decode cX2_canVary 121 = .ok (.ireturn, 1) := by decide +kernel
theorem dX2_putSetting_0 : decode cX2_putSetting 0 = .ok (.iload_n 1, 1) := by decide +kernel
theorem dX2_putSetting_1 : decode cX2_putSetting 1 = .ok (.ifCond .ne 25, 3) := by decide +kernel
theorem dX2_putSetting_4 : decode cX2_putSetting 4 = .ok (.iload_n 2, 1) := by decide +kernel
theorem dX2_putSetting_5 : decode cX2_putSetting 5 = .ok (.iconst 0, 1) := by decide +kernel
theorem dX2_putSetting_6 : decode cX2_putSetting 6 = .ok (.bipush 99, 2) := by decide +kernel
theorem dX2_putSetting_8 : decode cX2_putSetting 8 = .ok (.invokestatic 48, 3) := by decide +kernel
theorem dX2_putSetting_11 : decode cX2_putSetting 11 = .ok (.ifCond .eq 15, 3) := by decide +kernel
theorem dX2_putSetting_14 : decode cX2_putSetting 14 = .ok (.aload_n 0, 1) := by decide +kernel
theorem dX2_putSetting_15 : decode cX2_putSetting 15 = .ok (.getfield 37, 3) := by decide +kernel
theorem dX2_putSetting_18 : decode cX2_putSetting 18 = .ok (.istore_n 3, 1) := by decide +kernel
theorem dX2_putSetting_19 : decode cX2_putSetting 19 = .ok (.aload_n 0, 1) := by decide +kernel
theorem dX2_putSetting_20 : decode cX2_putSetting 20 = .ok (.iload_n 2, 1) := by decide +kernel
theorem dX2_putSetting_21 : decode cX2_putSetting 21 = .ok (.putfield 37, 3) := by decide +kernel
theorem dX2_putSetting_24 : decode cX2_putSetting 24 = .ok (.iload_n 3, 1) := by decide +kernel
theorem dX2_putSetting_25 : decode cX2_putSetting 25 = .ok (.ireturn, 1) := by decide +kernel
theorem dX2_putSetting_26 : decode cX2_putSetting 26 = .ok (.iload_n 1, 1) := by decide +kernel
theorem dX2_putSetting_27 : decode cX2_putSetting 27 = .ok (.iconst 1, 1) := by decide +kernel
theorem dX2_putSetting_28 : decode cX2_putSetting 28 = .ok (.if_icmp .ne 26, 3) := by decide +kernel
theorem dX2_putSetting_31 : decode cX2_putSetting 31 = .ok (.iload_n 2, 1) := by decide +kernel
theorem dX2_putSetting_32 : decode cX2_putSetting 32 = .ok (.iconst 1, 1) := by decide +kernel
theorem dX2_putSetting_33 : decode cX2_putSetting 33 = .ok (.sipush 365, 3) := by decide +kernel
theorem dX2_putSetting_36 : decode cX2_putSetting 36 = .ok (.invokestatic 48, 3) := by decide +kernel
theorem dX2_putSetting_39 : decode cX2_putSetting 39 = .ok (.ifCond .eq 15, 3) := by decide +kernel
theorem dX2_putSetting_42 : decode cX2_putSetting 42 = .ok (.aload_n 0, 1) := by decide +kernel
theorem dX2_putSetting_43 : decode cX2_putSetting 43 = .ok (.getfield 40, 3) := by decide +kernel
theorem dX2_putSetting_46 : decode cX2_putSetting 46 = .ok (.istore_n 3, 1) := by decide +kernel
theorem dX2_putSetting_47 : decode cX2_putSetting 47 = .ok (.aload_n 0, 1) := by decide +kernel
theorem dX2_putSetting_48 : decode cX2_putSetting 48 = .ok (.iload_n 2, 1) := by decide +kernel
theorem dX2_putSetting_49 : decode cX2_putSetting 49 = .ok (.putfield 40, 3) := by decide +kernel
theorem dX2_putSetting_52 : decode cX2_putSetting 52 = .ok (.iload_n 3, 1) := by decide +kernel
theorem dX2_putSetting_53 : decode cX2_putSetting 53 = .ok (.ireturn, 1) := by decide +kernel
theorem dX2_putSetting_54 : decode cX2_putSetting 54 = .ok (.ldc 95, 2) := by decide +kernel
theorem dX2_putSetting_56 : decode cX2_putSetting 56 = .ok (.ireturn, 1) := by decide +kernel
theorem dX2_passDays_0 : decode cX2_passDays 0 = .ok (.iload_n 1, 1) := by decide +kernel
theorem dX2_passDays_1 : decode cX2_passDays 1 = .ok (.iconst 1, 1) := by decide +kernel
theorem dX2_passDays_2 : decode cX2_passDays 2 = .ok (.sipush 400, 3) := by decide +kernel
theorem dX2_passDays_5 : decode cX2_passDays 5 = .ok (.invokestatic 48, 3) := by decide +kernel
theorem dX2_passDays_8 : decode cX2_passDays 8 = .ok (.ifCond .ne 6, 3) := by decide +kernel
theorem dX2_passDays_11 : decode cX2_passDays 11 = .ok (.ldc 95, 2) := by decide +kernel
theorem dX2_passDays_13 : decode cX2_passDays 13 = .ok (.ireturn, 1) := by decide +kernel
theorem dX2_passDays_14 : decode cX2_passDays 14 = .ok (.aload_n 0, 1) := by decide +kernel
theorem dX2_passDays_15 : decode cX2_passDays 15 = .ok (.getfield 28, 3) := by decide +kernel
theorem dX2_passDays_18 : decode cX2_passDays 18 = .ok (.iload_n 1, 1) := by decide +kernel
theorem dX2_passDays_19 : decode cX2_passDays 19 = .ok (.iadd, 1) := by decide +kernel
theorem dX2_passDays_20 : decode cX2_passDays 20 = .ok (.sipush 9999, 3) := by decide +kernel
theorem dX2_passDays_23 : decode cX2_passDays 23 = .ok (.if_icmp .le 6, 3) := by decide +kernel
theorem dX2_passDays_26 : decode cX2_passDays 26 = .ok (.ldc 97, 2) := by decide +kernel
theorem dX2_passDays_28 : decode cX2_passDays 28 = .ok (.ireturn, 1) := by decide +kernel
theorem dX2_passDays_29 : decode cX2_passDays 29 = .ok (.iconst 0, 1) := by decide +kernel
theorem dX2_passDays_30 : decode cX2_passDays 30 = .ok (.istore_n 2, 1) := by decide +kernel
theorem dX2_passDays_31 : decode cX2_passDays 31 = .ok (.iload_n 2, 1) := by decide +kernel
theorem dX2_passDays_32 : decode cX2_passDays 32 = .ok (.iload_n 1, 1) := by decide +kernel
theorem dX2_passDays_33 : decode cX2_passDays 33 = .ok (.if_icmp .ge 45, 3) := by decide +kernel
theorem dX2_passDays_36 : decode cX2_passDays 36 = .ok (.aload_n 0, 1) := by decide +kernel
