-- decode rows out of the printed list of the task
theorem dX2_passDays_37 : decode cX2_passDays 37 = .ok (.dup, 1) := by decide +kernel
theorem dX2_passDays_38 : decode cX2_passDays 38 = .ok (.getfield 28, 3) := by decide +kernel
theorem dX2_passDays_41 : decode cX2_passDays 41 = .ok (.iconst 1, 1) := by decide +kernel
theorem dX2_passDays_42 : decode cX2_passDays 42 = .ok (.iadd, 1) := by decide +kernel
theorem dX2_passDays_43 : decode cX2_passDays 43 = .ok (.putfield 28, 3) := by decide +kernel
theorem dX2_passDays_46 : decode cX2_passDays 46 = .ok (.iconst 0, 1) := by decide +kernel
theorem dX2_passDays_47 : decode cX2_passDays 47 = .ok (.istore_n 3, 1) := by decide +kernel
theorem dX2_passDays_48 : decode cX2_passDays 48 = .ok (.iload_n 3, 1) := by decide +kernel
theorem dX2_passDays_49 : decode cX2_passDays 49 = .ok (.aload_n 0, 1) := by decide +kernel
theorem dX2_passDays_50 : decode cX2_passDays 50 = .ok (.getfield 24, 3) := by decide +kernel
theorem dX2_passDays_53 : decode cX2_passDays 53 = .ok (.if_icmp .ge 19, 3) := by decide +kernel
theorem dX2_passDays_56 : decode cX2_passDays 56 = .ok (.aload_n 0, 1) := by decide +kernel
theorem dX2_passDays_57 : decode cX2_passDays 57 = .ok (.aload_n 0, 1) := by decide +kernel
theorem dX2_passDays_58 : decode cX2_passDays 58 = .ok (.getfield 11, 3) := by decide +kernel
theorem dX2_passDays_61 : decode cX2_passDays 61 = .ok (.iload_n 3, 1) := by decide +kernel
theorem dX2_passDays_62 : decode cX2_passDays 62 = .ok (.aaload, 1) := by decide +kernel
theorem dX2_passDays_63 : decode cX2_passDays 63 = .ok (.invokevirtual 152, 3) := by decide +kernel
theorem dX2_passDays_66 : decode cX2_passDays 66 = .ok (.iinc 3 1, 3) := by decide +kernel
theorem dX2_passDays_69 : decode cX2_passDays 69 = .ok (.goto (-21), 3) := by decide +kernel
theorem dX2_passDays_72 : decode cX2_passDays 72 = .ok (.iinc 2 1, 3) := by decide +kernel
theorem dX2_passDays_75 : decode cX2_passDays 75 = .ok (.goto (-44), 3) := by decide +kernel
theorem dX2_passDays_78 : decode cX2_passDays 78 = .ok (.aload_n 0, 1) := by decide +kernel
theorem dX2_passDays_79 : decode cX2_passDays 79 = .ok (.getfield 28, 3) := by decide +kernel
theorem dX2_passDays_82 : decode cX2_passDays 82 = .ok (.ireturn, 1) := by decide +kernel
theorem dX2_passDayOf_0 : decode cX2_passDayOf 0 = .ok (.aload_n 1, 1) := by decide +kernel
theorem dX2_passDayOf_1 : decode cX2_passDayOf 1 = .ok (.getfield 63, 3) := by decide +kernel
theorem dX2_passDayOf_4 : decode cX2_passDayOf 4 = .ok (.istore_n 2, 1) := by decide +kernel
theorem dX2_passDayOf_5 : decode cX2_passDayOf 5 = .ok (.aload_n 1, 1) := by decide +kernel
theorem dX2_passDayOf_6 : decode cX2_passDayOf 6 = .ok (.getfield 117, 3) := by decide +kernel
theorem dX2_passDayOf_9 : decode cX2_passDayOf 9 = .ok (.ifCond .eq 48, 3) := by decide +kernel
theorem dX2_passDayOf_12 : decode cX2_passDayOf 12 = .ok (.aload_n 1, 1) := by decide +kernel
theorem dX2_passDayOf_13 : decode cX2_passDayOf 13 = .ok (.dup, 1) := by decide +kernel
theorem dX2_passDayOf_14 : decode cX2_passDayOf 14 = .ok (.getfield 120, 3) := by decide +kernel
theorem dX2_passDayOf_17 : decode cX2_passDayOf 17 = .ok (.iconst 1, 1) := by decide +kernel
theorem dX2_passDayOf_18 : decode cX2_passDayOf 18 = .ok (.iadd, 1) := by decide +kernel
theorem dX2_passDayOf_19 : decode cX2_passDayOf 19 = .ok (.putfield 120, 3) := by decide +kernel
theorem dX2_passDayOf_22 : decode cX2_passDayOf 22 = .ok (.aload_n 1, 1) := by decide +kernel
theorem dX2_passDayOf_23 : decode cX2_passDayOf 23 = .ok (.getfield 120, 3) := by decide +kernel
theorem dX2_passDayOf_26 : decode cX2_passDayOf 26 = .ok (.aload_n 0, 1) := by decide +kernel
theorem dX2_passDayOf_27 : decode cX2_passDayOf 27 = .ok (.getfield 37, 3) := by decide +kernel
theorem dX2_passDayOf_30 : decode cX2_passDayOf 30 = .ok (.if_icmp .lt 27, 3) := by decide +kernel
theorem dX2_passDayOf_33 : decode cX2_passDayOf 33 = .ok (.aload_n 0, 1) := by decide +kernel
theorem dX2_passDayOf_34 : decode cX2_passDayOf 34 = .ok (.dup, 1) := by decide +kernel
theorem dX2_passDayOf_35 : decode cX2_passDayOf 35 = .ok (.getfield 34, 3) := by decide +kernel
theorem dX2_passDayOf_38 : decode cX2_passDayOf 38 = .ok (.aload_n 1, 1) := by decide +kernel
theorem dX2_passDayOf_39 : decode cX2_passDayOf 39 = .ok (.getfield 117, 3) := by decide +kernel
theorem dX2_passDayOf_42 : decode cX2_passDayOf 42 = .ok (.invokestatic 86, 3) := by decide +kernel
theorem dX2_passDayOf_45 : decode cX2_passDayOf 45 = .ok (.iadd, 1) := by decide +kernel
theorem dX2_passDayOf_46 : decode cX2_passDayOf 46 = .ok (.putfield 34, 3) := by decide +kernel
theorem dX2_passDayOf_49 : decode cX2_passDayOf 49 = .ok (.aload_n 1, 1) := by decide +kernel
theorem dX2_passDayOf_50 : decode cX2_passDayOf 50 = .ok (.aload_n 1, 1) := by decide +kernel
theorem dX2_passDayOf_51 : decode cX2_passDayOf 51 = .ok (.getfield 117, 3) := by decide +kernel
theorem dX2_passDayOf_54 : decode cX2_passDayOf 54 = .ok (.invokevirtual 123, 3) := by decide +kernel
theorem dX2_passDayOf_57 : decode cX2_passDayOf 57 = .ok (.aload_n 0, 1) := by decide +kernel
theorem dX2_passDayOf_58 : decode cX2_passDayOf 58 = .ok (.aload_n 1, 1) := by decide +kernel
theorem dX2_passDayOf_59 : decode cX2_passDayOf 59 = .ok (.invokevirtual 155, 3) := by decide +kernel
theorem dX2_passDayOf_62 : decode cX2_passDayOf 62 = .ok (.iload_n 2, 1) := by decide +kernel
theorem dX2_passDayOf_63 : decode cX2_passDayOf 63 = .ok (.ifCond .eq 18, 3) := by decide +kernel
theorem dX2_passDayOf_66 : decode cX2_passDayOf 66 = .ok (.aload_n 1, 1) := by decide +kernel
theorem dX2_passDayOf_67 : decode cX2_passDayOf 67 = .ok (.getfield 63, 3) := by decide +kernel
theorem dX2_passDayOf_70 : decode cX2_passDayOf 70 = .ok (.ifCond .eq 11, 3) := by decide +kernel
theorem dX2_passDayOf_73 : decode cX2_passDayOf 73 = .ok (.aload_n 1, 1) := by decide +kernel
theorem dX2_passDayOf_74 : decode cX2_passDayOf 74 = .ok (.aload_n 0, 1) := by decide +kernel
theorem dX2_passDayOf_75 : decode cX2_passDayOf 75 = .ok (.getfield 40, 3) := by decide +kernel
theorem dX2_passDayOf_78 : decode cX2_passDayOf 78 = .ok (.invokevirtual 158, 3) := by decide +kernel
theorem dX2_passDayOf_81 : decode cX2_passDayOf 81 = .ok (.return_, 1) := by decide +kernel
theorem dX2_passClock_0 : decode cX2_passClock 0 = .ok (.aload_n 1, 1) := by decide +kernel
theorem dX2_passClock_1 : decode cX2_passClock 1 = .ok (.getfield 59, 3) := by decide +kernel
theorem dX2_passClock_4 : decode cX2_passClock 4 = .ok (.ifCond .ne 17, 3) := by decide +kernel
theorem dX2_passClock_7 : decode cX2_passClock 7 = .ok (.aload_n 1, 1) := by decide +kernel
theorem dX2_passClock_8 : decode cX2_passClock 8 = .ok (.getfield 63, 3) := by decide +kernel
theorem dX2_passClock_11 : decode cX2_passClock 11 = .ok (.ifCond .ne 10, 3) := by decide +kernel
theorem dX2_passClock_14 : decode cX2_passClock 14 = .ok (.aload_n 1, 1) := by decide +kernel
theorem dX2_passClock_15 : decode cX2_passClock 15 = .ok (.invokevirtual 66, 3) := by decide +kernel
theorem dX2_passClock_18 : decode cX2_passClock 18 = .ok (.ifCond .eq 4, 3) := by decide +kernel
theorem dX2_passClock_21 : decode cX2_passClock 21 = .ok (.return_, 1) := by decide +kernel
theorem dX2_passClock_22 : decode cX2_passClock 22 = .ok (.aload_n 1, 1) := by decide +kernel
theorem dX2_passClock_23 : decode cX2_passClock 23 = .ok (.getfield 70, 3) := by decide +kernel
theorem dX2_passClock_26 : decode cX2_passClock 26 = .ok (.iconst 1, 1) := by decide +kernel
theorem dX2_passClock_27 : decode cX2_passClock 27 = .ok (.if_icmp .ne 47, 3) := by decide +kernel
theorem dX2_passClock_30 : decode cX2_passClock 30 = .ok (.aload_n 0, 1) := by decide +kernel
theorem dX2_passClock_31 : decode cX2_passClock 31 = .ok (.aload_n 1, 1) := by decide +kernel
theorem dX2_passClock_32 : decode cX2_passClock 32 = .ok (.getfield 73, 3) := by decide +kernel
theorem dX2_passClock_35 : decode cX2_passClock 35 = .ok (.invokevirtual 52, 3) := by decide +kernel
theorem dX2_passClock_38 : decode cX2_passClock 38 = .ok (.ifCond .eq 36, 3) := by decide +kernel
theorem dX2_passClock_41 : decode cX2_passClock 41 = .ok (.aload_n 1, 1) := by decide +kernel
theorem dX2_passClock_42 : decode cX2_passClock 42 = .ok (.getfield 117, 3) := by decide +kernel
theorem dX2_passClock_45 : decode cX2_passClock 45 = .ok (.ifCond .ne 29, 3) := by decide +kernel
theorem dX2_passClock_48 : decode cX2_passClock 48 = .ok (.aload_n 1, 1) := by decide +kernel
theorem dX2_passClock_49 : decode cX2_passClock 49 = .ok (.dup, 1) := by decide +kernel
theorem dX2_passClock_50 : decode cX2_passClock 50 = .ok (.getfield 127, 3) := by decide +kernel
theorem dX2_passClock_53 : decode cX2_passClock 53 = .ok (.iconst 1, 1) := by decide +kernel
theorem dX2_passClock_54 : decode cX2_passClock 54 = .ok (.iadd, 1) := by decide +kernel
theorem dX2_passClock_55 : decode cX2_passClock 55 = .ok (.putfield 127, 3) := by decide +kernel
theorem dX2_passClock_58 : decode cX2_passClock 58 = .ok (.aload_n 1, 1) := by decide +kernel
theorem dX2_passClock_59 : decode cX2_passClock 59 = .ok (.getfield 127, 3) := by decide +kernel
theorem dX2_passClock_62 : decode cX2_passClock 62 = .ok (.aload_n 1, 1) := by decide +kernel
theorem dX2_passClock_63 : decode cX2_passClock 63 = .ok (.getfield 149, 3) := by decide +kernel
theorem dX2_passClock_66 : decode cX2_passClock 66 = .ok (.if_icmp .le 8, 3) := by decide +kernel
theorem dX2_passClock_69 : decode cX2_passClock 69 = .ok (.aload_n 0, 1) := by decide +kernel
theorem dX2_passClock_70 : decode cX2_passClock 70 = .ok (.aload_n 1, 1) := by decide +kernel
theorem dX2_passClock_71 : decode cX2_passClock 71 = .ok (.invokevirtual 108, 3) := by decide +kernel
theorem dX2_passClock_74 : decode cX2_passClock 74 = .ok (.aload_n 1, 1) := by decide +kernel
theorem dX2_passClock_75 : decode cX2_passClock 75 = .ok (.getfield 70, 3) := by decide +kernel
theorem dX2_passClock_78 : decode cX2_passClock 78 = .ok (.iconst 2, 1) := by decide +kernel
theorem dX2_passClock_79 : decode cX2_passClock 79 = .ok (.if_icmp .ne 24, 3) := by decide +kernel
theorem dX2_passClock_82 : decode cX2_passClock 82 = .ok (.aload_n 0, 1) := by decide +kernel
theorem dX2_passClock_83 : decode cX2_passClock 83 = .ok (.aload_n 1, 1) := by decide +kernel
theorem dX2_passClock_84 : decode cX2_passClock 84 = .ok (.getfield 73, 3) := by decide +kernel
theorem dX2_passClock_87 : decode cX2_passClock 87 = .ok (.invokevirtual 56, 3) := by decide +kernel
theorem dX2_passClock_90 : decode cX2_passClock 90 = .ok (.ifCond .eq 13, 3) := by decide +kernel
theorem dX2_passClock_93 : decode cX2_passClock 93 = .ok (.aload_n 1, 1) := by decide +kernel
theorem dX2_passClock_94 : decode cX2_passClock 94 = .ok (.dup, 1) := by decide +kernel
theorem dX2_passClock_95 : decode cX2_passClock 95 = .ok (.getfield 127, 3) := by decide +kernel
theorem dX2_passClock_98 : decode cX2_passClock 98 = .ok (.iconst 1, 1) := by decide +kernel
theorem dX2_passClock_99 : decode cX2_passClock 99 = .ok (.iadd, 1) := by decide +kernel
theorem dX2_passClock_100 : decode cX2_passClock 100 = .ok (.putfield 127, 3) := by decide +kernel
theorem dX2_passClock_103 : decode cX2_passClock 103 = .ok (.return_, 1) := by decide +kernel
theorem dX2_startBreach_0 : decode cX2_startBreach 0 = .ok (.aload_n 1, 1) := by decide +kernel
theorem dX2_startBreach_1 : decode cX2_startBreach 1 = .ok (.iconst 1, 1) := by decide +kernel
theorem dX2_startBreach_2 : decode cX2_startBreach 2 = .ok (.putfield 63, 3) := by decide +kernel
theorem dX2_startBreach_5 : decode cX2_startBreach 5 = .ok (.aload_n 0, 1) := by decide +kernel
theorem dX2_startBreach_6 : decode cX2_startBreach 6 = .ok (.dup, 1) := by decide +kernel
theorem dX2_startBreach_7 : decode cX2_startBreach 7 = .ok (.getfield 31, 3) := by decide +kernel
theorem dX2_startBreach_10 : decode cX2_startBreach 10 = .ok (.iconst 1, 1) := by decide +kernel
theorem dX2_startBreach_11 : decode cX2_startBreach 11 = .ok (.iadd, 1) := by decide +kernel
theorem dX2_startBreach_12 : decode cX2_startBreach 12 = .ok (.putfield 31, 3) := by decide +kernel
theorem dX2_startBreach_15 : decode cX2_startBreach 15 = .ok (.return_, 1) := by decide +kernel
theorem dX2_daysUntil_0 : decode cX2_daysUntil 0 = .ok (.aload_n 0, 1) := by decide +kernel
theorem dX2_daysUntil_1 : decode cX2_daysUntil 1 = .ok (.iload_n 1, 1) := by decide +kernel
theorem dX2_daysUntil_2 : decode cX2_daysUntil 2 = .ok (.invokevirtual 111, 3) := by decide +kernel
theorem dX2_daysUntil_5 : decode cX2_daysUntil 5 = .ok (.ifCond .ne 6, 3) := by decide +kernel
theorem dX2_daysUntil_8 : decode cX2_daysUntil 8 = .ok (.ldc 161, 2) := by decide +kernel
theorem dX2_daysUntil_10 : decode cX2_daysUntil 10 = .ok (.ireturn, 1) := by decide +kernel
theorem dX2_daysUntil_11 : decode cX2_daysUntil 11 = .ok (.aload_n 0, 1) := by decide +kernel
theorem dX2_daysUntil_12 : decode cX2_daysUntil 12 = .ok (.getfield 11, 3) := by decide +kernel
theorem dX2_daysUntil_15 : decode cX2_daysUntil 15 = .ok (.iload_n 1, 1) := by decide +kernel
theorem dX2_daysUntil_16 : decode cX2_daysUntil 16 = .ok (.aaload, 1) := by decide +kernel
theorem dX2_daysUntil_17 : decode cX2_daysUntil 17 = .ok (.astore_n 3, 1) := by decide +kernel
theorem dX2_daysUntil_18 : decode cX2_daysUntil 18 = .ok (.iconst 0, 1) := by decide +kernel
theorem dX2_daysUntil_19 : decode cX2_daysUntil 19 = .ok (.istore 4, 2) := by decide +kernel
theorem dX2_daysUntil_21 : decode cX2_daysUntil 21 = .ok (.iload 4, 2) := by decide +kernel
theorem dX2_daysUntil_23 : decode cX2_daysUntil 23 = .ok (.sipush 400, 3) := by decide +kernel
theorem dX2_daysUntil_26 : decode cX2_daysUntil 26 = .ok (.if_icmp .gt 26, 3) := by decide +kernel
theorem dX2_daysUntil_29 : decode cX2_daysUntil 29 = .ok (.aload_n 0, 1) := by decide +kernel
theorem dX2_daysUntil_30 : decode cX2_daysUntil 30 = .ok (.aload_n 3, 1) := by decide +kernel
theorem dX2_daysUntil_31 : decode cX2_daysUntil 31 = .ok (.invokevirtual 76, 3) := by decide +kernel
theorem dX2_daysUntil_34 : decode cX2_daysUntil 34 = .ok (.iload_n 2, 1) := by decide +kernel
theorem dX2_daysUntil_35 : decode cX2_daysUntil 35 = .ok (.if_icmp .ne 6, 3) := by decide +kernel
theorem dX2_daysUntil_38 : decode cX2_daysUntil 38 = .ok (.iload 4, 2) := by decide +kernel
theorem dX2_daysUntil_40 : decode cX2_daysUntil 40 = .ok (.ireturn, 1) := by decide +kernel
theorem dX2_daysUntil_41 : decode cX2_daysUntil 41 = .ok (.aload_n 0, 1) := by decide +kernel
theorem dX2_daysUntil_42 : decode cX2_daysUntil 42 = .ok (.aload_n 3, 1) := by decide +kernel
theorem dX2_daysUntil_43 : decode cX2_daysUntil 43 = .ok (.invokevirtual 152, 3) := by decide +kernel
theorem dX2_daysUntil_46 : decode cX2_daysUntil 46 = .ok (.iinc 4 1, 3) := by decide +kernel
theorem dX2_daysUntil_49 : decode cX2_daysUntil 49 = .ok (.goto (-28), 3) := by decide +kernel
theorem dX2_daysUntil_52 : decode cX2_daysUntil 52 = .ok (.ldc 161, 2) := by decide +kernel
theorem dX2_daysUntil_54 : decode cX2_daysUntil 54 = .ok (.ireturn, 1) := by decide +kernel
theorem dX2_daysUntilLawful_0 : decode cX2_daysUntilLawful 0 = .ok (.aload_n 0, 1) := by decide +kernel
theorem dX2_daysUntilLawful_1 : decode cX2_daysUntilLawful 1 = .ok (.iload_n 1, 1) := by decide +kernel
theorem dX2_daysUntilLawful_2 : decode cX2_daysUntilLawful 2 = .ok (.invokevirtual 105, 3) := by decide +kernel
theorem dX2_daysUntilLawful_5 : decode cX2_daysUntilLawful 5 = .ok (.istore_n 2, 1) := by decide +kernel
theorem dX2_daysUntilLawful_6 : decode cX2_daysUntilLawful 6 = .ok (.iconst 0, 1) := by decide +kernel
theorem dX2_daysUntilLawful_7 : decode cX2_daysUntilLawful 7 = .ok (.istore_n 3, 1) := by decide +kernel
theorem dX2_daysUntilLawful_8 : decode cX2_daysUntilLawful 8 = .ok (.iconst 0, 1) := by decide +kernel
theorem dX2_daysUntilLawful_9 : decode cX2_daysUntilLawful 9 = .ok (.istore 4, 2) := by decide +kernel
theorem dX2_daysUntilLawful_11 : decode cX2_daysUntilLawful 11 = .ok (.iload 4, 2) := by decide +kernel
theorem dX2_daysUntilLawful_13 : decode cX2_daysUntilLawful 13 = .ok (.aload_n 0, 1) := by decide +kernel
theorem dX2_daysUntilLawful_14 : decode cX2_daysUntilLawful 14 = .ok (.getfield 24, 3) := by decide +kernel
theorem dX2_daysUntilLawful_17 : decode cX2_daysUntilLawful 17 = .ok (.if_icmp .ge 44, 3) := by decide +kernel
theorem dX2_daysUntilLawful_20 : decode cX2_daysUntilLawful 20 = .ok (.iload_n 2, 1) := by decide +kernel
theorem dX2_daysUntilLawful_21 : decode cX2_daysUntilLawful 21 = .ok (.iconst 1, 1) := by decide +kernel
theorem dX2_daysUntilLawful_22 : decode cX2_daysUntilLawful 22 = .ok (.iload 4, 2) := by decide +kernel
theorem dX2_daysUntilLawful_24 : decode cX2_daysUntilLawful 24 = .ok (.ishl, 1) := by decide +kernel
theorem dX2_daysUntilLawful_25 : decode cX2_daysUntilLawful 25 = .ok (.iand, 1) := by decide +kernel
theorem dX2_daysUntilLawful_26 : decode cX2_daysUntilLawful 26 = .ok (.ifCond .eq 29, 3) := by decide +kernel
theorem dX2_daysUntilLawful_29 : decode cX2_daysUntilLawful 29 = .ok (.aload_n 0, 1) := by decide +kernel
theorem dX2_daysUntilLawful_30 : decode cX2_daysUntilLawful 30 = .ok (.iload 4, 2) := by decide +kernel
theorem dX2_daysUntilLawful_32 : decode cX2_daysUntilLawful 32 = .ok (.iconst 2, 1) := by decide +kernel
theorem dX2_daysUntilLawful_33 : decode cX2_daysUntilLawful 33 = .ok (.invokevirtual 162, 3) := by decide +kernel
theorem dX2_daysUntilLawful_36 : decode cX2_daysUntilLawful 36 = .ok (.istore 5, 2) := by decide +kernel
theorem dX2_daysUntilLawful_38 : decode cX2_daysUntilLawful 38 = .ok (.iload 5, 2) := by decide +kernel
theorem dX2_daysUntilLawful_40 : decode cX2_daysUntilLawful 40 = .ok (.ldc 161, 2) := by decide +kernel
theorem dX2_daysUntilLawful_42 : decode cX2_daysUntilLawful 42 = .ok (.if_icmp .ne 6, 3) := by decide +kernel
theorem dX2_daysUntilLawful_45 : decode cX2_daysUntilLawful 45 = .ok (.ldc 161, 2) := by decide +kernel
theorem dX2_daysUntilLawful_47 : decode cX2_daysUntilLawful 47 = .ok (.ireturn, 1) := by decide +kernel
theorem dX2_daysUntilLawful_48 : decode cX2_daysUntilLawful 48 = .ok (.iload_n 3, 1) := by decide +kernel
theorem dX2_daysUntilLawful_49 : decode cX2_daysUntilLawful 49 = .ok (.iload 5, 2) := by decide +kernel
theorem dX2_daysUntilLawful_51 : decode cX2_daysUntilLawful 51 = .ok (.invokestatic 166, 3) := by decide +kernel
theorem dX2_daysUntilLawful_54 : decode cX2_daysUntilLawful 54 = .ok (.istore_n 3, 1) := by decide +kernel
theorem dX2_daysUntilLawful_55 : decode cX2_daysUntilLawful 55 = .ok (.iinc 4 1, 3) := by decide +kernel
theorem dX2_daysUntilLawful_58 : decode cX2_daysUntilLawful 58 = .ok (.goto (-47), 3) := by decide +kernel
theorem dX2_daysUntilLawful_61 : decode cX2_daysUntilLawful 61 = .ok (.iload_n 3, 1) := by decide +kernel
theorem dX2_daysUntilLawful_62 : decode cX2_daysUntilLawful 62 = .ok (.ireturn, 1) := by decide +kernel
theorem dX3_init_0 : decode cX3_init 0 = .ok (.aload_n 0, 1) := by decide +kernel
theorem dX3_init_1 : decode cX3_init 1 = .ok (.invokespecial 1, 3) := by decide +kernel
theorem dX3_init_4 : decode cX3_init 4 = .ok (.aload_n 0, 1) := by decide +kernel
theorem dX3_init_5 : decode cX3_init 5 = .ok (.new 7, 3) := by decide +kernel
theorem dX3_init_8 : decode cX3_init 8 = .ok (.dup, 1) := by decide +kernel
theorem dX3_init_9 : decode cX3_init 9 = .ok (.invokespecial 9, 3) := by decide +kernel
theorem dX3_init_12 : decode cX3_init 12 = .ok (.putfield 10, 3) := by decide +kernel
theorem dX3_init_15 : decode cX3_init 15 = .ok (.aload_n 0, 1) := by decide +kernel
theorem dX3_init_16 : decode cX3_init 16 = .ok (.new 7, 3) := by decide +kernel
theorem dX3_init_19 : decode cX3_init 19 = .ok (.dup, 1) := by decide +kernel
theorem dX3_init_20 : decode cX3_init 20 = .ok (.invokespecial 9, 3) := by decide +kernel
theorem dX3_init_23 : decode cX3_init 23 = .ok (.putfield 16, 3) := by decide +kernel
theorem dX3_init_26 : decode cX3_init 26 = .ok (.aload_n 0, 1) := by decide +kernel
theorem dX3_init_27 : decode cX3_init 27 = .ok (.iconst 4, 1) := by decide +kernel
theorem dX3_init_28 : decode cX3_init 28 = .ok (.anewarray 7, 3) := by decide +kernel
theorem dX3_init_31 : decode cX3_init 31 = .ok (.putfield 19, 3) := by decide +kernel
theorem dX3_init_34 : decode cX3_init 34 = .ok (.aload_n 0, 1) := by decide +kernel
theorem dX3_init_35 : decode cX3_init 35 = .ok (.new 23, 3) := by decide +kernel
theorem dX3_init_38 : decode cX3_init 38 = .ok (.dup, 1) := by decide +kernel
theorem dX3_init_39 : decode cX3_init 39 = .ok (.invokespecial 25, 3) := by decide +kernel
theorem dX3_init_42 : decode cX3_init 42 = .ok (.putfield 26, 3) := by decide +kernel
theorem dX3_init_45 : decode cX3_init 45 = .ok (.aload_n 0, 1) := by decide +kernel
theorem dX3_init_46 : decode cX3_init 46 = .ok (.new 7, 3) := by decide +kernel
theorem dX3_init_49 : decode cX3_init 49 = .ok (.dup, 1) := by decide +kernel
theorem dX3_init_50 : decode cX3_init 50 = .ok (.invokespecial 9, 3) := by decide +kernel
theorem dX3_init_53 : decode cX3_init 53 = .ok (.putfield 30, 3) := by decide +kernel
theorem dX3_init_56 : decode cX3_init 56 = .ok (.aload_n 0, 1) := by decide +kernel
theorem dX3_init_57 : decode cX3_init 57 = .ok (.iconst 0, 1) := by decide +kernel
theorem dX3_init_58 : decode cX3_init 58 = .ok (.putfield 33, 3) := by decide +kernel
theorem dX3_init_61 : decode cX3_init 61 = .ok (.iconst 0, 1) := by decide +kernel
theorem dX3_init_62 : decode cX3_init 62 = .ok (.istore_n 1, 1) := by decide +kernel
theorem dX3_init_63 : decode cX3_init 63 = .ok (.iload_n 1, 1) := by decide +kernel
theorem dX3_init_64 : decode cX3_init 64 = .ok (.iconst 4, 1) := by decide +kernel
theorem dX3_init_65 : decode cX3_init 65 = .ok (.if_icmp .ge 22, 3) := by decide +kernel
theorem dX3_init_68 : decode cX3_init 68 = .ok (.aload_n 0, 1) := by decide +kernel
theorem dX3_init_69 : decode cX3_init 69 = .ok (.getfield 19, 3) := by decide +kernel
theorem dX3_init_72 : decode cX3_init 72 = .ok (.iload_n 1, 1) := by decide +kernel
theorem dX3_init_73 : decode cX3_init 73 = .ok (.new 7, 3) := by decide +kernel
theorem dX3_init_76 : decode cX3_init 76 = .ok (.dup, 1) := by decide +kernel
theorem dX3_init_77 : decode cX3_init 77 = .ok (.invokespecial 9, 3) := by decide +kernel
theorem dX3_init_80 : decode cX3_init 80 = .ok (.aastore, 1) := by decide +kernel
theorem dX3_init_81 : decode cX3_init 81 = .ok (.iinc 1 1, 3) := by decide +kernel
theorem dX3_init_84 : decode cX3_init 84 = .ok (.goto (-21), 3) := by decide +kernel
theorem dX3_init_87 : decode cX3_init 87 = .ok (.return_, 1) := by decide +kernel
theorem dX3_condition_0 : decode cX3_condition 0 = .ok (.aload_n 0, 1) := by decide +kernel
theorem dX3_condition_1 : decode cX3_condition 1 = .ok (.getfield 30, 3) := by decide +kernel
theorem dX3_condition_4 : decode cX3_condition 4 = .ok (.aload_n 0, 1) := by decide +kernel
theorem dX3_condition_5 : decode cX3_condition 5 = .ok (.getfield 10, 3) := by decide +kernel
theorem dX3_condition_8 : decode cX3_condition 8 = .ok (.invokevirtual 37, 3) := by decide +kernel
theorem dX3_condition_11 : decode cX3_condition 11 = .ok (.aload_n 0, 1) := by decide +kernel
theorem dX3_condition_12 : decode cX3_condition 12 = .ok (.aload_n 0, 1) := by decide +kernel
theorem dX3_condition_13 : decode cX3_condition 13 = .ok (.getfield 10, 3) := by decide +kernel
theorem dX3_condition_16 : decode cX3_condition 16 = .ok (.iload_n 1, 1) := by decide +kernel
theorem dX3_condition_17 : decode cX3_condition 17 = .ok (.iload_n 2, 1) := by decide +kernel
theorem dX3_condition_18 : decode cX3_condition 18 = .ok (.iload_n 3, 1) := by decide +kernel
theorem dX3_condition_19 : decode cX3_condition 19 = .ok (.iload 4, 2) := by decide +kernel
theorem dX3_condition_21 : decode cX3_condition 21 = .ok (.invokevirtual 41, 3) := by decide +kernel
theorem dX3_condition_24 : decode cX3_condition 24 = .ok (.invokevirtual 45, 3) := by decide +kernel
theorem dX3_condition_27 : decode cX3_condition 27 = .ok (.ireturn, 1) := by decide +kernel
theorem dX3_begin_0 : decode cX3_begin 0 = .ok (.aload_n 0, 1) := by decide +kernel
theorem dX3_begin_1 : decode cX3_begin 1 = .ok (.getfield 30, 3) := by decide +kernel
theorem dX3_begin_4 : decode cX3_begin 4 = .ok (.aload_n 0, 1) := by decide +kernel
theorem dX3_begin_5 : decode cX3_begin 5 = .ok (.getfield 10, 3) := by decide +kernel
theorem dX3_begin_8 : decode cX3_begin 8 = .ok (.invokevirtual 37, 3) := by decide +kernel
theorem dX3_begin_11 : decode cX3_begin 11 = .ok (.aload_n 0, 1) := by decide +kernel
theorem dX3_begin_12 : decode cX3_begin 12 = .ok (.aload_n 0, 1) := by decide +kernel
theorem dX3_begin_13 : decode cX3_begin 13 = .ok (.getfield 10, 3) := by decide +kernel
theorem dX3_begin_16 : decode cX3_begin 16 = .ok (.iload_n 1, 1) := by decide +kernel
theorem dX3_begin_17 : decode cX3_begin 17 = .ok (.invokevirtual 49, 3) := by decide +kernel
theorem dX3_begin_20 : decode cX3_begin 20 = .ok (.invokevirtual 45, 3) := by decide +kernel
theorem dX3_begin_23 : decode cX3_begin 23 = .ok (.ireturn, 1) := by decide +kernel
theorem dX3_finish_0 : decode cX3_finish 0 = .ok (.aload_n 0, 1) := by decide +kernel
theorem dX3_finish_1 : decode cX3_finish 1 = .ok (.getfield 30, 3) := by decide +kernel
theorem dX3_finish_4 : decode cX3_finish 4 = .ok (.aload_n 0, 1) := by decide +kernel
theorem dX3_finish_5 : decode cX3_finish 5 = .ok (.getfield 10, 3) := by decide +kernel
theorem dX3_finish_8 : decode cX3_finish 8 = .ok (.invokevirtual 37, 3) := by decide +kernel
theorem dX3_finish_11 : decode cX3_finish 11 = .ok (.aload_n 0, 1) := by decide +kernel
theorem dX3_finish_12 : decode cX3_finish 12 = .ok (.aload_n 0, 1) := by decide +kernel
theorem dX3_finish_13 : decode cX3_finish 13 = .ok (.getfield 10, 3) := by decide +kernel
theorem dX3_finish_16 : decode cX3_finish 16 = .ok (.iload_n 1, 1) := by decide +kernel
theorem dX3_finish_17 : decode cX3_finish 17 = .ok (.invokevirtual 52, 3) := by decide +kernel
theorem dX3_finish_20 : decode cX3_finish 20 = .ok (.invokevirtual 45, 3) := by decide +kernel
theorem dX3_finish_23 : decode cX3_finish 23 = .ok (.ireturn, 1) := by decide +kernel
theorem dX3_apply_0 : decode cX3_apply 0 = .ok (.aload_n 0, 1) := by decide +kernel
theorem dX3_apply_1 : decode cX3_apply 1 = .ok (.getfield 30, 3) := by decide +kernel
theorem dX3_apply_4 : decode cX3_apply 4 = .ok (.aload_n 0, 1) := by decide +kernel
theorem dX3_apply_5 : decode cX3_apply 5 = .ok (.getfield 10, 3) := by decide +kernel
theorem dX3_apply_8 : decode cX3_apply 8 = .ok (.invokevirtual 37, 3) := by decide +kernel
theorem dX3_apply_11 : decode cX3_apply 11 = .ok (.aload_n 0, 1) := by decide +kernel
theorem dX3_apply_12 : decode cX3_apply 12 = .ok (.aload_n 0, 1) := by decide +kernel
theorem dX3_apply_13 : decode cX3_apply 13 = .ok (.getfield 10, 3) := by decide +kernel
theorem dX3_apply_16 : decode cX3_apply 16 = .ok (.iload_n 1, 1) := by decide +kernel
theorem dX3_apply_17 : decode cX3_apply 17 = .ok (.iload_n 2, 1) := by decide +kernel
theorem dX3_apply_18 : decode cX3_apply 18 = .ok (.invokevirtual 55, 3) := by decide +kernel
theorem dX3_apply_21 : decode cX3_apply 21 = .ok (.invokevirtual 45, 3) := by decide +kernel
theorem dX3_apply_24 : decode cX3_apply 24 = .ok (.ireturn, 1) := by decide +kernel
theorem dX3_decide_0 : decode cX3_decide 0 = .ok (.aload_n 0, 1) := by decide +kernel
theorem dX3_decide_1 : decode cX3_decide 1 = .ok (.getfield 30, 3) := by decide +kernel
theorem dX3_decide_4 : decode cX3_decide 4 = .ok (.aload_n 0, 1) := by decide +kernel
theorem dX3_decide_5 : decode cX3_decide 5 = .ok (.getfield 10, 3) := by decide +kernel
theorem dX3_decide_8 : decode cX3_decide 8 = .ok (.invokevirtual 37, 3) := by decide +kernel
theorem dX3_decide_11 : decode cX3_decide 11 = .ok (.aload_n 0, 1) := by decide +kernel
theorem dX3_decide_12 : decode cX3_decide 12 = .ok (.aload_n 0, 1) := by decide +kernel
theorem dX3_decide_13 : decode cX3_decide 13 = .ok (.getfield 10, 3) := by decide +kernel
theorem dX3_decide_16 : decode cX3_decide 16 = .ok (.iload_n 1, 1) := by decide +kernel
theorem dX3_decide_17 : decode cX3_decide 17 = .ok (.iload_n 2, 1) := by decide +kernel
theorem dX3_decide_18 : decode cX3_decide 18 = .ok (.invokevirtual 59, 3) := by decide +kernel
theorem dX3_decide_21 : decode cX3_decide 21 = .ok (.invokevirtual 45, 3) := by decide +kernel
theorem dX3_decide_24 : decode cX3_decide 24 = .ok (.ireturn, 1) := by decide +kernel
theorem dX3_lapse_0 : decode cX3_lapse 0 = .ok (.aload_n 0, 1) := by decide +kernel
theorem dX3_lapse_1 : decode cX3_lapse 1 = .ok (.getfield 30, 3) := by decide +kernel
theorem dX3_lapse_4 : decode cX3_lapse 4 = .ok (.aload_n 0, 1) := by decide +kernel
theorem dX3_lapse_5 : decode cX3_lapse 5 = .ok (.getfield 10, 3) := by decide +kernel
theorem dX3_lapse_8 : decode cX3_lapse 8 = .ok (.invokevirtual 37, 3) := by decide +kernel
theorem dX3_lapse_11 : decode cX3_lapse 11 = .ok (.aload_n 0, 1) := by decide +kernel
theorem dX3_lapse_12 : decode cX3_lapse 12 = .ok (.aload_n 0, 1) := by decide +kernel
theorem dX3_lapse_13 : decode cX3_lapse 13 = .ok (.getfield 10, 3) := by decide +kernel
theorem dX3_lapse_16 : decode cX3_lapse 16 = .ok (.iload_n 1, 1) := by decide +kernel
theorem dX3_lapse_17 : decode cX3_lapse 17 = .ok (.invokevirtual 62, 3) := by decide +kernel
theorem dX3_lapse_20 : decode cX3_lapse 20 = .ok (.invokevirtual 45, 3) := by decide +kernel
theorem dX3_lapse_23 : decode cX3_lapse 23 = .ok (.ireturn, 1) := by decide +kernel
theorem dX3_cure_0 : decode cX3_cure 0 = .ok (.aload_n 0, 1) := by decide +kernel
theorem dX3_cure_1 : decode cX3_cure 1 = .ok (.getfield 30, 3) := by decide +kernel
theorem dX3_cure_4 : decode cX3_cure 4 = .ok (.aload_n 0, 1) := by decide +kernel
theorem dX3_cure_5 : decode cX3_cure 5 = .ok (.getfield 10, 3) := by decide +kernel
theorem dX3_cure_8 : decode cX3_cure 8 = .ok (.invokevirtual 37, 3) := by decide +kernel
theorem dX3_cure_11 : decode cX3_cure 11 = .ok (.aload_n 0, 1) := by decide +kernel
theorem dX3_cure_12 : decode cX3_cure 12 = .ok (.aload_n 0, 1) := by decide +kernel
theorem dX3_cure_13 : decode cX3_cure 13 = .ok (.getfield 10, 3) := by decide +kernel
theorem dX3_cure_16 : decode cX3_cure 16 = .ok (.iload_n 1, 1) := by decide +kernel
theorem dX3_cure_17 : decode cX3_cure 17 = .ok (.invokevirtual 65, 3) := by decide +kernel
theorem dX3_cure_20 : decode cX3_cure 20 = .ok (.invokevirtual 45, 3) := by decide +kernel
theorem dX3_cure_23 : decode cX3_cure 23 = .ok (.ireturn, 1) := by decide +kernel
theorem dX3_serve_0 : decode cX3_serve 0 = .ok (.aload_n 0, 1) := by decide +kernel
theorem dX3_serve_1 : decode cX3_serve 1 = .ok (.getfield 30, 3) := by decide +kernel
theorem dX3_serve_4 : decode cX3_serve 4 = .ok (.aload_n 0, 1) := by decide +kernel
theorem dX3_serve_5 : decode cX3_serve 5 = .ok (.getfield 10, 3) := by decide +kernel
theorem dX3_serve_8 : decode cX3_serve 8 = .ok (.invokevirtual 37, 3) := by decide +kernel
theorem dX3_serve_11 : decode cX3_serve 11 = .ok (.aload_n 0, 1) := by decide +kernel
theorem dX3_serve_12 : decode cX3_serve 12 = .ok (.aload_n 0, 1) := by decide +kernel
theorem dX3_serve_13 : decode cX3_serve 13 = .ok (.getfield 10, 3) := by decide +kernel
theorem dX3_serve_16 : decode cX3_serve 16 = .ok (.iload_n 1, 1) := by decide +kernel
theorem dX3_serve_17 : decode cX3_serve 17 = .ok (.iload_n 2, 1) := by decide +kernel
theorem dX3_serve_18 : decode cX3_serve 18 = .ok (.invokevirtual 68, 3) := by decide +kernel
theorem dX3_serve_21 : decode cX3_serve 21 = .ok (.invokevirtual 45, 3) := by decide +kernel
theorem dX3_serve_24 : decode cX3_serve 24 = .ok (.ireturn, 1) := by decide +kernel
theorem dX3_vary_0 : decode cX3_vary 0 = .ok (.aload_n 0, 1) := by decide +kernel
theorem dX3_vary_1 : decode cX3_vary 1 = .ok (.getfield 30, 3) := by decide +kernel
theorem dX3_vary_4 : decode cX3_vary 4 = .ok (.aload_n 0, 1) := by decide +kernel
theorem dX3_vary_5 : decode cX3_vary 5 = .ok (.getfield 10, 3) := by decide +kernel
theorem dX3_vary_8 : decode cX3_vary 8 = .ok (.invokevirtual 37, 3) := by decide +kernel
theorem dX3_vary_11 : decode cX3_vary 11 = .ok (.aload_n 0, 1) := by decide +kernel
theorem dX3_vary_12 : decode cX3_vary 12 = .ok (.aload_n 0, 1) := by decide +kernel
theorem dX3_vary_13 : decode cX3_vary 13 = .ok (.getfield 10, 3) := by decide +kernel
theorem dX3_vary_16 : decode cX3_vary 16 = .ok (.iload_n 1, 1) := by decide +kernel
theorem dX3_vary_17 : decode cX3_vary 17 = .ok (.iload_n 2, 1) := by decide +kernel
theorem dX3_vary_18 : decode cX3_vary 18 = .ok (.iload_n 3, 1) := by decide +kernel
theorem dX3_vary_19 : decode cX3_vary 19 = .ok (.invokevirtual 71, 3) := by decide +kernel
theorem dX3_vary_22 : decode cX3_vary 22 = .ok (.invokevirtual 45, 3) := by decide +kernel
theorem dX3_vary_25 : decode cX3_vary 25 = .ok (.ireturn, 1) := by decide +kernel
theorem dX3_pass_0 : decode cX3_pass 0 = .ok (.aload_n 0, 1) := by decide +kernel
theorem dX3_pass_1 : decode cX3_pass 1 = .ok (.getfield 30, 3) := by decide +kernel
theorem dX3_pass_4 : decode cX3_pass 4 = .ok (.aload_n 0, 1) := by decide +kernel
theorem dX3_pass_5 : decode cX3_pass 5 = .ok (.getfield 10, 3) := by decide +kernel
theorem dX3_pass_8 : decode cX3_pass 8 = .ok (.invokevirtual 37, 3) := by decide +kernel
theorem dX3_pass_11 : decode cX3_pass 11 = .ok (.aload_n 0, 1) := by decide +kernel
theorem dX3_pass_12 : decode cX3_pass 12 = .ok (.aload_n 0, 1) := by decide +kernel
theorem dX3_pass_13 : decode cX3_pass 13 = .ok (.getfield 10, 3) := by decide +kernel
theorem dX3_pass_16 : decode cX3_pass 16 = .ok (.iload_n 1, 1) := by decide +kernel
theorem dX3_pass_17 : decode cX3_pass 17 = .ok (.invokevirtual 75, 3) := by decide +kernel
theorem dX3_pass_20 : decode cX3_pass 20 = .ok (.invokevirtual 45, 3) := by decide +kernel
theorem dX3_pass_23 : decode cX3_pass 23 = .ok (.ireturn, 1) := by decide +kernel
theorem dX3_set_0 : decode cX3_set 0 = .ok (.aload_n 0, 1) := by decide +kernel
theorem dX3_set_1 : decode cX3_set 1 = .ok (.getfield 30, 3) := by decide +kernel
theorem dX3_set_4 : decode cX3_set 4 = .ok (.aload_n 0, 1) := by decide +kernel
theorem dX3_set_5 : decode cX3_set 5 = .ok (.getfield 10, 3) := by decide +kernel
theorem dX3_set_8 : decode cX3_set 8 = .ok (.invokevirtual 37, 3) := by decide +kernel
theorem dX3_set_11 : decode cX3_set 11 = .ok (.aload_n 0, 1) := by decide +kernel
theorem dX3_set_12 : decode cX3_set 12 = .ok (.aload_n 0, 1) := by decide +kernel
theorem dX3_set_13 : decode cX3_set 13 = .ok (.getfield 10, 3) := by decide +kernel
theorem dX3_set_16 : decode cX3_set 16 = .ok (.iload_n 1, 1) := by decide +kernel
theorem dX3_set_17 : decode cX3_set 17 = .ok (.iload_n 2, 1) := by decide +kernel
theorem dX3_set_18 : decode cX3_set 18 = .ok (.invokevirtual 78, 3) := by decide +kernel
theorem dX3_set_21 : decode cX3_set 21 = .ok (.invokevirtual 45, 3) := by decide +kernel
theorem dX3_set_24 : decode cX3_set 24 = .ok (.ireturn, 1) := by decide +kernel
theorem dX3_conditionOf_0 : decode cX3_conditionOf 0 = .ok (.aload_n 0, 1) := by decide +kernel
theorem dX3_conditionOf_1 : decode cX3_conditionOf 1 = .ok (.getfield 10, 3) := by decide +kernel
theorem dX3_conditionOf_4 : decode cX3_conditionOf 4 = .ok (.iload_n 1, 1) := by decide +kernel
theorem dX3_conditionOf_5 : decode cX3_conditionOf 5 = .ok (.invokevirtual 81, 3) := by decide +kernel
theorem dX3_conditionOf_8 : decode cX3_conditionOf 8 = .ok (.ifCond .ne 6, 3) := by decide +kernel
theorem dX3_conditionOf_11 : decode cX3_conditionOf 11 = .ok (.ldc 85, 2) := by decide +kernel
theorem dX3_conditionOf_13 : decode cX3_conditionOf 13 = .ok (.ireturn, 1) := by decide +kernel
theorem dX3_conditionOf_14 : decode cX3_conditionOf 14 = .ok (.aload_n 0, 1) := by decide +kernel
theorem dX3_conditionOf_15 : decode cX3_conditionOf 15 = .ok (.getfield 10, 3) := by decide +kernel
theorem dX3_conditionOf_18 : decode cX3_conditionOf 18 = .ok (.getfield 86, 3) := by decide +kernel
theorem dX3_conditionOf_21 : decode cX3_conditionOf 21 = .ok (.iload_n 1, 1) := by decide +kernel
theorem dX3_conditionOf_22 : decode cX3_conditionOf 22 = .ok (.aaload, 1) := by decide +kernel
theorem dX3_conditionOf_23 : decode cX3_conditionOf 23 = .ok (.astore_n 3, 1) := by decide +kernel
theorem dX3_conditionOf_24 : decode cX3_conditionOf 24 = .ok (.iload_n 2, 1) := by decide +kernel
theorem dX3_conditionOf_25 : decode cX3_conditionOf 25 = .ok (.tableswitch 163 0 11 #[63, 68, 73, 78, 83, 92, 97, 102, 119, 124, 141, 158], 63) := by decide +kernel
theorem dX3_conditionOf_88 : decode cX3_conditionOf 88 = .ok (.aload_n 3, 1) := by decide +kernel
theorem dX3_conditionOf_89 : decode cX3_conditionOf 89 = .ok (.getfield 90, 3) := by decide +kernel
theorem dX3_conditionOf_92 : decode cX3_conditionOf 92 = .ok (.ireturn, 1) := by decide +kernel
theorem dX3_conditionOf_93 : decode cX3_conditionOf 93 = .ok (.aload_n 3, 1) := by decide +kernel
theorem dX3_conditionOf_94 : decode cX3_conditionOf 94 = .ok (.getfield 95, 3) := by decide +kernel
theorem dX3_conditionOf_97 : decode cX3_conditionOf 97 = .ok (.ireturn, 1) := by decide +kernel
theorem dX3_conditionOf_98 : decode cX3_conditionOf 98 = .ok (.aload_n 3, 1) := by decide +kernel
theorem dX3_conditionOf_99 : decode cX3_conditionOf 99 = .ok (.getfield 98, 3) := by decide +kernel
theorem dX3_conditionOf_102 : decode cX3_conditionOf 102 = .ok (.ireturn, 1) := by decide +kernel
theorem dX3_conditionOf_103 : decode cX3_conditionOf 103 = .ok (.aload_n 3, 1) := by decide +kernel
theorem dX3_conditionOf_104 : decode cX3_conditionOf 104 = .ok (.getfield 101, 3) := by decide +kernel
theorem dX3_conditionOf_107 : decode cX3_conditionOf 107 = .ok (.ireturn, 1) := by decide +kernel
theorem dX3_conditionOf_108 : decode cX3_conditionOf 108 = .ok (.aload_n 0, 1) := by decide +kernel
theorem dX3_conditionOf_109 : decode cX3_conditionOf 109 = .ok (.getfield 10, 3) := by decide +kernel
theorem dX3_conditionOf_112 : decode cX3_conditionOf 112 = .ok (.aload_n 3, 1) := by decide +kernel
theorem dX3_conditionOf_113 : decode cX3_conditionOf 113 = .ok (.invokevirtual 104, 3) := by decide +kernel
theorem dX3_conditionOf_116 : decode cX3_conditionOf 116 = .ok (.ireturn, 1) := by decide +kernel
theorem dX3_conditionOf_117 : decode cX3_conditionOf 117 = .ok (.aload_n 3, 1) := by decide +kernel
theorem dX3_conditionOf_118 : decode cX3_conditionOf 118 = .ok (.getfield 108, 3) := by decide +kernel
theorem dX3_conditionOf_121 : decode cX3_conditionOf 121 = .ok (.ireturn, 1) := by decide +kernel
theorem dX3_conditionOf_122 : decode cX3_conditionOf 122 = .ok (.aload_n 3, 1) := by decide +kernel
theorem dX3_conditionOf_123 : decode cX3_conditionOf 123 = .ok (.getfield 111, 3) := by decide +kernel
theorem dX3_conditionOf_126 : decode cX3_conditionOf 126 = .ok (.ireturn, 1) := by decide +kernel
theorem dX3_conditionOf_127 : decode cX3_conditionOf 127 = .ok (.aload_n 3, 1) := by decide +kernel
theorem dX3_conditionOf_128 : decode cX3_conditionOf 128 = .ok (.getfield 111, 3) := by decide +kernel
theorem dX3_conditionOf_131 : decode cX3_conditionOf 131 = .ok (.ifCond .eq 10, 3) := by decide +kernel
theorem dX3_conditionOf_134 : decode cX3_conditionOf 134 = .ok (.aload_n 3, 1) := by decide +kernel
theorem dX3_conditionOf_135 : decode cX3_conditionOf 135 = .ok (.getfield 114, 3) := by decide +kernel
theorem dX3_conditionOf_138 : decode cX3_conditionOf 138 = .ok (.goto 5, 3) := by decide +kernel
theorem dX3_conditionOf_141 : decode cX3_conditionOf 141 = .ok (.ldc 117, 2) := by decide +kernel
theorem dX3_conditionOf_143 : decode cX3_conditionOf 143 = .ok (.ireturn, 1) := by decide +kernel
theorem dX3_conditionOf_144 : decode cX3_conditionOf 144 = .ok (.aload_n 3, 1) := by decide +kernel
theorem dX3_conditionOf_145 : decode cX3_conditionOf 145 = .ok (.getfield 118, 3) := by decide +kernel
theorem dX3_conditionOf_148 : decode cX3_conditionOf 148 = .ok (.ireturn, 1) := by decide +kernel
theorem dX3_conditionOf_149 : decode cX3_conditionOf 149 = .ok (.aload_n 3, 1) := by decide +kernel
theorem dX3_conditionOf_150 : decode cX3_conditionOf 150 = .ok (.getfield 121, 3) := by decide +kernel
theorem dX3_conditionOf_153 : decode cX3_conditionOf 153 = .ok (.ifCond .eq 10, 3) := by decide +kernel
theorem dX3_conditionOf_156 : decode cX3_conditionOf 156 = .ok (.aload_n 3, 1) := by decide +kernel
theorem dX3_conditionOf_157 : decode cX3_conditionOf 157 = .ok (.getfield 125, 3) := by decide +kernel
theorem dX3_conditionOf_160 : decode cX3_conditionOf 160 = .ok (.goto 5, 3) := by decide +kernel
theorem dX3_conditionOf_163 : decode cX3_conditionOf 163 = .ok (.ldc 117, 2) := by decide +kernel
theorem dX3_conditionOf_165 : decode cX3_conditionOf 165 = .ok (.ireturn, 1) := by decide +kernel
theorem dX3_conditionOf_166 : decode cX3_conditionOf 166 = .ok (.aload_n 3, 1) := by decide +kernel
theorem dX3_conditionOf_167 : decode cX3_conditionOf 167 = .ok (.getfield 128, 3) := by decide +kernel
theorem dX3_conditionOf_170 : decode cX3_conditionOf 170 = .ok (.ifCond .eq 10, 3) := by decide +kernel
theorem dX3_conditionOf_173 : decode cX3_conditionOf 173 = .ok (.aload_n 3, 1) := by decide +kernel
theorem dX3_conditionOf_174 : decode cX3_conditionOf 174 = .ok (.getfield 131, 3) := by decide +kernel
theorem dX3_conditionOf_177 : decode cX3_conditionOf 177 = .ok (.goto 5, 3) := by decide +kernel
theorem dX3_conditionOf_180 : decode cX3_conditionOf 180 = .ok (.ldc 117, 2) := by decide +kernel
theorem dX3_conditionOf_182 : decode cX3_conditionOf 182 = .ok (.ireturn, 1) := by decide +kernel
theorem dX3_conditionOf_183 : decode cX3_conditionOf 183 = .ok (.aload_n 3, 1) := by decide +kernel
theorem dX3_conditionOf_184 : decode cX3_conditionOf 184 = .ok (.getfield 134, 3) := by decide +kernel
theorem dX3_conditionOf_187 : decode cX3_conditionOf 187 = .ok (.ireturn, 1) := by decide +kernel
theorem dX3_conditionOf_188 : decode cX3_conditionOf 188 = .ok (.ldc 85, 2) := by decide +kernel
theorem dX3_conditionOf_190 : decode cX3_conditionOf 190 = .ok (.ireturn, 1) := by decide +kernel
theorem dX3_stageOf_0 : decode cX3_stageOf 0 = .ok (.iload_n 1, 1) := by decide +kernel
theorem dX3_stageOf_1 : decode cX3_stageOf 1 = .ok (.iconst 0, 1) := by decide +kernel
theorem dX3_stageOf_2 : decode cX3_stageOf 2 = .ok (.iconst 4, 1) := by decide +kernel
theorem dX3_stageOf_3 : decode cX3_stageOf 3 = .ok (.invokestatic 137, 3) := by decide +kernel
theorem dX3_stageOf_6 : decode cX3_stageOf 6 = .ok (.ifCond .ne 6, 3) := by decide +kernel
theorem dX3_stageOf_9 : decode cX3_stageOf 9 = .ok (.ldc 85, 2) := by decide +kernel
theorem dX3_stageOf_11 : decode cX3_stageOf 11 = .ok (.ireturn, 1) := by decide +kernel
theorem dX3_stageOf_12 : decode cX3_stageOf 12 = .ok (.iload_n 2, 1) := by decide +kernel
theorem dX3_stageOf_13 : decode cX3_stageOf 13 = .ok (.tableswitch 101 0 3 #[31, 40, 66, 92], 31) := by decide +kernel
theorem dX3_stageOf_44 : decode cX3_stageOf 44 = .ok (.aload_n 0, 1) := by decide +kernel
theorem dX3_stageOf_45 : decode cX3_stageOf 45 = .ok (.getfield 10, 3) := by decide +kernel
theorem dX3_stageOf_48 : decode cX3_stageOf 48 = .ok (.iload_n 1, 1) := by decide +kernel
theorem dX3_stageOf_49 : decode cX3_stageOf 49 = .ok (.invokevirtual 141, 3) := by decide +kernel
theorem dX3_stageOf_52 : decode cX3_stageOf 52 = .ok (.ireturn, 1) := by decide +kernel
theorem dX3_stageOf_53 : decode cX3_stageOf 53 = .ok (.aload_n 0, 1) := by decide +kernel
theorem dX3_stageOf_54 : decode cX3_stageOf 54 = .ok (.getfield 10, 3) := by decide +kernel
theorem dX3_stageOf_57 : decode cX3_stageOf 57 = .ok (.iload_n 1, 1) := by decide +kernel
theorem dX3_stageOf_58 : decode cX3_stageOf 58 = .ok (.invokevirtual 144, 3) := by decide +kernel
theorem dX3_stageOf_61 : decode cX3_stageOf 61 = .ok (.ifCond .eq 15, 3) := by decide +kernel
theorem dX3_stageOf_64 : decode cX3_stageOf 64 = .ok (.aload_n 0, 1) := by decide +kernel
theorem dX3_stageOf_65 : decode cX3_stageOf 65 = .ok (.getfield 10, 3) := by decide +kernel
theorem dX3_stageOf_68 : decode cX3_stageOf 68 = .ok (.getfield 147, 3) := by decide +kernel
theorem dX3_stageOf_71 : decode cX3_stageOf 71 = .ok (.iload_n 1, 1) := by decide +kernel
theorem dX3_stageOf_72 : decode cX3_stageOf 72 = .ok (.iaload, 1) := by decide +kernel
theorem dX3_stageOf_73 : decode cX3_stageOf 73 = .ok (.goto 5, 3) := by decide +kernel
theorem dX3_stageOf_76 : decode cX3_stageOf 76 = .ok (.ldc 117, 2) := by decide +kernel
theorem dX3_stageOf_78 : decode cX3_stageOf 78 = .ok (.ireturn, 1) := by decide +kernel
theorem dX3_stageOf_79 : decode cX3_stageOf 79 = .ok (.aload_n 0, 1) := by decide +kernel
theorem dX3_stageOf_80 : decode cX3_stageOf 80 = .ok (.getfield 10, 3) := by decide +kernel
theorem dX3_stageOf_83 : decode cX3_stageOf 83 = .ok (.iload_n 1, 1) := by decide +kernel
theorem dX3_stageOf_84 : decode cX3_stageOf 84 = .ok (.invokevirtual 151, 3) := by decide +kernel
theorem dX3_stageOf_87 : decode cX3_stageOf 87 = .ok (.ifCond .eq 15, 3) := by decide +kernel
theorem dX3_stageOf_90 : decode cX3_stageOf 90 = .ok (.aload_n 0, 1) := by decide +kernel
theorem dX3_stageOf_91 : decode cX3_stageOf 91 = .ok (.getfield 10, 3) := by decide +kernel
theorem dX3_stageOf_94 : decode cX3_stageOf 94 = .ok (.getfield 154, 3) := by decide +kernel
theorem dX3_stageOf_97 : decode cX3_stageOf 97 = .ok (.iload_n 1, 1) := by decide +kernel
theorem dX3_stageOf_98 : decode cX3_stageOf 98 = .ok (.iaload, 1) := by decide +kernel
theorem dX3_stageOf_99 : decode cX3_stageOf 99 = .ok (.goto 5, 3) := by decide +kernel
theorem dX3_stageOf_102 : decode cX3_stageOf 102 = .ok (.ldc 117, 2) := by decide +kernel
theorem dX3_stageOf_104 : decode cX3_stageOf 104 = .ok (.ireturn, 1) := by decide +kernel
theorem dX3_stageOf_105 : decode cX3_stageOf 105 = .ok (.aload_n 0, 1) := by decide +kernel
theorem dX3_stageOf_106 : decode cX3_stageOf 106 = .ok (.getfield 10, 3) := by decide +kernel
theorem dX3_stageOf_109 : decode cX3_stageOf 109 = .ok (.iload_n 1, 1) := by decide +kernel
theorem dX3_stageOf_110 : decode cX3_stageOf 110 = .ok (.invokevirtual 157, 3) := by decide +kernel
theorem dX3_stageOf_113 : decode cX3_stageOf 113 = .ok (.ireturn, 1) := by decide +kernel
theorem dX3_stageOf_114 : decode cX3_stageOf 114 = .ok (.ldc 85, 2) := by decide +kernel
theorem dX3_stageOf_116 : decode cX3_stageOf 116 = .ok (.ireturn, 1) := by decide +kernel
theorem dX3_which_0 : decode cX3_which 0 = .ok (.iload_n 1, 1) := by decide +kernel
theorem dX3_which_1 : decode cX3_which 1 = .ok (.iconst 0, 1) := by decide +kernel
theorem dX3_which_2 : decode cX3_which 2 = .ok (.iconst 4, 1) := by decide +kernel
theorem dX3_which_3 : decode cX3_which 3 = .ok (.invokestatic 137, 3) := by decide +kernel
theorem dX3_which_6 : decode cX3_which 6 = .ok (.ifCond .ne 6, 3) := by decide +kernel
theorem dX3_which_9 : decode cX3_which 9 = .ok (.ldc 85, 2) := by decide +kernel
theorem dX3_which_11 : decode cX3_which 11 = .ok (.ireturn, 1) := by decide +kernel
theorem dX3_which_12 : decode cX3_which 12 = .ok (.aload_n 0, 1) := by decide +kernel
theorem dX3_which_13 : decode cX3_which 13 = .ok (.getfield 10, 3) := by decide +kernel
theorem dX3_which_16 : decode cX3_which 16 = .ok (.iload_n 1, 1) := by decide +kernel
theorem dX3_which_17 : decode cX3_which 17 = .ok (.invokevirtual 160, 3) := by decide +kernel
theorem dX3_which_20 : decode cX3_which 20 = .ok (.ireturn, 1) := by decide +kernel
theorem dX3_when_0 : decode cX3_when 0 = .ok (.aload_n 0, 1) := by decide +kernel
theorem dX3_when_1 : decode cX3_when 1 = .ok (.getfield 10, 3) := by decide +kernel
theorem dX3_when_4 : decode cX3_when 4 = .ok (.iload_n 1, 1) := by decide +kernel
theorem dX3_when_5 : decode cX3_when 5 = .ok (.invokevirtual 81, 3) := by decide +kernel
theorem dX3_when_8 : decode cX3_when 8 = .ok (.ifCond .eq 12, 3) := by decide +kernel
theorem dX3_when_11 : decode cX3_when 11 = .ok (.iload_n 2, 1) := by decide +kernel
theorem dX3_when_12 : decode cX3_when 12 = .ok (.iconst 0, 1) := by decide +kernel
theorem dX3_when_13 : decode cX3_when 13 = .ok (.iconst 4, 1) := by decide +kernel
theorem dX3_when_14 : decode cX3_when 14 = .ok (.invokestatic 137, 3) := by decide +kernel
theorem dX3_when_17 : decode cX3_when 17 = .ok (.ifCond .ne 6, 3) := by decide +kernel
theorem dX3_when_20 : decode cX3_when 20 = .ok (.ldc 85, 2) := by decide +kernel
theorem dX3_when_22 : decode cX3_when 22 = .ok (.ireturn, 1) := by decide +kernel
theorem dX3_when_23 : decode cX3_when 23 = .ok (.aload_n 0, 1) := by decide +kernel
theorem dX3_when_24 : decode cX3_when 24 = .ok (.getfield 16, 3) := by decide +kernel
theorem dX3_when_27 : decode cX3_when 27 = .ok (.aload_n 0, 1) := by decide +kernel
theorem dX3_when_28 : decode cX3_when 28 = .ok (.getfield 10, 3) := by decide +kernel
theorem dX3_when_31 : decode cX3_when 31 = .ok (.invokevirtual 37, 3) := by decide +kernel
theorem dX3_when_34 : decode cX3_when 34 = .ok (.aload_n 0, 1) := by decide +kernel
theorem dX3_when_35 : decode cX3_when 35 = .ok (.getfield 16, 3) := by decide +kernel
theorem dX3_when_38 : decode cX3_when 38 = .ok (.iload_n 1, 1) := by decide +kernel
theorem dX3_when_39 : decode cX3_when 39 = .ok (.iload_n 2, 1) := by decide +kernel
theorem dX3_when_40 : decode cX3_when 40 = .ok (.invokevirtual 163, 3) := by decide +kernel
theorem dX3_when_43 : decode cX3_when 43 = .ok (.ireturn, 1) := by decide +kernel
theorem dX3_lawful_0 : decode cX3_lawful 0 = .ok (.iload_n 1, 1) := by decide +kernel
theorem dX3_lawful_1 : decode cX3_lawful 1 = .ok (.iconst 0, 1) := by decide +kernel
theorem dX3_lawful_2 : decode cX3_lawful 2 = .ok (.iconst 4, 1) := by decide +kernel
theorem dX3_lawful_3 : decode cX3_lawful 3 = .ok (.invokestatic 137, 3) := by decide +kernel
theorem dX3_lawful_6 : decode cX3_lawful 6 = .ok (.ifCond .ne 6, 3) := by decide +kernel
theorem dX3_lawful_9 : decode cX3_lawful 9 = .ok (.ldc 85, 2) := by decide +kernel
theorem dX3_lawful_11 : decode cX3_lawful 11 = .ok (.ireturn, 1) := by decide +kernel
theorem dX3_lawful_12 : decode cX3_lawful 12 = .ok (.aload_n 0, 1) := by decide +kernel
theorem dX3_lawful_13 : decode cX3_lawful 13 = .ok (.getfield 10, 3) := by decide +kernel
theorem dX3_lawful_16 : decode cX3_lawful 16 = .ok (.iload_n 1, 1) := by decide +kernel
theorem dX3_lawful_17 : decode cX3_lawful 17 = .ok (.invokevirtual 166, 3) := by decide +kernel
theorem dX3_lawful_20 : decode cX3_lawful 20 = .ok (.ifCond .ne 6, 3) := by decide +kernel
theorem dX3_lawful_23 : decode cX3_lawful 23 = .ok (.ldc 169, 2) := by decide +kernel
theorem dX3_lawful_25 : decode cX3_lawful 25 = .ok (.ireturn, 1) := by decide +kernel
theorem dX3_lawful_26 : decode cX3_lawful 26 = .ok (.aload_n 0, 1) := by decide +kernel
