-- decode rows out of the printed list of the task
theorem dX4_doServe_44 : decode cX4_doServe 44 = .ok (.iload_n 1, 1) := by decide +kernel
theorem dX4_doServe_45 : decode cX4_doServe 45 = .ok (.bipush 9, 2) := by decide +kernel
theorem dX4_doServe_47 : decode cX4_doServe 47 = .ok (.invokevirtual 46, 3) := by decide +kernel
theorem dX4_doServe_50 : decode cX4_doServe 50 = .ok (.ireturn, 1) := by decide +kernel
theorem dX4_isValue_0 : decode cX4_isValue 0 = .ok (.iload_n 2, 1) := by decide +kernel
theorem dX4_isValue_1 : decode cX4_isValue 1 = .ok (.ifCond .ne 16, 3) := by decide +kernel
theorem dX4_isValue_4 : decode cX4_isValue 4 = .ok (.aload_n 0, 1) := by decide +kernel
theorem dX4_isValue_5 : decode cX4_isValue 5 = .ok (.iload_n 1, 1) := by decide +kernel
theorem dX4_isValue_6 : decode cX4_isValue 6 = .ok (.iconst 0, 1) := by decide +kernel
theorem dX4_isValue_7 : decode cX4_isValue 7 = .ok (.invokevirtual 46, 3) := by decide +kernel
theorem dX4_isValue_10 : decode cX4_isValue 10 = .ok (.iload_n 3, 1) := by decide +kernel
theorem dX4_isValue_11 : decode cX4_isValue 11 = .ok (.invokestatic 81, 3) := by decide +kernel
theorem dX4_isValue_14 : decode cX4_isValue 14 = .ok (.goto 37, 3) := by decide +kernel
theorem dX4_isValue_17 : decode cX4_isValue 17 = .ok (.iload_n 2, 1) := by decide +kernel
theorem dX4_isValue_18 : decode cX4_isValue 18 = .ok (.iconst 1, 1) := by decide +kernel
theorem dX4_isValue_19 : decode cX4_isValue 19 = .ok (.if_icmp .ne 15, 3) := by decide +kernel
theorem dX4_isValue_22 : decode cX4_isValue 22 = .ok (.iload_n 3, 1) := by decide +kernel
theorem dX4_isValue_23 : decode cX4_isValue 23 = .ok (.i2l, 1) := by decide +kernel
theorem dX4_isValue_24 : decode cX4_isValue 24 = .ok (.lconst 1, 1) := by decide +kernel
theorem dX4_isValue_25 : decode cX4_isValue 25 = .ok (.ldc2_w 85, 3) := by decide +kernel
theorem dX4_isValue_28 : decode cX4_isValue 28 = .ok (.invokestatic 40, 3) := by decide +kernel
theorem dX4_isValue_31 : decode cX4_isValue 31 = .ok (.goto 20, 3) := by decide +kernel
theorem dX4_isValue_34 : decode cX4_isValue 34 = .ok (.iload_n 2, 1) := by decide +kernel
theorem dX4_isValue_35 : decode cX4_isValue 35 = .ok (.iconst 2, 1) := by decide +kernel
theorem dX4_isValue_36 : decode cX4_isValue 36 = .ok (.if_icmp .ne 14, 3) := by decide +kernel
theorem dX4_isValue_39 : decode cX4_isValue 39 = .ok (.iload_n 3, 1) := by decide +kernel
theorem dX4_isValue_40 : decode cX4_isValue 40 = .ok (.invokestatic 78, 3) := by decide +kernel
theorem dX4_isValue_43 : decode cX4_isValue 43 = .ok (.ifCond .eq 7, 3) := by decide +kernel
theorem dX4_isValue_46 : decode cX4_isValue 46 = .ok (.iconst 1, 1) := by decide +kernel
theorem dX4_isValue_47 : decode cX4_isValue 47 = .ok (.goto 4, 3) := by decide +kernel
theorem dX4_isValue_50 : decode cX4_isValue 50 = .ok (.iconst 0, 1) := by decide +kernel
theorem dX4_isValue_51 : decode cX4_isValue 51 = .ok (.ireturn, 1) := by decide +kernel
theorem dX4_mayVary_0 : decode cX4_mayVary 0 = .ok (.iload_n 2, 1) := by decide +kernel
theorem dX4_mayVary_1 : decode cX4_mayVary 1 = .ok (.ifCond .ne 48, 3) := by decide +kernel
theorem dX4_mayVary_4 : decode cX4_mayVary 4 = .ok (.aload_n 0, 1) := by decide +kernel
theorem dX4_mayVary_5 : decode cX4_mayVary 5 = .ok (.iload_n 1, 1) := by decide +kernel
theorem dX4_mayVary_6 : decode cX4_mayVary 6 = .ok (.bipush 7, 2) := by decide +kernel
theorem dX4_mayVary_8 : decode cX4_mayVary 8 = .ok (.invokevirtual 46, 3) := by decide +kernel
theorem dX4_mayVary_11 : decode cX4_mayVary 11 = .ok (.istore 4, 2) := by decide +kernel
theorem dX4_mayVary_13 : decode cX4_mayVary 13 = .ok (.aload_n 0, 1) := by decide +kernel
theorem dX4_mayVary_14 : decode cX4_mayVary 14 = .ok (.iload_n 1, 1) := by decide +kernel
theorem dX4_mayVary_15 : decode cX4_mayVary 15 = .ok (.iconst 0, 1) := by decide +kernel
theorem dX4_mayVary_16 : decode cX4_mayVary 16 = .ok (.invokevirtual 46, 3) := by decide +kernel
theorem dX4_mayVary_19 : decode cX4_mayVary 19 = .ok (.iconst 2, 1) := by decide +kernel
theorem dX4_mayVary_20 : decode cX4_mayVary 20 = .ok (.if_icmp .ne 17, 3) := by decide +kernel
theorem dX4_mayVary_23 : decode cX4_mayVary 23 = .ok (.iload 4, 2) := by decide +kernel
theorem dX4_mayVary_25 : decode cX4_mayVary 25 = .ok (.iload_n 3, 1) := by decide +kernel
theorem dX4_mayVary_26 : decode cX4_mayVary 26 = .ok (.if_icmp .ge 7, 3) := by decide +kernel
theorem dX4_mayVary_29 : decode cX4_mayVary 29 = .ok (.iconst 1, 1) := by decide +kernel
theorem dX4_mayVary_30 : decode cX4_mayVary 30 = .ok (.goto 18, 3) := by decide +kernel
theorem dX4_mayVary_33 : decode cX4_mayVary 33 = .ok (.iconst 0, 1) := by decide +kernel
theorem dX4_mayVary_34 : decode cX4_mayVary 34 = .ok (.goto 14, 3) := by decide +kernel
theorem dX4_mayVary_37 : decode cX4_mayVary 37 = .ok (.iload 4, 2) := by decide +kernel
theorem dX4_mayVary_39 : decode cX4_mayVary 39 = .ok (.iload_n 3, 1) := by decide +kernel
theorem dX4_mayVary_40 : decode cX4_mayVary 40 = .ok (.if_icmp .gt 7, 3) := by decide +kernel
theorem dX4_mayVary_43 : decode cX4_mayVary 43 = .ok (.iconst 1, 1) := by decide +kernel
theorem dX4_mayVary_44 : decode cX4_mayVary 44 = .ok (.goto 4, 3) := by decide +kernel
theorem dX4_mayVary_47 : decode cX4_mayVary 47 = .ok (.iconst 0, 1) := by decide +kernel
theorem dX4_mayVary_48 : decode cX4_mayVary 48 = .ok (.ireturn, 1) := by decide +kernel
theorem dX4_mayVary_49 : decode cX4_mayVary 49 = .ok (.iload_n 2, 1) := by decide +kernel
theorem dX4_mayVary_50 : decode cX4_mayVary 50 = .ok (.iconst 1, 1) := by decide +kernel
theorem dX4_mayVary_51 : decode cX4_mayVary 51 = .ok (.if_icmp .ne 21, 3) := by decide +kernel
theorem dX4_mayVary_54 : decode cX4_mayVary 54 = .ok (.iload_n 3, 1) := by decide +kernel
theorem dX4_mayVary_55 : decode cX4_mayVary 55 = .ok (.aload_n 0, 1) := by decide +kernel
theorem dX4_mayVary_56 : decode cX4_mayVary 56 = .ok (.iload_n 1, 1) := by decide +kernel
theorem dX4_mayVary_57 : decode cX4_mayVary 57 = .ok (.iconst 3, 1) := by decide +kernel
theorem dX4_mayVary_58 : decode cX4_mayVary 58 = .ok (.invokevirtual 46, 3) := by decide +kernel
theorem dX4_mayVary_61 : decode cX4_mayVary 61 = .ok (.if_icmp .le 7, 3) := by decide +kernel
theorem dX4_mayVary_64 : decode cX4_mayVary 64 = .ok (.iconst 1, 1) := by decide +kernel
theorem dX4_mayVary_65 : decode cX4_mayVary 65 = .ok (.goto 20, 3) := by decide +kernel
theorem dX4_mayVary_68 : decode cX4_mayVary 68 = .ok (.iconst 0, 1) := by decide +kernel
theorem dX4_mayVary_69 : decode cX4_mayVary 69 = .ok (.goto 16, 3) := by decide +kernel
theorem dX4_mayVary_72 : decode cX4_mayVary 72 = .ok (.aload_n 0, 1) := by decide +kernel
theorem dX4_mayVary_73 : decode cX4_mayVary 73 = .ok (.iload_n 3, 1) := by decide +kernel
theorem dX4_mayVary_74 : decode cX4_mayVary 74 = .ok (.invokevirtual 54, 3) := by decide +kernel
theorem dX4_mayVary_77 : decode cX4_mayVary 77 = .ok (.ifCond .ne 7, 3) := by decide +kernel
theorem dX4_mayVary_80 : decode cX4_mayVary 80 = .ok (.iconst 1, 1) := by decide +kernel
theorem dX4_mayVary_81 : decode cX4_mayVary 81 = .ok (.goto 4, 3) := by decide +kernel
theorem dX4_mayVary_84 : decode cX4_mayVary 84 = .ok (.iconst 0, 1) := by decide +kernel
theorem dX4_mayVary_85 : decode cX4_mayVary 85 = .ok (.ireturn, 1) := by decide +kernel
theorem dX4_doVary_0 : decode cX4_doVary 0 = .ok (.aload_n 0, 1) := by decide +kernel
theorem dX4_doVary_1 : decode cX4_doVary 1 = .ok (.iload_n 1, 1) := by decide +kernel
theorem dX4_doVary_2 : decode cX4_doVary 2 = .ok (.invokevirtual 99, 3) := by decide +kernel
theorem dX4_doVary_5 : decode cX4_doVary 5 = .ok (.ifCond .eq 13, 3) := by decide +kernel
theorem dX4_doVary_8 : decode cX4_doVary 8 = .ok (.aload_n 0, 1) := by decide +kernel
theorem dX4_doVary_9 : decode cX4_doVary 9 = .ok (.iload_n 1, 1) := by decide +kernel
theorem dX4_doVary_10 : decode cX4_doVary 10 = .ok (.iload_n 2, 1) := by decide +kernel
theorem dX4_doVary_11 : decode cX4_doVary 11 = .ok (.iload_n 3, 1) := by decide +kernel
theorem dX4_doVary_12 : decode cX4_doVary 12 = .ok (.invokevirtual 114, 3) := by decide +kernel
theorem dX4_doVary_15 : decode cX4_doVary 15 = .ok (.ifCond .ne 6, 3) := by decide +kernel
theorem dX4_doVary_18 : decode cX4_doVary 18 = .ok (.ldc 87, 2) := by decide +kernel
theorem dX4_doVary_20 : decode cX4_doVary 20 = .ok (.ireturn, 1) := by decide +kernel
theorem dX4_doVary_21 : decode cX4_doVary 21 = .ok (.aload_n 0, 1) := by decide +kernel
theorem dX4_doVary_22 : decode cX4_doVary 22 = .ok (.iload_n 1, 1) := by decide +kernel
theorem dX4_doVary_23 : decode cX4_doVary 23 = .ok (.invokevirtual 109, 3) := by decide +kernel
theorem dX4_doVary_26 : decode cX4_doVary 26 = .ok (.iconst 1, 1) := by decide +kernel
theorem dX4_doVary_27 : decode cX4_doVary 27 = .ok (.if_icmp .gt 22, 3) := by decide +kernel
theorem dX4_doVary_30 : decode cX4_doVary 30 = .ok (.aload_n 0, 1) := by decide +kernel
theorem dX4_doVary_31 : decode cX4_doVary 31 = .ok (.iload_n 1, 1) := by decide +kernel
theorem dX4_doVary_32 : decode cX4_doVary 32 = .ok (.iconst 5, 1) := by decide +kernel
theorem dX4_doVary_33 : decode cX4_doVary 33 = .ok (.invokevirtual 46, 3) := by decide +kernel
theorem dX4_doVary_36 : decode cX4_doVary 36 = .ok (.ifCond .ne 13, 3) := by decide +kernel
theorem dX4_doVary_39 : decode cX4_doVary 39 = .ok (.aload_n 0, 1) := by decide +kernel
theorem dX4_doVary_40 : decode cX4_doVary 40 = .ok (.iload_n 1, 1) := by decide +kernel
theorem dX4_doVary_41 : decode cX4_doVary 41 = .ok (.iload_n 2, 1) := by decide +kernel
theorem dX4_doVary_42 : decode cX4_doVary 42 = .ok (.iload_n 3, 1) := by decide +kernel
theorem dX4_doVary_43 : decode cX4_doVary 43 = .ok (.invokevirtual 118, 3) := by decide +kernel
theorem dX4_doVary_46 : decode cX4_doVary 46 = .ok (.ifCond .ne 6, 3) := by decide +kernel
theorem dX4_doVary_49 : decode cX4_doVary 49 = .ok (.ldc 88, 2) := by decide +kernel
theorem dX4_doVary_51 : decode cX4_doVary 51 = .ok (.ireturn, 1) := by decide +kernel
theorem dX4_doVary_52 : decode cX4_doVary 52 = .ok (.iload_n 2, 1) := by decide +kernel
theorem dX4_doVary_53 : decode cX4_doVary 53 = .ok (.ifCond .ne 7, 3) := by decide +kernel
theorem dX4_doVary_56 : decode cX4_doVary 56 = .ok (.iconst 2, 1) := by decide +kernel
theorem dX4_doVary_57 : decode cX4_doVary 57 = .ok (.goto 13, 3) := by decide +kernel
theorem dX4_doVary_60 : decode cX4_doVary 60 = .ok (.iload_n 2, 1) := by decide +kernel
theorem dX4_doVary_61 : decode cX4_doVary 61 = .ok (.iconst 1, 1) := by decide +kernel
theorem dX4_doVary_62 : decode cX4_doVary 62 = .ok (.if_icmp .ne 7, 3) := by decide +kernel
theorem dX4_doVary_65 : decode cX4_doVary 65 = .ok (.iconst 3, 1) := by decide +kernel
theorem dX4_doVary_66 : decode cX4_doVary 66 = .ok (.goto 4, 3) := by decide +kernel
theorem dX4_doVary_69 : decode cX4_doVary 69 = .ok (.iconst 1, 1) := by decide +kernel
theorem dX4_doVary_70 : decode cX4_doVary 70 = .ok (.istore 4, 2) := by decide +kernel
theorem dX4_doVary_72 : decode cX4_doVary 72 = .ok (.aload_n 0, 1) := by decide +kernel
theorem dX4_doVary_73 : decode cX4_doVary 73 = .ok (.iload_n 1, 1) := by decide +kernel
theorem dX4_doVary_74 : decode cX4_doVary 74 = .ok (.iload 4, 2) := by decide +kernel
theorem dX4_doVary_76 : decode cX4_doVary 76 = .ok (.invokevirtual 46, 3) := by decide +kernel
theorem dX4_doVary_79 : decode cX4_doVary 79 = .ok (.istore 5, 2) := by decide +kernel
theorem dX4_doVary_81 : decode cX4_doVary 81 = .ok (.aload_n 0, 1) := by decide +kernel
theorem dX4_doVary_82 : decode cX4_doVary 82 = .ok (.iload_n 1, 1) := by decide +kernel
theorem dX4_doVary_83 : decode cX4_doVary 83 = .ok (.iload 4, 2) := by decide +kernel
theorem dX4_doVary_85 : decode cX4_doVary 85 = .ok (.iload_n 3, 1) := by decide +kernel
theorem dX4_doVary_86 : decode cX4_doVary 86 = .ok (.invokevirtual 66, 3) := by decide +kernel
theorem dX4_doVary_89 : decode cX4_doVary 89 = .ok (.iload_n 2, 1) := by decide +kernel
theorem dX4_doVary_90 : decode cX4_doVary 90 = .ok (.iconst 2, 1) := by decide +kernel
theorem dX4_doVary_91 : decode cX4_doVary 91 = .ok (.if_icmp .ne 11, 3) := by decide +kernel
theorem dX4_doVary_94 : decode cX4_doVary 94 = .ok (.aload_n 0, 1) := by decide +kernel
theorem dX4_doVary_95 : decode cX4_doVary 95 = .ok (.iload_n 1, 1) := by decide +kernel
theorem dX4_doVary_96 : decode cX4_doVary 96 = .ok (.bipush 7, 2) := by decide +kernel
theorem dX4_doVary_98 : decode cX4_doVary 98 = .ok (.iconst 0, 1) := by decide +kernel
theorem dX4_doVary_99 : decode cX4_doVary 99 = .ok (.invokevirtual 66, 3) := by decide +kernel
theorem dX4_doVary_102 : decode cX4_doVary 102 = .ok (.iload 5, 2) := by decide +kernel
theorem dX4_doVary_104 : decode cX4_doVary 104 = .ok (.ireturn, 1) := by decide +kernel
theorem dX4_waitsOn_0 : decode cX4_waitsOn 0 = .ok (.aload_n 0, 1) := by decide +kernel
theorem dX4_waitsOn_1 : decode cX4_waitsOn 1 = .ok (.iload_n 1, 1) := by decide +kernel
theorem dX4_waitsOn_2 : decode cX4_waitsOn 2 = .ok (.iconst 5, 1) := by decide +kernel
theorem dX4_waitsOn_3 : decode cX4_waitsOn 3 = .ok (.invokevirtual 46, 3) := by decide +kernel
theorem dX4_waitsOn_6 : decode cX4_waitsOn 6 = .ok (.ifCond .ne 4, 3) := by decide +kernel
theorem dX4_waitsOn_9 : decode cX4_waitsOn 9 = .ok (.return_, 1) := by decide +kernel
theorem dX4_waitsOn_10 : decode cX4_waitsOn 10 = .ok (.aload_n 0, 1) := by decide +kernel
theorem dX4_waitsOn_11 : decode cX4_waitsOn 11 = .ok (.iload_n 1, 1) := by decide +kernel
theorem dX4_waitsOn_12 : decode cX4_waitsOn 12 = .ok (.bipush 6, 2) := by decide +kernel
theorem dX4_waitsOn_14 : decode cX4_waitsOn 14 = .ok (.aload_n 0, 1) := by decide +kernel
theorem dX4_waitsOn_15 : decode cX4_waitsOn 15 = .ok (.iload_n 1, 1) := by decide +kernel
theorem dX4_waitsOn_16 : decode cX4_waitsOn 16 = .ok (.bipush 6, 2) := by decide +kernel
theorem dX4_waitsOn_18 : decode cX4_waitsOn 18 = .ok (.invokevirtual 46, 3) := by decide +kernel
theorem dX4_waitsOn_21 : decode cX4_waitsOn 21 = .ok (.iconst 1, 1) := by decide +kernel
theorem dX4_waitsOn_22 : decode cX4_waitsOn 22 = .ok (.iadd, 1) := by decide +kernel
theorem dX4_waitsOn_23 : decode cX4_waitsOn 23 = .ok (.invokevirtual 66, 3) := by decide +kernel
theorem dX4_waitsOn_26 : decode cX4_waitsOn 26 = .ok (.aload_n 0, 1) := by decide +kernel
theorem dX4_waitsOn_27 : decode cX4_waitsOn 27 = .ok (.iload_n 1, 1) := by decide +kernel
theorem dX4_waitsOn_28 : decode cX4_waitsOn 28 = .ok (.bipush 6, 2) := by decide +kernel
theorem dX4_waitsOn_30 : decode cX4_waitsOn 30 = .ok (.invokevirtual 46, 3) := by decide +kernel
theorem dX4_waitsOn_33 : decode cX4_waitsOn 33 = .ok (.aload_n 0, 1) := by decide +kernel
theorem dX4_waitsOn_34 : decode cX4_waitsOn 34 = .ok (.getfield 7, 3) := by decide +kernel
theorem dX4_waitsOn_37 : decode cX4_waitsOn 37 = .ok (.iconst 2, 1) := by decide +kernel
theorem dX4_waitsOn_38 : decode cX4_waitsOn 38 = .ok (.iaload, 1) := by decide +kernel
theorem dX4_waitsOn_39 : decode cX4_waitsOn 39 = .ok (.if_icmp .lt 32, 3) := by decide +kernel
theorem dX4_waitsOn_42 : decode cX4_waitsOn 42 = .ok (.aload_n 0, 1) := by decide +kernel
theorem dX4_waitsOn_43 : decode cX4_waitsOn 43 = .ok (.getfield 7, 3) := by decide +kernel
theorem dX4_waitsOn_46 : decode cX4_waitsOn 46 = .ok (.iconst 5, 1) := by decide +kernel
theorem dX4_waitsOn_47 : decode cX4_waitsOn 47 = .ok (.dup2, 1) := by decide +kernel
theorem dX4_waitsOn_48 : decode cX4_waitsOn 48 = .ok (.iaload, 1) := by decide +kernel
theorem dX4_waitsOn_49 : decode cX4_waitsOn 49 = .ok (.aload_n 0, 1) := by decide +kernel
theorem dX4_waitsOn_50 : decode cX4_waitsOn 50 = .ok (.iload_n 1, 1) := by decide +kernel
theorem dX4_waitsOn_51 : decode cX4_waitsOn 51 = .ok (.iconst 5, 1) := by decide +kernel
theorem dX4_waitsOn_52 : decode cX4_waitsOn 52 = .ok (.invokevirtual 46, 3) := by decide +kernel
theorem dX4_waitsOn_55 : decode cX4_waitsOn 55 = .ok (.invokestatic 106, 3) := by decide +kernel
theorem dX4_waitsOn_58 : decode cX4_waitsOn 58 = .ok (.iadd, 1) := by decide +kernel
theorem dX4_waitsOn_59 : decode cX4_waitsOn 59 = .ok (.iastore, 1) := by decide +kernel
theorem dX4_waitsOn_60 : decode cX4_waitsOn 60 = .ok (.aload_n 0, 1) := by decide +kernel
theorem dX4_waitsOn_61 : decode cX4_waitsOn 61 = .ok (.iload_n 1, 1) := by decide +kernel
theorem dX4_waitsOn_62 : decode cX4_waitsOn 62 = .ok (.aload_n 0, 1) := by decide +kernel
theorem dX4_waitsOn_63 : decode cX4_waitsOn 63 = .ok (.iload_n 1, 1) := by decide +kernel
theorem dX4_waitsOn_64 : decode cX4_waitsOn 64 = .ok (.iconst 5, 1) := by decide +kernel
theorem dX4_waitsOn_65 : decode cX4_waitsOn 65 = .ok (.invokevirtual 46, 3) := by decide +kernel
theorem dX4_waitsOn_68 : decode cX4_waitsOn 68 = .ok (.invokevirtual 102, 3) := by decide +kernel
theorem dX4_waitsOn_71 : decode cX4_waitsOn 71 = .ok (.return_, 1) := by decide +kernel
theorem dX4_runsOn_0 : decode cX4_runsOn 0 = .ok (.aload_n 0, 1) := by decide +kernel
theorem dX4_runsOn_1 : decode cX4_runsOn 1 = .ok (.iload_n 1, 1) := by decide +kernel
theorem dX4_runsOn_2 : decode cX4_runsOn 2 = .ok (.iconst 0, 1) := by decide +kernel
theorem dX4_runsOn_3 : decode cX4_runsOn 3 = .ok (.invokevirtual 46, 3) := by decide +kernel
theorem dX4_runsOn_6 : decode cX4_runsOn 6 = .ok (.istore_n 2, 1) := by decide +kernel
theorem dX4_runsOn_7 : decode cX4_runsOn 7 = .ok (.aload_n 0, 1) := by decide +kernel
theorem dX4_runsOn_8 : decode cX4_runsOn 8 = .ok (.iload_n 1, 1) := by decide +kernel
theorem dX4_runsOn_9 : decode cX4_runsOn 9 = .ok (.invokevirtual 109, 3) := by decide +kernel
theorem dX4_runsOn_12 : decode cX4_runsOn 12 = .ok (.iconst 1, 1) := by decide +kernel
theorem dX4_runsOn_13 : decode cX4_runsOn 13 = .ok (.if_icmp .ne 26, 3) := by decide +kernel
theorem dX4_runsOn_16 : decode cX4_runsOn 16 = .ok (.iload_n 2, 1) := by decide +kernel
theorem dX4_runsOn_17 : decode cX4_runsOn 17 = .ok (.iconst 2, 1) := by decide +kernel
theorem dX4_runsOn_18 : decode cX4_runsOn 18 = .ok (.if_icmp .eq 17, 3) := by decide +kernel
theorem dX4_runsOn_21 : decode cX4_runsOn 21 = .ok (.iload_n 2, 1) := by decide +kernel
theorem dX4_runsOn_22 : decode cX4_runsOn 22 = .ok (.iconst 1, 1) := by decide +kernel
theorem dX4_runsOn_23 : decode cX4_runsOn 23 = .ok (.if_icmp .ne 16, 3) := by decide +kernel
theorem dX4_runsOn_26 : decode cX4_runsOn 26 = .ok (.aload_n 0, 1) := by decide +kernel
theorem dX4_runsOn_27 : decode cX4_runsOn 27 = .ok (.iload_n 1, 1) := by decide +kernel
theorem dX4_runsOn_28 : decode cX4_runsOn 28 = .ok (.iconst 5, 1) := by decide +kernel
theorem dX4_runsOn_29 : decode cX4_runsOn 29 = .ok (.invokevirtual 46, 3) := by decide +kernel
theorem dX4_runsOn_32 : decode cX4_runsOn 32 = .ok (.ifCond .ne 7, 3) := by decide +kernel
theorem dX4_runsOn_35 : decode cX4_runsOn 35 = .ok (.iconst 1, 1) := by decide +kernel
theorem dX4_runsOn_36 : decode cX4_runsOn 36 = .ok (.goto 4, 3) := by decide +kernel
theorem dX4_runsOn_39 : decode cX4_runsOn 39 = .ok (.iconst 0, 1) := by decide +kernel
theorem dX4_runsOn_40 : decode cX4_runsOn 40 = .ok (.istore_n 3, 1) := by decide +kernel
theorem dX4_runsOn_41 : decode cX4_runsOn 41 = .ok (.iload_n 3, 1) := by decide +kernel
theorem dX4_runsOn_42 : decode cX4_runsOn 42 = .ok (.ifCond .eq 45, 3) := by decide +kernel
theorem dX4_runsOn_45 : decode cX4_runsOn 45 = .ok (.aload_n 0, 1) := by decide +kernel
theorem dX4_runsOn_46 : decode cX4_runsOn 46 = .ok (.iload_n 1, 1) := by decide +kernel
theorem dX4_runsOn_47 : decode cX4_runsOn 47 = .ok (.bipush 7, 2) := by decide +kernel
theorem dX4_runsOn_49 : decode cX4_runsOn 49 = .ok (.aload_n 0, 1) := by decide +kernel
theorem dX4_runsOn_50 : decode cX4_runsOn 50 = .ok (.iload_n 1, 1) := by decide +kernel
theorem dX4_runsOn_51 : decode cX4_runsOn 51 = .ok (.bipush 7, 2) := by decide +kernel
theorem dX4_runsOn_53 : decode cX4_runsOn 53 = .ok (.invokevirtual 46, 3) := by decide +kernel
theorem dX4_runsOn_56 : decode cX4_runsOn 56 = .ok (.iconst 1, 1) := by decide +kernel
theorem dX4_runsOn_57 : decode cX4_runsOn 57 = .ok (.iadd, 1) := by decide +kernel
theorem dX4_runsOn_58 : decode cX4_runsOn 58 = .ok (.invokevirtual 66, 3) := by decide +kernel
theorem dX4_runsOn_61 : decode cX4_runsOn 61 = .ok (.iload_n 2, 1) := by decide +kernel
theorem dX4_runsOn_62 : decode cX4_runsOn 62 = .ok (.iconst 1, 1) := by decide +kernel
theorem dX4_runsOn_63 : decode cX4_runsOn 63 = .ok (.if_icmp .ne 24, 3) := by decide +kernel
theorem dX4_runsOn_66 : decode cX4_runsOn 66 = .ok (.aload_n 0, 1) := by decide +kernel
theorem dX4_runsOn_67 : decode cX4_runsOn 67 = .ok (.iload_n 1, 1) := by decide +kernel
theorem dX4_runsOn_68 : decode cX4_runsOn 68 = .ok (.bipush 7, 2) := by decide +kernel
theorem dX4_runsOn_70 : decode cX4_runsOn 70 = .ok (.invokevirtual 46, 3) := by decide +kernel
theorem dX4_runsOn_73 : decode cX4_runsOn 73 = .ok (.aload_n 0, 1) := by decide +kernel
theorem dX4_runsOn_74 : decode cX4_runsOn 74 = .ok (.iload_n 1, 1) := by decide +kernel
theorem dX4_runsOn_75 : decode cX4_runsOn 75 = .ok (.iconst 2, 1) := by decide +kernel
theorem dX4_runsOn_76 : decode cX4_runsOn 76 = .ok (.invokevirtual 46, 3) := by decide +kernel
theorem dX4_runsOn_79 : decode cX4_runsOn 79 = .ok (.if_icmp .le 8, 3) := by decide +kernel
theorem dX4_runsOn_82 : decode cX4_runsOn 82 = .ok (.aload_n 0, 1) := by decide +kernel
theorem dX4_runsOn_83 : decode cX4_runsOn 83 = .ok (.iload_n 1, 1) := by decide +kernel
theorem dX4_runsOn_84 : decode cX4_runsOn 84 = .ok (.invokevirtual 96, 3) := by decide +kernel
theorem dX4_runsOn_87 : decode cX4_runsOn 87 = .ok (.return_, 1) := by decide +kernel
theorem dX4_ages_0 : decode cX4_ages 0 = .ok (.aload_n 0, 1) := by decide +kernel
theorem dX4_ages_1 : decode cX4_ages 1 = .ok (.iload_n 1, 1) := by decide +kernel
theorem dX4_ages_2 : decode cX4_ages 2 = .ok (.bipush 9, 2) := by decide +kernel
theorem dX4_ages_4 : decode cX4_ages 4 = .ok (.aload_n 0, 1) := by decide +kernel
theorem dX4_ages_5 : decode cX4_ages 5 = .ok (.iload_n 1, 1) := by decide +kernel
theorem dX4_ages_6 : decode cX4_ages 6 = .ok (.bipush 9, 2) := by decide +kernel
theorem dX4_ages_8 : decode cX4_ages 8 = .ok (.invokevirtual 46, 3) := by decide +kernel
theorem dX4_ages_11 : decode cX4_ages 11 = .ok (.iconst 1, 1) := by decide +kernel
theorem dX4_ages_12 : decode cX4_ages 12 = .ok (.iadd, 1) := by decide +kernel
theorem dX4_ages_13 : decode cX4_ages 13 = .ok (.invokevirtual 66, 3) := by decide +kernel
theorem dX4_ages_16 : decode cX4_ages 16 = .ok (.aload_n 0, 1) := by decide +kernel
theorem dX4_ages_17 : decode cX4_ages 17 = .ok (.iload_n 1, 1) := by decide +kernel
theorem dX4_ages_18 : decode cX4_ages 18 = .ok (.bipush 10, 2) := by decide +kernel
theorem dX4_ages_20 : decode cX4_ages 20 = .ok (.invokevirtual 46, 3) := by decide +kernel
theorem dX4_ages_23 : decode cX4_ages 23 = .ok (.istore_n 2, 1) := by decide +kernel
theorem dX4_ages_24 : decode cX4_ages 24 = .ok (.iload_n 2, 1) := by decide +kernel
theorem dX4_ages_25 : decode cX4_ages 25 = .ok (.ifCond .le 16, 3) := by decide +kernel
theorem dX4_ages_28 : decode cX4_ages 28 = .ok (.aload_n 0, 1) := by decide +kernel
theorem dX4_ages_29 : decode cX4_ages 29 = .ok (.iload_n 1, 1) := by decide +kernel
theorem dX4_ages_30 : decode cX4_ages 30 = .ok (.bipush 10, 2) := by decide +kernel
theorem dX4_ages_32 : decode cX4_ages 32 = .ok (.iload_n 2, 1) := by decide +kernel
theorem dX4_ages_33 : decode cX4_ages 33 = .ok (.iconst 1, 1) := by decide +kernel
theorem dX4_ages_34 : decode cX4_ages 34 = .ok (.isub, 1) := by decide +kernel
theorem dX4_ages_35 : decode cX4_ages 35 = .ok (.invokevirtual 66, 3) := by decide +kernel
theorem dX4_ages_38 : decode cX4_ages 38 = .ok (.goto 55, 3) := by decide +kernel
theorem dX4_ages_41 : decode cX4_ages 41 = .ok (.iload_n 2, 1) := by decide +kernel
theorem dX4_ages_42 : decode cX4_ages 42 = .ok (.ifCond .ne 22, 3) := by decide +kernel
theorem dX4_ages_45 : decode cX4_ages 45 = .ok (.aload_n 0, 1) := by decide +kernel
theorem dX4_ages_46 : decode cX4_ages 46 = .ok (.iload_n 1, 1) := by decide +kernel
theorem dX4_ages_47 : decode cX4_ages 47 = .ok (.bipush 11, 2) := by decide +kernel
theorem dX4_ages_49 : decode cX4_ages 49 = .ok (.aload_n 0, 1) := by decide +kernel
theorem dX4_ages_50 : decode cX4_ages 50 = .ok (.iload_n 1, 1) := by decide +kernel
theorem dX4_ages_51 : decode cX4_ages 51 = .ok (.bipush 11, 2) := by decide +kernel
theorem dX4_ages_53 : decode cX4_ages 53 = .ok (.invokevirtual 46, 3) := by decide +kernel
theorem dX4_ages_56 : decode cX4_ages 56 = .ok (.iconst 1, 1) := by decide +kernel
theorem dX4_ages_57 : decode cX4_ages 57 = .ok (.iadd, 1) := by decide +kernel
theorem dX4_ages_58 : decode cX4_ages 58 = .ok (.invokevirtual 66, 3) := by decide +kernel
theorem dX4_ages_61 : decode cX4_ages 61 = .ok (.goto 32, 3) := by decide +kernel
theorem dX4_ages_64 : decode cX4_ages 64 = .ok (.aload_n 0, 1) := by decide +kernel
theorem dX4_ages_65 : decode cX4_ages 65 = .ok (.iload_n 1, 1) := by decide +kernel
theorem dX4_ages_66 : decode cX4_ages 66 = .ok (.bipush 9, 2) := by decide +kernel
theorem dX4_ages_68 : decode cX4_ages 68 = .ok (.invokevirtual 46, 3) := by decide +kernel
theorem dX4_ages_71 : decode cX4_ages 71 = .ok (.aload_n 0, 1) := by decide +kernel
theorem dX4_ages_72 : decode cX4_ages 72 = .ok (.getfield 7, 3) := by decide +kernel
theorem dX4_ages_75 : decode cX4_ages 75 = .ok (.iconst 3, 1) := by decide +kernel
theorem dX4_ages_76 : decode cX4_ages 76 = .ok (.iaload, 1) := by decide +kernel
theorem dX4_ages_77 : decode cX4_ages 77 = .ok (.if_icmp .lt 16, 3) := by decide +kernel
theorem dX4_ages_80 : decode cX4_ages 80 = .ok (.aload_n 0, 1) := by decide +kernel
theorem dX4_ages_81 : decode cX4_ages 81 = .ok (.iload_n 1, 1) := by decide +kernel
theorem dX4_ages_82 : decode cX4_ages 82 = .ok (.invokevirtual 70, 3) := by decide +kernel
theorem dX4_ages_85 : decode cX4_ages 85 = .ok (.aload_n 0, 1) := by decide +kernel
theorem dX4_ages_86 : decode cX4_ages 86 = .ok (.iload_n 1, 1) := by decide +kernel
theorem dX4_ages_87 : decode cX4_ages 87 = .ok (.bipush 12, 2) := by decide +kernel
theorem dX4_ages_89 : decode cX4_ages 89 = .ok (.iconst 1, 1) := by decide +kernel
theorem dX4_ages_90 : decode cX4_ages 90 = .ok (.invokevirtual 66, 3) := by decide +kernel
theorem dX4_ages_93 : decode cX4_ages 93 = .ok (.return_, 1) := by decide +kernel
theorem dX4_passDay_0 : decode cX4_passDay 0 = .ok (.aload_n 0, 1) := by decide +kernel
theorem dX4_passDay_1 : decode cX4_passDay 1 = .ok (.getfield 7, 3) := by decide +kernel
theorem dX4_passDay_4 : decode cX4_passDay 4 = .ok (.iconst 0, 1) := by decide +kernel
theorem dX4_passDay_5 : decode cX4_passDay 5 = .ok (.dup2, 1) := by decide +kernel
theorem dX4_passDay_6 : decode cX4_passDay 6 = .ok (.iaload, 1) := by decide +kernel
theorem dX4_passDay_7 : decode cX4_passDay 7 = .ok (.iconst 1, 1) := by decide +kernel
theorem dX4_passDay_8 : decode cX4_passDay 8 = .ok (.iadd, 1) := by decide +kernel
theorem dX4_passDay_9 : decode cX4_passDay 9 = .ok (.iastore, 1) := by decide +kernel
theorem dX4_passDay_10 : decode cX4_passDay 10 = .ok (.iconst 0, 1) := by decide +kernel
theorem dX4_passDay_11 : decode cX4_passDay 11 = .ok (.istore_n 1, 1) := by decide +kernel
theorem dX4_passDay_12 : decode cX4_passDay 12 = .ok (.iconst 0, 1) := by decide +kernel
theorem dX4_passDay_13 : decode cX4_passDay 13 = .ok (.istore_n 2, 1) := by decide +kernel
theorem dX4_passDay_14 : decode cX4_passDay 14 = .ok (.iload_n 2, 1) := by decide +kernel
theorem dX4_passDay_15 : decode cX4_passDay 15 = .ok (.aload_n 0, 1) := by decide +kernel
theorem dX4_passDay_16 : decode cX4_passDay 16 = .ok (.getfield 7, 3) := by decide +kernel
theorem dX4_passDay_19 : decode cX4_passDay 19 = .ok (.iconst 1, 1) := by decide +kernel
theorem dX4_passDay_20 : decode cX4_passDay 20 = .ok (.iaload, 1) := by decide +kernel
theorem dX4_passDay_21 : decode cX4_passDay 21 = .ok (.if_icmp .ge 21, 3) := by decide +kernel
theorem dX4_passDay_24 : decode cX4_passDay 24 = .ok (.iload_n 1, 1) := by decide +kernel
theorem dX4_passDay_25 : decode cX4_passDay 25 = .ok (.aload_n 0, 1) := by decide +kernel
theorem dX4_passDay_26 : decode cX4_passDay 26 = .ok (.iload_n 2, 1) := by decide +kernel
theorem dX4_passDay_27 : decode cX4_passDay 27 = .ok (.bipush 8, 2) := by decide +kernel
theorem dX4_passDay_29 : decode cX4_passDay 29 = .ok (.invokevirtual 46, 3) := by decide +kernel
theorem dX4_passDay_32 : decode cX4_passDay 32 = .ok (.iload_n 2, 1) := by decide +kernel
theorem dX4_passDay_33 : decode cX4_passDay 33 = .ok (.ishl, 1) := by decide +kernel
theorem dX4_passDay_34 : decode cX4_passDay 34 = .ok (.ior, 1) := by decide +kernel
theorem dX4_passDay_35 : decode cX4_passDay 35 = .ok (.istore_n 1, 1) := by decide +kernel
theorem dX4_passDay_36 : decode cX4_passDay 36 = .ok (.iinc 2 1, 3) := by decide +kernel
theorem dX4_passDay_39 : decode cX4_passDay 39 = .ok (.goto (-25), 3) := by decide +kernel
theorem dX4_passDay_42 : decode cX4_passDay 42 = .ok (.iconst 0, 1) := by decide +kernel
theorem dX4_passDay_43 : decode cX4_passDay 43 = .ok (.istore_n 2, 1) := by decide +kernel
theorem dX4_passDay_44 : decode cX4_passDay 44 = .ok (.iload_n 2, 1) := by decide +kernel
theorem dX4_passDay_45 : decode cX4_passDay 45 = .ok (.aload_n 0, 1) := by decide +kernel
theorem dX4_passDay_46 : decode cX4_passDay 46 = .ok (.getfield 7, 3) := by decide +kernel
theorem dX4_passDay_49 : decode cX4_passDay 49 = .ok (.iconst 1, 1) := by decide +kernel
theorem dX4_passDay_50 : decode cX4_passDay 50 = .ok (.iaload, 1) := by decide +kernel
theorem dX4_passDay_51 : decode cX4_passDay 51 = .ok (.if_icmp .ge 14, 3) := by decide +kernel
theorem dX4_passDay_54 : decode cX4_passDay 54 = .ok (.aload_n 0, 1) := by decide +kernel
theorem dX4_passDay_55 : decode cX4_passDay 55 = .ok (.iload_n 2, 1) := by decide +kernel
theorem dX4_passDay_56 : decode cX4_passDay 56 = .ok (.invokevirtual 121, 3) := by decide +kernel
theorem dX4_passDay_59 : decode cX4_passDay 59 = .ok (.iinc 2 1, 3) := by decide +kernel
theorem dX4_passDay_62 : decode cX4_passDay 62 = .ok (.goto (-18), 3) := by decide +kernel
theorem dX4_passDay_65 : decode cX4_passDay 65 = .ok (.iconst 0, 1) := by decide +kernel
theorem dX4_passDay_66 : decode cX4_passDay 66 = .ok (.istore_n 2, 1) := by decide +kernel
theorem dX4_passDay_67 : decode cX4_passDay 67 = .ok (.iload_n 2, 1) := by decide +kernel
theorem dX4_passDay_68 : decode cX4_passDay 68 = .ok (.aload_n 0, 1) := by decide +kernel
theorem dX4_passDay_69 : decode cX4_passDay 69 = .ok (.getfield 7, 3) := by decide +kernel
theorem dX4_passDay_72 : decode cX4_passDay 72 = .ok (.iconst 1, 1) := by decide +kernel
theorem dX4_passDay_73 : decode cX4_passDay 73 = .ok (.iaload, 1) := by decide +kernel
theorem dX4_passDay_74 : decode cX4_passDay 74 = .ok (.if_icmp .ge 14, 3) := by decide +kernel
theorem dX4_passDay_77 : decode cX4_passDay 77 = .ok (.aload_n 0, 1) := by decide +kernel
theorem dX4_passDay_78 : decode cX4_passDay 78 = .ok (.iload_n 2, 1) := by decide +kernel
theorem dX4_passDay_79 : decode cX4_passDay 79 = .ok (.invokevirtual 124, 3) := by decide +kernel
theorem dX4_passDay_82 : decode cX4_passDay 82 = .ok (.iinc 2 1, 3) := by decide +kernel
theorem dX4_passDay_85 : decode cX4_passDay 85 = .ok (.goto (-18), 3) := by decide +kernel
theorem dX4_passDay_88 : decode cX4_passDay 88 = .ok (.iconst 0, 1) := by decide +kernel
theorem dX4_passDay_89 : decode cX4_passDay 89 = .ok (.istore_n 2, 1) := by decide +kernel
theorem dX4_passDay_90 : decode cX4_passDay 90 = .ok (.iload_n 2, 1) := by decide +kernel
theorem dX4_passDay_91 : decode cX4_passDay 91 = .ok (.aload_n 0, 1) := by decide +kernel
theorem dX4_passDay_92 : decode cX4_passDay 92 = .ok (.getfield 7, 3) := by decide +kernel
theorem dX4_passDay_95 : decode cX4_passDay 95 = .ok (.iconst 1, 1) := by decide +kernel
theorem dX4_passDay_96 : decode cX4_passDay 96 = .ok (.iaload, 1) := by decide +kernel
theorem dX4_passDay_97 : decode cX4_passDay 97 = .ok (.if_icmp .ge 34, 3) := by decide +kernel
theorem dX4_passDay_100 : decode cX4_passDay 100 = .ok (.iload_n 1, 1) := by decide +kernel
theorem dX4_passDay_101 : decode cX4_passDay 101 = .ok (.iload_n 2, 1) := by decide +kernel
theorem dX4_passDay_102 : decode cX4_passDay 102 = .ok (.ishr, 1) := by decide +kernel
theorem dX4_passDay_103 : decode cX4_passDay 103 = .ok (.iconst 1, 1) := by decide +kernel
theorem dX4_passDay_104 : decode cX4_passDay 104 = .ok (.iand, 1) := by decide +kernel
theorem dX4_passDay_105 : decode cX4_passDay 105 = .ok (.iconst 1, 1) := by decide +kernel
theorem dX4_passDay_106 : decode cX4_passDay 106 = .ok (.if_icmp .ne 19, 3) := by decide +kernel
theorem dX4_passDay_109 : decode cX4_passDay 109 = .ok (.aload_n 0, 1) := by decide +kernel
theorem dX4_passDay_110 : decode cX4_passDay 110 = .ok (.iload_n 2, 1) := by decide +kernel
theorem dX4_passDay_111 : decode cX4_passDay 111 = .ok (.bipush 8, 2) := by decide +kernel
theorem dX4_passDay_113 : decode cX4_passDay 113 = .ok (.invokevirtual 46, 3) := by decide +kernel
theorem dX4_passDay_116 : decode cX4_passDay 116 = .ok (.iconst 1, 1) := by decide +kernel
theorem dX4_passDay_117 : decode cX4_passDay 117 = .ok (.if_icmp .ne 8, 3) := by decide +kernel
theorem dX4_passDay_120 : decode cX4_passDay 120 = .ok (.aload_n 0, 1) := by decide +kernel
theorem dX4_passDay_121 : decode cX4_passDay 121 = .ok (.iload_n 2, 1) := by decide +kernel
theorem dX4_passDay_122 : decode cX4_passDay 122 = .ok (.invokevirtual 127, 3) := by decide +kernel
theorem dX4_passDay_125 : decode cX4_passDay 125 = .ok (.iinc 2 1, 3) := by decide +kernel
theorem dX4_passDay_128 : decode cX4_passDay 128 = .ok (.goto (-38), 3) := by decide +kernel
theorem dX4_passDay_131 : decode cX4_passDay 131 = .ok (.return_, 1) := by decide +kernel
theorem dX4_doPass_0 : decode cX4_doPass 0 = .ok (.iload_n 1, 1) := by decide +kernel
theorem dX4_doPass_1 : decode cX4_doPass 1 = .ok (.i2l, 1) := by decide +kernel
theorem dX4_doPass_2 : decode cX4_doPass 2 = .ok (.lconst 1, 1) := by decide +kernel
theorem dX4_doPass_3 : decode cX4_doPass 3 = .ok (.ldc2_w 130, 3) := by decide +kernel
theorem dX4_doPass_6 : decode cX4_doPass 6 = .ok (.invokestatic 40, 3) := by decide +kernel
theorem dX4_doPass_9 : decode cX4_doPass 9 = .ok (.ifCond .ne 6, 3) := by decide +kernel
theorem dX4_doPass_12 : decode cX4_doPass 12 = .ok (.ldc 87, 2) := by decide +kernel
theorem dX4_doPass_14 : decode cX4_doPass 14 = .ok (.ireturn, 1) := by decide +kernel
theorem dX4_doPass_15 : decode cX4_doPass 15 = .ok (.aload_n 0, 1) := by decide +kernel
theorem dX4_doPass_16 : decode cX4_doPass 16 = .ok (.getfield 7, 3) := by decide +kernel
theorem dX4_doPass_19 : decode cX4_doPass 19 = .ok (.iconst 0, 1) := by decide +kernel
theorem dX4_doPass_20 : decode cX4_doPass 20 = .ok (.iaload, 1) := by decide +kernel
theorem dX4_doPass_21 : decode cX4_doPass 21 = .ok (.iload_n 1, 1) := by decide +kernel
theorem dX4_doPass_22 : decode cX4_doPass 22 = .ok (.iadd, 1) := by decide +kernel
theorem dX4_doPass_23 : decode cX4_doPass 23 = .ok (.sipush 9999, 3) := by decide +kernel
theorem dX4_doPass_26 : decode cX4_doPass 26 = .ok (.if_icmp .le 6, 3) := by decide +kernel
theorem dX4_doPass_29 : decode cX4_doPass 29 = .ok (.ldc 89, 2) := by decide +kernel
theorem dX4_doPass_31 : decode cX4_doPass 31 = .ok (.ireturn, 1) := by decide +kernel
theorem dX4_doPass_32 : decode cX4_doPass 32 = .ok (.iconst 0, 1) := by decide +kernel
theorem dX4_doPass_33 : decode cX4_doPass 33 = .ok (.istore_n 2, 1) := by decide +kernel
theorem dX4_doPass_34 : decode cX4_doPass 34 = .ok (.iload_n 2, 1) := by decide +kernel
theorem dX4_doPass_35 : decode cX4_doPass 35 = .ok (.iload_n 1, 1) := by decide +kernel
theorem dX4_doPass_36 : decode cX4_doPass 36 = .ok (.if_icmp .ge 13, 3) := by decide +kernel
theorem dX4_doPass_39 : decode cX4_doPass 39 = .ok (.aload_n 0, 1) := by decide +kernel
theorem dX4_doPass_40 : decode cX4_doPass 40 = .ok (.invokevirtual 132, 3) := by decide +kernel
theorem dX4_doPass_43 : decode cX4_doPass 43 = .ok (.iinc 2 1, 3) := by decide +kernel
theorem dX4_doPass_46 : decode cX4_doPass 46 = .ok (.goto (-12), 3) := by decide +kernel
theorem dX4_doPass_49 : decode cX4_doPass 49 = .ok (.aload_n 0, 1) := by decide +kernel
theorem dX4_doPass_50 : decode cX4_doPass 50 = .ok (.getfield 7, 3) := by decide +kernel
theorem dX4_doPass_53 : decode cX4_doPass 53 = .ok (.iconst 0, 1) := by decide +kernel
theorem dX4_doPass_54 : decode cX4_doPass 54 = .ok (.iaload, 1) := by decide +kernel
theorem dX4_doPass_55 : decode cX4_doPass 55 = .ok (.ireturn, 1) := by decide +kernel
theorem dX4_doSet_0 : decode cX4_doSet 0 = .ok (.iload_n 1, 1) := by decide +kernel
theorem dX4_doSet_1 : decode cX4_doSet 1 = .ok (.i2l, 1) := by decide +kernel
theorem dX4_doSet_2 : decode cX4_doSet 2 = .ok (.lconst 0, 1) := by decide +kernel
theorem dX4_doSet_3 : decode cX4_doSet 3 = .ok (.lconst 1, 1) := by decide +kernel
theorem dX4_doSet_4 : decode cX4_doSet 4 = .ok (.invokestatic 40, 3) := by decide +kernel
theorem dX4_doSet_7 : decode cX4_doSet 7 = .ok (.ifCond .eq 26, 3) := by decide +kernel
theorem dX4_doSet_10 : decode cX4_doSet 10 = .ok (.iload_n 2, 1) := by decide +kernel
theorem dX4_doSet_11 : decode cX4_doSet 11 = .ok (.i2l, 1) := by decide +kernel
theorem dX4_doSet_12 : decode cX4_doSet 12 = .ok (.iload_n 1, 1) := by decide +kernel
theorem dX4_doSet_13 : decode cX4_doSet 13 = .ok (.i2l, 1) := by decide +kernel
theorem dX4_doSet_14 : decode cX4_doSet 14 = .ok (.iload_n 1, 1) := by decide +kernel
theorem dX4_doSet_15 : decode cX4_doSet 15 = .ok (.ifCond .ne 9, 3) := by decide +kernel
theorem dX4_doSet_18 : decode cX4_doSet 18 = .ok (.ldc2_w 112, 3) := by decide +kernel
theorem dX4_doSet_21 : decode cX4_doSet 21 = .ok (.goto 6, 3) := by decide +kernel
theorem dX4_doSet_24 : decode cX4_doSet 24 = .ok (.ldc2_w 74, 3) := by decide +kernel
theorem dX4_doSet_27 : decode cX4_doSet 27 = .ok (.invokestatic 40, 3) := by decide +kernel
theorem dX4_doSet_30 : decode cX4_doSet 30 = .ok (.ifCond .ne 6, 3) := by decide +kernel
theorem dX4_doSet_33 : decode cX4_doSet 33 = .ok (.ldc 87, 2) := by decide +kernel
theorem dX4_doSet_35 : decode cX4_doSet 35 = .ok (.ireturn, 1) := by decide +kernel
theorem dX4_doSet_36 : decode cX4_doSet 36 = .ok (.aload_n 0, 1) := by decide +kernel
theorem dX4_doSet_37 : decode cX4_doSet 37 = .ok (.getfield 7, 3) := by decide +kernel
theorem dX4_doSet_40 : decode cX4_doSet 40 = .ok (.iconst 2, 1) := by decide +kernel
theorem dX4_doSet_41 : decode cX4_doSet 41 = .ok (.iload_n 1, 1) := by decide +kernel
theorem dX4_doSet_42 : decode cX4_doSet 42 = .ok (.iadd, 1) := by decide +kernel
theorem dX4_doSet_43 : decode cX4_doSet 43 = .ok (.iaload, 1) := by decide +kernel
theorem dX4_doSet_44 : decode cX4_doSet 44 = .ok (.istore_n 3, 1) := by decide +kernel
theorem dX4_doSet_45 : decode cX4_doSet 45 = .ok (.aload_n 0, 1) := by decide +kernel
theorem dX4_doSet_46 : decode cX4_doSet 46 = .ok (.getfield 7, 3) := by decide +kernel
theorem dX4_doSet_49 : decode cX4_doSet 49 = .ok (.iconst 2, 1) := by decide +kernel
theorem dX4_doSet_50 : decode cX4_doSet 50 = .ok (.iload_n 1, 1) := by decide +kernel
theorem dX4_doSet_51 : decode cX4_doSet 51 = .ok (.iadd, 1) := by decide +kernel
theorem dX4_doSet_52 : decode cX4_doSet 52 = .ok (.iload_n 2, 1) := by decide +kernel
theorem dX4_doSet_53 : decode cX4_doSet 53 = .ok (.iastore, 1) := by decide +kernel
theorem dX4_doSet_54 : decode cX4_doSet 54 = .ok (.iload_n 3, 1) := by decide +kernel
theorem dX4_doSet_55 : decode cX4_doSet 55 = .ok (.ireturn, 1) := by decide +kernel
theorem dX4_condition_0 : decode cX4_condition 0 = .ok (.aload_n 0, 1) := by decide +kernel
theorem dX4_condition_1 : decode cX4_condition 1 = .ok (.getfield 7, 3) := by decide +kernel
theorem dX4_condition_4 : decode cX4_condition 4 = .ok (.aload_n 0, 1) := by decide +kernel
theorem dX4_condition_5 : decode cX4_condition 5 = .ok (.getfield 13, 3) := by decide +kernel
theorem dX4_condition_8 : decode cX4_condition 8 = .ok (.invokestatic 135, 3) := by decide +kernel
theorem dX4_condition_11 : decode cX4_condition 11 = .ok (.aload_n 0, 1) := by decide +kernel
theorem dX4_condition_12 : decode cX4_condition 12 = .ok (.aload_n 0, 1) := by decide +kernel
theorem dX4_condition_13 : decode cX4_condition 13 = .ok (.iload_n 1, 1) := by decide +kernel
theorem dX4_condition_14 : decode cX4_condition 14 = .ok (.iload_n 2, 1) := by decide +kernel
theorem dX4_condition_15 : decode cX4_condition 15 = .ok (.iload_n 3, 1) := by decide +kernel
theorem dX4_condition_16 : decode cX4_condition 16 = .ok (.iload 4, 2) := by decide +kernel
theorem dX4_condition_18 : decode cX4_condition 18 = .ok (.invokevirtual 139, 3) := by decide +kernel
theorem dX4_condition_21 : decode cX4_condition 21 = .ok (.invokevirtual 143, 3) := by decide +kernel
theorem dX4_condition_24 : decode cX4_condition 24 = .ok (.ireturn, 1) := by decide +kernel
theorem dX4_begin_0 : decode cX4_begin 0 = .ok (.aload_n 0, 1) := by decide +kernel
theorem dX4_begin_1 : decode cX4_begin 1 = .ok (.getfield 7, 3) := by decide +kernel
theorem dX4_begin_4 : decode cX4_begin 4 = .ok (.aload_n 0, 1) := by decide +kernel
theorem dX4_begin_5 : decode cX4_begin 5 = .ok (.getfield 13, 3) := by decide +kernel
theorem dX4_begin_8 : decode cX4_begin 8 = .ok (.invokestatic 135, 3) := by decide +kernel
theorem dX4_begin_11 : decode cX4_begin 11 = .ok (.aload_n 0, 1) := by decide +kernel
theorem dX4_begin_12 : decode cX4_begin 12 = .ok (.aload_n 0, 1) := by decide +kernel
theorem dX4_begin_13 : decode cX4_begin 13 = .ok (.iload_n 1, 1) := by decide +kernel
theorem dX4_begin_14 : decode cX4_begin 14 = .ok (.invokevirtual 146, 3) := by decide +kernel
theorem dX4_begin_17 : decode cX4_begin 17 = .ok (.invokevirtual 143, 3) := by decide +kernel
theorem dX4_begin_20 : decode cX4_begin 20 = .ok (.ireturn, 1) := by decide +kernel
theorem dX4_finish_0 : decode cX4_finish 0 = .ok (.aload_n 0, 1) := by decide +kernel
theorem dX4_finish_1 : decode cX4_finish 1 = .ok (.getfield 7, 3) := by decide +kernel
theorem dX4_finish_4 : decode cX4_finish 4 = .ok (.aload_n 0, 1) := by decide +kernel
theorem dX4_finish_5 : decode cX4_finish 5 = .ok (.getfield 13, 3) := by decide +kernel
theorem dX4_finish_8 : decode cX4_finish 8 = .ok (.invokestatic 135, 3) := by decide +kernel
theorem dX4_finish_11 : decode cX4_finish 11 = .ok (.aload_n 0, 1) := by decide +kernel
theorem dX4_finish_12 : decode cX4_finish 12 = .ok (.aload_n 0, 1) := by decide +kernel
theorem dX4_finish_13 : decode cX4_finish 13 = .ok (.iload_n 1, 1) := by decide +kernel
theorem dX4_finish_14 : decode cX4_finish 14 = .ok (.invokevirtual 149, 3) := by decide +kernel
theorem dX4_finish_17 : decode cX4_finish 17 = .ok (.invokevirtual 143, 3) := by decide +kernel
theorem dX4_finish_20 : decode cX4_finish 20 = .ok (.ireturn, 1) := by decide +kernel
theorem dX4_apply_0 : decode cX4_apply 0 = .ok (.aload_n 0, 1) := by decide +kernel
theorem dX4_apply_1 : decode cX4_apply 1 = .ok (.getfield 7, 3) := by decide +kernel
theorem dX4_apply_4 : decode cX4_apply 4 = .ok (.aload_n 0, 1) := by decide +kernel
theorem dX4_apply_5 : decode cX4_apply 5 = .ok (.getfield 13, 3) := by decide +kernel
theorem dX4_apply_8 : decode cX4_apply 8 = .ok (.invokestatic 135, 3) := by decide +kernel
theorem dX4_apply_11 : decode cX4_apply 11 = .ok (.aload_n 0, 1) := by decide +kernel
theorem dX4_apply_12 : decode cX4_apply 12 = .ok (.aload_n 0, 1) := by decide +kernel
theorem dX4_apply_13 : decode cX4_apply 13 = .ok (.iload_n 1, 1) := by decide +kernel
theorem dX4_apply_14 : decode cX4_apply 14 = .ok (.iload_n 2, 1) := by decide +kernel
theorem dX4_apply_15 : decode cX4_apply 15 = .ok (.invokevirtual 152, 3) := by decide +kernel
theorem dX4_apply_18 : decode cX4_apply 18 = .ok (.invokevirtual 143, 3) := by decide +kernel
theorem dX4_apply_21 : decode cX4_apply 21 = .ok (.ireturn, 1) := by decide +kernel
theorem dX4_decide_0 : decode cX4_decide 0 = .ok (.aload_n 0, 1) := by decide +kernel
theorem dX4_decide_1 : decode cX4_decide 1 = .ok (.getfield 7, 3) := by decide +kernel
theorem dX4_decide_4 : decode cX4_decide 4 = .ok (.aload_n 0, 1) := by decide +kernel
theorem dX4_decide_5 : decode cX4_decide 5 = .ok (.getfield 13, 3) := by decide +kernel
theorem dX4_decide_8 : decode cX4_decide 8 = .ok (.invokestatic 135, 3) := by decide +kernel
theorem dX4_decide_11 : decode cX4_decide 11 = .ok (.aload_n 0, 1) := by decide +kernel
theorem dX4_decide_12 : decode cX4_decide 12 = .ok (.aload_n 0, 1) := by decide +kernel
theorem dX4_decide_13 : decode cX4_decide 13 = .ok (.iload_n 1, 1) := by decide +kernel
theorem dX4_decide_14 : decode cX4_decide 14 = .ok (.iload_n 2, 1) := by decide +kernel
theorem dX4_decide_15 : decode cX4_decide 15 = .ok (.invokevirtual 155, 3) := by decide +kernel
theorem dX4_decide_18 : decode cX4_decide 18 = .ok (.invokevirtual 143, 3) := by decide +kernel
theorem dX4_decide_21 : decode cX4_decide 21 = .ok (.ireturn, 1) := by decide +kernel
theorem dX4_lapse_0 : decode cX4_lapse 0 = .ok (.aload_n 0, 1) := by decide +kernel
theorem dX4_lapse_1 : decode cX4_lapse 1 = .ok (.getfield 7, 3) := by decide +kernel
theorem dX4_lapse_4 : decode cX4_lapse 4 = .ok (.aload_n 0, 1) := by decide +kernel
theorem dX4_lapse_5 : decode cX4_lapse 5 = .ok (.getfield 13, 3) := by decide +kernel
theorem dX4_lapse_8 : decode cX4_lapse 8 = .ok (.invokestatic 135, 3) := by decide +kernel
theorem dX4_lapse_11 : decode cX4_lapse 11 = .ok (.aload_n 0, 1) := by decide +kernel
theorem dX4_lapse_12 : decode cX4_lapse 12 = .ok (.aload_n 0, 1) := by decide +kernel
theorem dX4_lapse_13 : decode cX4_lapse 13 = .ok (.iload_n 1, 1) := by decide +kernel
theorem dX4_lapse_14 : decode cX4_lapse 14 = .ok (.invokevirtual 158, 3) := by decide +kernel
theorem dX4_lapse_17 : decode cX4_lapse 17 = .ok (.invokevirtual 143, 3) := by decide +kernel
theorem dX4_lapse_20 : decode cX4_lapse 20 = .ok (.ireturn, 1) := by decide +kernel
theorem dX4_cure_0 : decode cX4_cure 0 = .ok (.aload_n 0, 1) := by decide +kernel
theorem dX4_cure_1 : decode cX4_cure 1 = .ok (.getfield 7, 3) := by decide +kernel
theorem dX4_cure_4 : decode cX4_cure 4 = .ok (.aload_n 0, 1) := by decide +kernel
theorem dX4_cure_5 : decode cX4_cure 5 = .ok (.getfield 13, 3) := by decide +kernel
theorem dX4_cure_8 : decode cX4_cure 8 = .ok (.invokestatic 135, 3) := by decide +kernel
theorem dX4_cure_11 : decode cX4_cure 11 = .ok (.aload_n 0, 1) := by decide +kernel
theorem dX4_cure_12 : decode cX4_cure 12 = .ok (.aload_n 0, 1) := by decide +kernel
theorem dX4_cure_13 : decode cX4_cure 13 = .ok (.iload_n 1, 1) := by decide +kernel
theorem dX4_cure_14 : decode cX4_cure 14 = .ok (.invokevirtual 161, 3) := by decide +kernel
theorem dX4_cure_17 : decode cX4_cure 17 = .ok (.invokevirtual 143, 3) := by decide +kernel
theorem dX4_cure_20 : decode cX4_cure 20 = .ok (.ireturn, 1) := by decide +kernel
theorem dX4_serve_0 : decode cX4_serve 0 = .ok (.aload_n 0, 1) := by decide +kernel
theorem dX4_serve_1 : decode cX4_serve 1 = .ok (.getfield 7, 3) := by decide +kernel
theorem dX4_serve_4 : decode cX4_serve 4 = .ok (.aload_n 0, 1) := by decide +kernel
theorem dX4_serve_5 : decode cX4_serve 5 = .ok (.getfield 13, 3) := by decide +kernel
theorem dX4_serve_8 : decode cX4_serve 8 = .ok (.invokestatic 135, 3) := by decide +kernel
theorem dX4_serve_11 : decode cX4_serve 11 = .ok (.aload_n 0, 1) := by decide +kernel
theorem dX4_serve_12 : decode cX4_serve 12 = .ok (.aload_n 0, 1) := by decide +kernel
theorem dX4_serve_13 : decode cX4_serve 13 = .ok (.iload_n 1, 1) := by decide +kernel
theorem dX4_serve_14 : decode cX4_serve 14 = .ok (.iload_n 2, 1) := by decide +kernel
theorem dX4_serve_15 : decode cX4_serve 15 = .ok (.invokevirtual 164, 3) := by decide +kernel
theorem dX4_serve_18 : decode cX4_serve 18 = .ok (.invokevirtual 143, 3) := by decide +kernel
theorem dX4_serve_21 : decode cX4_serve 21 = .ok (.ireturn, 1) := by decide +kernel
theorem dX4_vary_0 : decode cX4_vary 0 = .ok (.aload_n 0, 1) := by decide +kernel
theorem dX4_vary_1 : decode cX4_vary 1 = .ok (.getfield 7, 3) := by decide +kernel
theorem dX4_vary_4 : decode cX4_vary 4 = .ok (.aload_n 0, 1) := by decide +kernel
theorem dX4_vary_5 : decode cX4_vary 5 = .ok (.getfield 13, 3) := by decide +kernel
theorem dX4_vary_8 : decode cX4_vary 8 = .ok (.invokestatic 135, 3) := by decide +kernel
theorem dX4_vary_11 : decode cX4_vary 11 = .ok (.aload_n 0, 1) := by decide +kernel
theorem dX4_vary_12 : decode cX4_vary 12 = .ok (.aload_n 0, 1) := by decide +kernel
theorem dX4_vary_13 : decode cX4_vary 13 = .ok (.iload_n 1, 1) := by decide +kernel
theorem dX4_vary_14 : decode cX4_vary 14 = .ok (.iload_n 2, 1) := by decide +kernel
theorem dX4_vary_15 : decode cX4_vary 15 = .ok (.iload_n 3, 1) := by decide +kernel
theorem dX4_vary_16 : decode cX4_vary 16 = .ok (.invokevirtual 167, 3) := by decide +kernel
theorem dX4_vary_19 : decode cX4_vary 19 = .ok (.invokevirtual 143, 3) := by decide +kernel
theorem dX4_vary_22 : decode cX4_vary 22 = .ok (.ireturn, 1) := by decide +kernel
theorem dX4_pass_0 : decode cX4_pass 0 = .ok (.aload_n 0, 1) := by decide +kernel
theorem dX4_pass_1 : decode cX4_pass 1 = .ok (.getfield 7, 3) := by decide +kernel
theorem dX4_pass_4 : decode cX4_pass 4 = .ok (.aload_n 0, 1) := by decide +kernel
theorem dX4_pass_5 : decode cX4_pass 5 = .ok (.getfield 13, 3) := by decide +kernel
theorem dX4_pass_8 : decode cX4_pass 8 = .ok (.invokestatic 135, 3) := by decide +kernel
theorem dX4_pass_11 : decode cX4_pass 11 = .ok (.aload_n 0, 1) := by decide +kernel
theorem dX4_pass_12 : decode cX4_pass 12 = .ok (.aload_n 0, 1) := by decide +kernel
theorem dX4_pass_13 : decode cX4_pass 13 = .ok (.iload_n 1, 1) := by decide +kernel
theorem dX4_pass_14 : decode cX4_pass 14 = .ok (.invokevirtual 171, 3) := by decide +kernel
theorem dX4_pass_17 : decode cX4_pass 17 = .ok (.invokevirtual 143, 3) := by decide +kernel
theorem dX4_pass_20 : decode cX4_pass 20 = .ok (.ireturn, 1) := by decide +kernel
theorem dX4_set_0 : decode cX4_set 0 = .ok (.aload_n 0, 1) := by decide +kernel
theorem dX4_set_1 : decode cX4_set 1 = .ok (.getfield 7, 3) := by decide +kernel
theorem dX4_set_4 : decode cX4_set 4 = .ok (.aload_n 0, 1) := by decide +kernel
theorem dX4_set_5 : decode cX4_set 5 = .ok (.getfield 13, 3) := by decide +kernel
theorem dX4_set_8 : decode cX4_set 8 = .ok (.invokestatic 135, 3) := by decide +kernel
theorem dX4_set_11 : decode cX4_set 11 = .ok (.aload_n 0, 1) := by decide +kernel
theorem dX4_set_12 : decode cX4_set 12 = .ok (.aload_n 0, 1) := by decide +kernel
theorem dX4_set_13 : decode cX4_set 13 = .ok (.iload_n 1, 1) := by decide +kernel
theorem dX4_set_14 : decode cX4_set 14 = .ok (.iload_n 2, 1) := by decide +kernel
theorem dX4_set_15 : decode cX4_set 15 = .ok (.invokevirtual 174, 3) := by decide +kernel
theorem dX4_set_18 : decode cX4_set 18 = .ok (.invokevirtual 143, 3) := by decide +kernel
theorem dX4_set_21 : decode cX4_set 21 = .ok (.ireturn, 1) := by decide +kernel
theorem dX4_conditionOf_0 : decode cX4_conditionOf 0 = .ok (.aload_n 0, 1) := by decide +kernel
theorem dX4_conditionOf_1 : decode cX4_conditionOf 1 = .ok (.iload_n 1, 1) := by decide +kernel
theorem dX4_conditionOf_2 : decode cX4_conditionOf 2 = .ok (.invokevirtual 99, 3) := by decide +kernel
theorem dX4_conditionOf_5 : decode cX4_conditionOf 5 = .ok (.ifCond .eq 15, 3) := by decide +kernel
theorem dX4_conditionOf_8 : decode cX4_conditionOf 8 = .ok (.iload_n 2, 1) := by decide +kernel
theorem dX4_conditionOf_9 : decode cX4_conditionOf 9 = .ok (.i2l, 1) := by decide +kernel
theorem dX4_conditionOf_10 : decode cX4_conditionOf 10 = .ok (.lconst 0, 1) := by decide +kernel
theorem dX4_conditionOf_11 : decode cX4_conditionOf 11 = .ok (.ldc2_w 177, 3) := by decide +kernel
theorem dX4_conditionOf_14 : decode cX4_conditionOf 14 = .ok (.invokestatic 40, 3) := by decide +kernel
theorem dX4_conditionOf_17 : decode cX4_conditionOf 17 = .ok (.ifCond .ne 6, 3) := by decide +kernel
theorem dX4_conditionOf_20 : decode cX4_conditionOf 20 = .ok (.ldc 87, 2) := by decide +kernel
theorem dX4_conditionOf_22 : decode cX4_conditionOf 22 = .ok (.ireturn, 1) := by decide +kernel
theorem dX4_conditionOf_23 : decode cX4_conditionOf 23 = .ok (.iload_n 2, 1) := by decide +kernel
theorem dX4_conditionOf_24 : decode cX4_conditionOf 24 = .ok (.tableswitch 153 4 11 #[48, 54, 61, 68, 90, 98, 121, 145], 48) := by decide +kernel
theorem dX4_conditionOf_72 : decode cX4_conditionOf 72 = .ok (.aload_n 0, 1) := by decide +kernel
theorem dX4_conditionOf_73 : decode cX4_conditionOf 73 = .ok (.iload_n 1, 1) := by decide +kernel
theorem dX4_conditionOf_74 : decode cX4_conditionOf 74 = .ok (.invokevirtual 109, 3) := by decide +kernel
theorem dX4_conditionOf_77 : decode cX4_conditionOf 77 = .ok (.ireturn, 1) := by decide +kernel
theorem dX4_conditionOf_78 : decode cX4_conditionOf 78 = .ok (.aload_n 0, 1) := by decide +kernel
theorem dX4_conditionOf_79 : decode cX4_conditionOf 79 = .ok (.iload_n 1, 1) := by decide +kernel
theorem dX4_conditionOf_80 : decode cX4_conditionOf 80 = .ok (.iconst 4, 1) := by decide +kernel
theorem dX4_conditionOf_81 : decode cX4_conditionOf 81 = .ok (.invokevirtual 46, 3) := by decide +kernel
theorem dX4_conditionOf_84 : decode cX4_conditionOf 84 = .ok (.ireturn, 1) := by decide +kernel
theorem dX4_conditionOf_85 : decode cX4_conditionOf 85 = .ok (.aload_n 0, 1) := by decide +kernel
theorem dX4_conditionOf_86 : decode cX4_conditionOf 86 = .ok (.iload_n 1, 1) := by decide +kernel
theorem dX4_conditionOf_87 : decode cX4_conditionOf 87 = .ok (.iconst 5, 1) := by decide +kernel
theorem dX4_conditionOf_88 : decode cX4_conditionOf 88 = .ok (.invokevirtual 46, 3) := by decide +kernel
theorem dX4_conditionOf_91 : decode cX4_conditionOf 91 = .ok (.ireturn, 1) := by decide +kernel
theorem dX4_conditionOf_92 : decode cX4_conditionOf 92 = .ok (.aload_n 0, 1) := by decide +kernel
theorem dX4_conditionOf_93 : decode cX4_conditionOf 93 = .ok (.iload_n 1, 1) := by decide +kernel
theorem dX4_conditionOf_94 : decode cX4_conditionOf 94 = .ok (.iconst 5, 1) := by decide +kernel
theorem dX4_conditionOf_95 : decode cX4_conditionOf 95 = .ok (.invokevirtual 46, 3) := by decide +kernel
theorem dX4_conditionOf_98 : decode cX4_conditionOf 98 = .ok (.ifCond .ne 8, 3) := by decide +kernel
theorem dX4_conditionOf_101 : decode cX4_conditionOf 101 = .ok (.ldc 179, 2) := by decide +kernel
theorem dX4_conditionOf_103 : decode cX4_conditionOf 103 = .ok (.goto 10, 3) := by decide +kernel
theorem dX4_conditionOf_106 : decode cX4_conditionOf 106 = .ok (.aload_n 0, 1) := by decide +kernel
theorem dX4_conditionOf_107 : decode cX4_conditionOf 107 = .ok (.iload_n 1, 1) := by decide +kernel
theorem dX4_conditionOf_108 : decode cX4_conditionOf 108 = .ok (.bipush 6, 2) := by decide +kernel
theorem dX4_conditionOf_110 : decode cX4_conditionOf 110 = .ok (.invokevirtual 46, 3) := by decide +kernel
theorem dX4_conditionOf_113 : decode cX4_conditionOf 113 = .ok (.ireturn, 1) := by decide +kernel
theorem dX4_conditionOf_114 : decode cX4_conditionOf 114 = .ok (.aload_n 0, 1) := by decide +kernel
theorem dX4_conditionOf_115 : decode cX4_conditionOf 115 = .ok (.iload_n 1, 1) := by decide +kernel
theorem dX4_conditionOf_116 : decode cX4_conditionOf 116 = .ok (.bipush 7, 2) := by decide +kernel
theorem dX4_conditionOf_118 : decode cX4_conditionOf 118 = .ok (.invokevirtual 46, 3) := by decide +kernel
theorem dX4_conditionOf_121 : decode cX4_conditionOf 121 = .ok (.ireturn, 1) := by decide +kernel
theorem dX4_conditionOf_122 : decode cX4_conditionOf 122 = .ok (.aload_n 0, 1) := by decide +kernel
theorem dX4_conditionOf_123 : decode cX4_conditionOf 123 = .ok (.iload_n 1, 1) := by decide +kernel
theorem dX4_conditionOf_124 : decode cX4_conditionOf 124 = .ok (.bipush 8, 2) := by decide +kernel
theorem dX4_conditionOf_126 : decode cX4_conditionOf 126 = .ok (.invokevirtual 46, 3) := by decide +kernel
theorem dX4_conditionOf_129 : decode cX4_conditionOf 129 = .ok (.ifCond .ne 8, 3) := by decide +kernel
theorem dX4_conditionOf_132 : decode cX4_conditionOf 132 = .ok (.ldc 179, 2) := by decide +kernel
theorem dX4_conditionOf_134 : decode cX4_conditionOf 134 = .ok (.goto 10, 3) := by decide +kernel
theorem dX4_conditionOf_137 : decode cX4_conditionOf 137 = .ok (.aload_n 0, 1) := by decide +kernel
theorem dX4_conditionOf_138 : decode cX4_conditionOf 138 = .ok (.iload_n 1, 1) := by decide +kernel
theorem dX4_conditionOf_139 : decode cX4_conditionOf 139 = .ok (.bipush 9, 2) := by decide +kernel
theorem dX4_conditionOf_141 : decode cX4_conditionOf 141 = .ok (.invokevirtual 46, 3) := by decide +kernel
theorem dX4_conditionOf_144 : decode cX4_conditionOf 144 = .ok (.ireturn, 1) := by decide +kernel
theorem dX4_conditionOf_145 : decode cX4_conditionOf 145 = .ok (.aload_n 0, 1) := by decide +kernel
theorem dX4_conditionOf_146 : decode cX4_conditionOf 146 = .ok (.iload_n 1, 1) := by decide +kernel
theorem dX4_conditionOf_147 : decode cX4_conditionOf 147 = .ok (.bipush 10, 2) := by decide +kernel
theorem dX4_conditionOf_149 : decode cX4_conditionOf 149 = .ok (.invokevirtual 46, 3) := by decide +kernel
theorem dX4_conditionOf_152 : decode cX4_conditionOf 152 = .ok (.iconst (-1), 1) := by decide +kernel
theorem dX4_conditionOf_153 : decode cX4_conditionOf 153 = .ok (.if_icmp .ne 8, 3) := by decide +kernel
theorem dX4_conditionOf_156 : decode cX4_conditionOf 156 = .ok (.ldc 179, 2) := by decide +kernel
theorem dX4_conditionOf_158 : decode cX4_conditionOf 158 = .ok (.goto 10, 3) := by decide +kernel
theorem dX4_conditionOf_161 : decode cX4_conditionOf 161 = .ok (.aload_n 0, 1) := by decide +kernel
theorem dX4_conditionOf_162 : decode cX4_conditionOf 162 = .ok (.iload_n 1, 1) := by decide +kernel
theorem dX4_conditionOf_163 : decode cX4_conditionOf 163 = .ok (.bipush 10, 2) := by decide +kernel
theorem dX4_conditionOf_165 : decode cX4_conditionOf 165 = .ok (.invokevirtual 46, 3) := by decide +kernel
theorem dX4_conditionOf_168 : decode cX4_conditionOf 168 = .ok (.ireturn, 1) := by decide +kernel
theorem dX4_conditionOf_169 : decode cX4_conditionOf 169 = .ok (.aload_n 0, 1) := by decide +kernel
theorem dX4_conditionOf_170 : decode cX4_conditionOf 170 = .ok (.iload_n 1, 1) := by decide +kernel
theorem dX4_conditionOf_171 : decode cX4_conditionOf 171 = .ok (.bipush 11, 2) := by decide +kernel
theorem dX4_conditionOf_173 : decode cX4_conditionOf 173 = .ok (.invokevirtual 46, 3) := by decide +kernel
theorem dX4_conditionOf_176 : decode cX4_conditionOf 176 = .ok (.ireturn, 1) := by decide +kernel
theorem dX4_conditionOf_177 : decode cX4_conditionOf 177 = .ok (.aload_n 0, 1) := by decide +kernel
theorem dX4_conditionOf_178 : decode cX4_conditionOf 178 = .ok (.iload_n 1, 1) := by decide +kernel
theorem dX4_conditionOf_179 : decode cX4_conditionOf 179 = .ok (.iload_n 2, 1) := by decide +kernel
theorem dX4_conditionOf_180 : decode cX4_conditionOf 180 = .ok (.invokevirtual 46, 3) := by decide +kernel
theorem dX4_conditionOf_183 : decode cX4_conditionOf 183 = .ok (.ireturn, 1) := by decide +kernel
theorem dX4_stageOf_0 : decode cX4_stageOf 0 = .ok (.iload_n 1, 1) := by decide +kernel
theorem dX4_stageOf_1 : decode cX4_stageOf 1 = .ok (.invokestatic 78, 3) := by decide +kernel
theorem dX4_stageOf_4 : decode cX4_stageOf 4 = .ok (.ifCond .eq 15, 3) := by decide +kernel
theorem dX4_stageOf_7 : decode cX4_stageOf 7 = .ok (.iload_n 2, 1) := by decide +kernel
theorem dX4_stageOf_8 : decode cX4_stageOf 8 = .ok (.i2l, 1) := by decide +kernel
theorem dX4_stageOf_9 : decode cX4_stageOf 9 = .ok (.lconst 0, 1) := by decide +kernel
theorem dX4_stageOf_10 : decode cX4_stageOf 10 = .ok (.ldc2_w 180, 3) := by decide +kernel
theorem dX4_stageOf_13 : decode cX4_stageOf 13 = .ok (.invokestatic 40, 3) := by decide +kernel
theorem dX4_stageOf_16 : decode cX4_stageOf 16 = .ok (.ifCond .ne 6, 3) := by decide +kernel
theorem dX4_stageOf_19 : decode cX4_stageOf 19 = .ok (.ldc 87, 2) := by decide +kernel
theorem dX4_stageOf_21 : decode cX4_stageOf 21 = .ok (.ireturn, 1) := by decide +kernel
theorem dX4_stageOf_22 : decode cX4_stageOf 22 = .ok (.iload_n 2, 1) := by decide +kernel
theorem dX4_stageOf_23 : decode cX4_stageOf 23 = .ok (.tableswitch 99 0 2 #[25, 53, 76], 25) := by decide +kernel
theorem dX4_stageOf_48 : decode cX4_stageOf 48 = .ok (.aload_n 0, 1) := by decide +kernel
theorem dX4_stageOf_49 : decode cX4_stageOf 49 = .ok (.iload_n 1, 1) := by decide +kernel
theorem dX4_stageOf_50 : decode cX4_stageOf 50 = .ok (.invokevirtual 54, 3) := by decide +kernel
theorem dX4_stageOf_53 : decode cX4_stageOf 53 = .ok (.ifCond .eq 7, 3) := by decide +kernel
theorem dX4_stageOf_56 : decode cX4_stageOf 56 = .ok (.iconst 1, 1) := by decide +kernel
theorem dX4_stageOf_57 : decode cX4_stageOf 57 = .ok (.goto 4, 3) := by decide +kernel
theorem dX4_stageOf_60 : decode cX4_stageOf 60 = .ok (.iconst 0, 1) := by decide +kernel
theorem dX4_stageOf_61 : decode cX4_stageOf 61 = .ok (.aload_n 0, 1) := by decide +kernel
theorem dX4_stageOf_62 : decode cX4_stageOf 62 = .ok (.iload_n 1, 1) := by decide +kernel
theorem dX4_stageOf_63 : decode cX4_stageOf 63 = .ok (.invokevirtual 57, 3) := by decide +kernel
theorem dX4_stageOf_66 : decode cX4_stageOf 66 = .ok (.ifCond .eq 7, 3) := by decide +kernel
theorem dX4_stageOf_69 : decode cX4_stageOf 69 = .ok (.iconst 1, 1) := by decide +kernel
theorem dX4_stageOf_70 : decode cX4_stageOf 70 = .ok (.goto 4, 3) := by decide +kernel
theorem dX4_stageOf_73 : decode cX4_stageOf 73 = .ok (.iconst 0, 1) := by decide +kernel
theorem dX4_stageOf_74 : decode cX4_stageOf 74 = .ok (.iadd, 1) := by decide +kernel
theorem dX4_stageOf_75 : decode cX4_stageOf 75 = .ok (.ireturn, 1) := by decide +kernel
theorem dX4_stageOf_76 : decode cX4_stageOf 76 = .ok (.aload_n 0, 1) := by decide +kernel
theorem dX4_stageOf_77 : decode cX4_stageOf 77 = .ok (.iload_n 1, 1) := by decide +kernel
theorem dX4_stageOf_78 : decode cX4_stageOf 78 = .ok (.invokevirtual 54, 3) := by decide +kernel
theorem dX4_stageOf_81 : decode cX4_stageOf 81 = .ok (.ifCond .eq 15, 3) := by decide +kernel
theorem dX4_stageOf_84 : decode cX4_stageOf 84 = .ok (.aload_n 0, 1) := by decide +kernel
theorem dX4_stageOf_85 : decode cX4_stageOf 85 = .ok (.getfield 7, 3) := by decide +kernel
theorem dX4_stageOf_88 : decode cX4_stageOf 88 = .ok (.bipush 6, 2) := by decide +kernel
theorem dX4_stageOf_90 : decode cX4_stageOf 90 = .ok (.iload_n 1, 1) := by decide +kernel
theorem dX4_stageOf_91 : decode cX4_stageOf 91 = .ok (.iadd, 1) := by decide +kernel
theorem dX4_stageOf_92 : decode cX4_stageOf 92 = .ok (.iaload, 1) := by decide +kernel
theorem dX4_stageOf_93 : decode cX4_stageOf 93 = .ok (.goto 5, 3) := by decide +kernel
theorem dX4_stageOf_96 : decode cX4_stageOf 96 = .ok (.ldc 179, 2) := by decide +kernel
theorem dX4_stageOf_98 : decode cX4_stageOf 98 = .ok (.ireturn, 1) := by decide +kernel
theorem dX4_stageOf_99 : decode cX4_stageOf 99 = .ok (.aload_n 0, 1) := by decide +kernel
theorem dX4_stageOf_100 : decode cX4_stageOf 100 = .ok (.iload_n 1, 1) := by decide +kernel
theorem dX4_stageOf_101 : decode cX4_stageOf 101 = .ok (.invokevirtual 57, 3) := by decide +kernel
theorem dX4_stageOf_104 : decode cX4_stageOf 104 = .ok (.ifCond .eq 15, 3) := by decide +kernel
theorem dX4_stageOf_107 : decode cX4_stageOf 107 = .ok (.aload_n 0, 1) := by decide +kernel
theorem dX4_stageOf_108 : decode cX4_stageOf 108 = .ok (.getfield 7, 3) := by decide +kernel
theorem dX4_stageOf_111 : decode cX4_stageOf 111 = .ok (.bipush 11, 2) := by decide +kernel
theorem dX4_stageOf_113 : decode cX4_stageOf 113 = .ok (.iload_n 1, 1) := by decide +kernel
theorem dX4_stageOf_114 : decode cX4_stageOf 114 = .ok (.iadd, 1) := by decide +kernel
theorem dX4_stageOf_115 : decode cX4_stageOf 115 = .ok (.iaload, 1) := by decide +kernel
theorem dX4_stageOf_116 : decode cX4_stageOf 116 = .ok (.goto 5, 3) := by decide +kernel
theorem dX4_stageOf_119 : decode cX4_stageOf 119 = .ok (.ldc 179, 2) := by decide +kernel
theorem dX4_stageOf_121 : decode cX4_stageOf 121 = .ok (.ireturn, 1) := by decide +kernel
theorem dX4_stageOf_122 : decode cX4_stageOf 122 = .ok (.aload_n 0, 1) := by decide +kernel
theorem dX4_stageOf_123 : decode cX4_stageOf 123 = .ok (.iload_n 1, 1) := by decide +kernel
theorem dX4_stageOf_124 : decode cX4_stageOf 124 = .ok (.invokevirtual 93, 3) := by decide +kernel
theorem dX4_stageOf_127 : decode cX4_stageOf 127 = .ok (.ireturn, 1) := by decide +kernel
theorem dX4_withState_0 : decode cX4_withState 0 = .ok (.iconst 0, 1) := by decide +kernel
theorem dX4_withState_1 : decode cX4_withState 1 = .ok (.istore_n 2, 1) := by decide +kernel
theorem dX4_withState_2 : decode cX4_withState 2 = .ok (.iconst 0, 1) := by decide +kernel
theorem dX4_withState_3 : decode cX4_withState 3 = .ok (.istore_n 3, 1) := by decide +kernel
theorem dX4_withState_4 : decode cX4_withState 4 = .ok (.iload_n 3, 1) := by decide +kernel
theorem dX4_withState_5 : decode cX4_withState 5 = .ok (.aload_n 0, 1) := by decide +kernel
theorem dX4_withState_6 : decode cX4_withState 6 = .ok (.getfield 7, 3) := by decide +kernel
theorem dX4_withState_9 : decode cX4_withState 9 = .ok (.iconst 1, 1) := by decide +kernel
theorem dX4_withState_10 : decode cX4_withState 10 = .ok (.iaload, 1) := by decide +kernel
theorem dX4_withState_11 : decode cX4_withState 11 = .ok (.if_icmp .ge 28, 3) := by decide +kernel
theorem dX4_withState_14 : decode cX4_withState 14 = .ok (.iload_n 2, 1) := by decide +kernel
theorem dX4_withState_15 : decode cX4_withState 15 = .ok (.aload_n 0, 1) := by decide +kernel
theorem dX4_withState_16 : decode cX4_withState 16 = .ok (.iload_n 3, 1) := by decide +kernel
theorem dX4_withState_17 : decode cX4_withState 17 = .ok (.invokevirtual 109, 3) := by decide +kernel
theorem dX4_withState_20 : decode cX4_withState 20 = .ok (.iload_n 1, 1) := by decide +kernel
theorem dX4_withState_21 : decode cX4_withState 21 = .ok (.if_icmp .ne 9, 3) := by decide +kernel
theorem dX4_withState_24 : decode cX4_withState 24 = .ok (.iconst 1, 1) := by decide +kernel
theorem dX4_withState_25 : decode cX4_withState 25 = .ok (.iload_n 3, 1) := by decide +kernel
theorem dX4_withState_26 : decode cX4_withState 26 = .ok (.ishl, 1) := by decide +kernel
theorem dX4_withState_27 : decode cX4_withState 27 = .ok (.goto 4, 3) := by decide +kernel
theorem dX4_withState_30 : decode cX4_withState 30 = .ok (.iconst 0, 1) := by decide +kernel
theorem dX4_withState_31 : decode cX4_withState 31 = .ok (.ior, 1) := by decide +kernel
theorem dX4_withState_32 : decode cX4_withState 32 = .ok (.istore_n 2, 1) := by decide +kernel
theorem dX4_withState_33 : decode cX4_withState 33 = .ok (.iinc 3 1, 3) := by decide +kernel
theorem dX4_withState_36 : decode cX4_withState 36 = .ok (.goto (-32), 3) := by decide +kernel
theorem dX4_withState_39 : decode cX4_withState 39 = .ok (.iload_n 2, 1) := by decide +kernel
theorem dX4_withState_40 : decode cX4_withState 40 = .ok (.ireturn, 1) := by decide +kernel
theorem dX4_which_0 : decode cX4_which 0 = .ok (.iload_n 1, 1) := by decide +kernel
theorem dX4_which_1 : decode cX4_which 1 = .ok (.i2l, 1) := by decide +kernel
theorem dX4_which_2 : decode cX4_which 2 = .ok (.lconst 0, 1) := by decide +kernel
theorem dX4_which_3 : decode cX4_which 3 = .ok (.ldc2_w 44, 3) := by decide +kernel
theorem dX4_which_6 : decode cX4_which 6 = .ok (.invokestatic 40, 3) := by decide +kernel
theorem dX4_which_9 : decode cX4_which 9 = .ok (.ifCond .eq 11, 3) := by decide +kernel
theorem dX4_which_12 : decode cX4_which 12 = .ok (.aload_n 0, 1) := by decide +kernel
theorem dX4_which_13 : decode cX4_which 13 = .ok (.iload_n 1, 1) := by decide +kernel
theorem dX4_which_14 : decode cX4_which 14 = .ok (.invokevirtual 182, 3) := by decide +kernel
theorem dX4_which_17 : decode cX4_which 17 = .ok (.goto 5, 3) := by decide +kernel
theorem dX4_which_20 : decode cX4_which 20 = .ok (.ldc 87, 2) := by decide +kernel
theorem dX4_which_22 : decode cX4_which 22 = .ok (.ireturn, 1) := by decide +kernel
theorem dX4_when_0 : decode cX4_when 0 = .ok (.aload_n 0, 1) := by decide +kernel
theorem dX4_when_1 : decode cX4_when 1 = .ok (.iload_n 1, 1) := by decide +kernel
theorem dX4_when_2 : decode cX4_when 2 = .ok (.invokevirtual 99, 3) := by decide +kernel
theorem dX4_when_5 : decode cX4_when 5 = .ok (.ifCond .eq 15, 3) := by decide +kernel
theorem dX4_when_8 : decode cX4_when 8 = .ok (.iload_n 2, 1) := by decide +kernel
theorem dX4_when_9 : decode cX4_when 9 = .ok (.i2l, 1) := by decide +kernel
theorem dX4_when_10 : decode cX4_when 10 = .ok (.lconst 0, 1) := by decide +kernel
theorem dX4_when_11 : decode cX4_when 11 = .ok (.ldc2_w 44, 3) := by decide +kernel
theorem dX4_when_14 : decode cX4_when 14 = .ok (.invokestatic 40, 3) := by decide +kernel
theorem dX4_when_17 : decode cX4_when 17 = .ok (.ifCond .ne 6, 3) := by decide +kernel
theorem dX4_when_20 : decode cX4_when 20 = .ok (.ldc 87, 2) := by decide +kernel
theorem dX4_when_22 : decode cX4_when 22 = .ok (.ireturn, 1) := by decide +kernel
theorem dX4_when_23 : decode cX4_when 23 = .ok (.aload_n 0, 1) := by decide +kernel
theorem dX4_when_24 : decode cX4_when 24 = .ok (.getfield 7, 3) := by decide +kernel
theorem dX4_when_27 : decode cX4_when 27 = .ok (.aload_n 0, 1) := by decide +kernel
theorem dX4_when_28 : decode cX4_when 28 = .ok (.getfield 16, 3) := by decide +kernel
theorem dX4_when_31 : decode cX4_when 31 = .ok (.invokestatic 135, 3) := by decide +kernel
theorem dX4_when_34 : decode cX4_when 34 = .ok (.iconst 0, 1) := by decide +kernel
theorem dX4_when_35 : decode cX4_when 35 = .ok (.istore_n 3, 1) := by decide +kernel
theorem dX4_when_36 : decode cX4_when 36 = .ok (.iload_n 3, 1) := by decide +kernel
theorem dX4_when_37 : decode cX4_when 37 = .ok (.sipush 400, 3) := by decide +kernel
theorem dX4_when_40 : decode cX4_when 40 = .ok (.if_icmp .ge 22, 3) := by decide +kernel
theorem dX4_when_43 : decode cX4_when 43 = .ok (.aload_n 0, 1) := by decide +kernel
theorem dX4_when_44 : decode cX4_when 44 = .ok (.iload_n 1, 1) := by decide +kernel
theorem dX4_when_45 : decode cX4_when 45 = .ok (.invokevirtual 109, 3) := by decide +kernel
theorem dX4_when_48 : decode cX4_when 48 = .ok (.iload_n 2, 1) := by decide +kernel
theorem dX4_when_49 : decode cX4_when 49 = .ok (.if_icmp .eq 13, 3) := by decide +kernel
theorem dX4_when_52 : decode cX4_when 52 = .ok (.aload_n 0, 1) := by decide +kernel
theorem dX4_when_53 : decode cX4_when 53 = .ok (.invokevirtual 132, 3) := by decide +kernel
theorem dX4_when_56 : decode cX4_when 56 = .ok (.iinc 3 1, 3) := by decide +kernel
theorem dX4_when_59 : decode cX4_when 59 = .ok (.goto (-23), 3) := by decide +kernel
theorem dX4_when_62 : decode cX4_when 62 = .ok (.aload_n 0, 1) := by decide +kernel
theorem dX4_when_63 : decode cX4_when 63 = .ok (.iload_n 1, 1) := by decide +kernel
theorem dX4_when_64 : decode cX4_when 64 = .ok (.invokevirtual 109, 3) := by decide +kernel
theorem dX4_when_67 : decode cX4_when 67 = .ok (.iload_n 2, 1) := by decide +kernel
theorem dX4_when_68 : decode cX4_when 68 = .ok (.if_icmp .ne 7, 3) := by decide +kernel
theorem dX4_when_71 : decode cX4_when 71 = .ok (.iload_n 3, 1) := by decide +kernel
theorem dX4_when_72 : decode cX4_when 72 = .ok (.goto 5, 3) := by decide +kernel
theorem dX4_when_75 : decode cX4_when 75 = .ok (.ldc 179, 2) := by decide +kernel
theorem dX4_when_77 : decode cX4_when 77 = .ok (.istore 4, 2) := by decide +kernel
theorem dX4_when_79 : decode cX4_when 79 = .ok (.aload_n 0, 1) := by decide +kernel
theorem dX4_when_80 : decode cX4_when 80 = .ok (.getfield 16, 3) := by decide +kernel
theorem dX4_when_83 : decode cX4_when 83 = .ok (.aload_n 0, 1) := by decide +kernel
theorem dX4_when_84 : decode cX4_when 84 = .ok (.getfield 7, 3) := by decide +kernel
theorem dX4_when_87 : decode cX4_when 87 = .ok (.invokestatic 135, 3) := by decide +kernel
theorem dX4_when_90 : decode cX4_when 90 = .ok (.iload 4, 2) := by decide +kernel
theorem dX4_when_92 : decode cX4_when 92 = .ok (.ireturn, 1) := by decide +kernel
theorem dX4_lawful_0 : decode cX4_lawful 0 = .ok (.iload_n 1, 1) := by decide +kernel
theorem dX4_lawful_1 : decode cX4_lawful 1 = .ok (.invokestatic 78, 3) := by decide +kernel
theorem dX4_lawful_4 : decode cX4_lawful 4 = .ok (.ifCond .ne 6, 3) := by decide +kernel
theorem dX4_lawful_7 : decode cX4_lawful 7 = .ok (.ldc 87, 2) := by decide +kernel
theorem dX4_lawful_9 : decode cX4_lawful 9 = .ok (.ireturn, 1) := by decide +kernel
theorem dX4_lawful_10 : decode cX4_lawful 10 = .ok (.aload_n 0, 1) := by decide +kernel
theorem dX4_lawful_11 : decode cX4_lawful 11 = .ok (.iload_n 1, 1) := by decide +kernel
theorem dX4_lawful_12 : decode cX4_lawful 12 = .ok (.invokevirtual 90, 3) := by decide +kernel
theorem dX4_lawful_15 : decode cX4_lawful 15 = .ok (.ifCond .ne 6, 3) := by decide +kernel
theorem dX4_lawful_18 : decode cX4_lawful 18 = .ok (.ldc 88, 2) := by decide +kernel
theorem dX4_lawful_20 : decode cX4_lawful 20 = .ok (.ireturn, 1) := by decide +kernel
theorem dX4_lawful_21 : decode cX4_lawful 21 = .ok (.aload_n 0, 1) := by decide +kernel
theorem dX4_lawful_22 : decode cX4_lawful 22 = .ok (.getfield 7, 3) := by decide +kernel
theorem dX4_lawful_25 : decode cX4_lawful 25 = .ok (.aload_n 0, 1) := by decide +kernel
theorem dX4_lawful_26 : decode cX4_lawful 26 = .ok (.getfield 16, 3) := by decide +kernel
theorem dX4_lawful_29 : decode cX4_lawful 29 = .ok (.invokestatic 135, 3) := by decide +kernel
theorem dX4_lawful_32 : decode cX4_lawful 32 = .ok (.iconst 0, 1) := by decide +kernel
theorem dX4_lawful_33 : decode cX4_lawful 33 = .ok (.istore_n 2, 1) := by decide +kernel
theorem dX4_lawful_34 : decode cX4_lawful 34 = .ok (.iload_n 2, 1) := by decide +kernel
theorem dX4_lawful_35 : decode cX4_lawful 35 = .ok (.sipush 400, 3) := by decide +kernel
theorem dX4_lawful_38 : decode cX4_lawful 38 = .ok (.if_icmp .ge 21, 3) := by decide +kernel
theorem dX4_lawful_41 : decode cX4_lawful 41 = .ok (.aload_n 0, 1) := by decide +kernel
theorem dX4_lawful_42 : decode cX4_lawful 42 = .ok (.iload_n 1, 1) := by decide +kernel
theorem dX4_lawful_43 : decode cX4_lawful 43 = .ok (.invokevirtual 93, 3) := by decide +kernel
theorem dX4_lawful_46 : decode cX4_lawful 46 = .ok (.ifCond .eq 13, 3) := by decide +kernel
theorem dX4_lawful_49 : decode cX4_lawful 49 = .ok (.aload_n 0, 1) := by decide +kernel
theorem dX4_lawful_50 : decode cX4_lawful 50 = .ok (.invokevirtual 132, 3) := by decide +kernel
theorem dX4_lawful_53 : decode cX4_lawful 53 = .ok (.iinc 2 1, 3) := by decide +kernel
theorem dX4_lawful_56 : decode cX4_lawful 56 = .ok (.goto (-22), 3) := by decide +kernel
theorem dX4_lawful_59 : decode cX4_lawful 59 = .ok (.aload_n 0, 1) := by decide +kernel
theorem dX4_lawful_60 : decode cX4_lawful 60 = .ok (.iload_n 1, 1) := by decide +kernel
theorem dX4_lawful_61 : decode cX4_lawful 61 = .ok (.invokevirtual 93, 3) := by decide +kernel
theorem dX4_lawful_64 : decode cX4_lawful 64 = .ok (.ifCond .ne 7, 3) := by decide +kernel
theorem dX4_lawful_67 : decode cX4_lawful 67 = .ok (.iload_n 2, 1) := by decide +kernel
theorem dX4_lawful_68 : decode cX4_lawful 68 = .ok (.goto 5, 3) := by decide +kernel
theorem dX4_lawful_71 : decode cX4_lawful 71 = .ok (.ldc 179, 2) := by decide +kernel
theorem dX4_lawful_73 : decode cX4_lawful 73 = .ok (.istore_n 3, 1) := by decide +kernel
theorem dX4_lawful_74 : decode cX4_lawful 74 = .ok (.aload_n 0, 1) := by decide +kernel
theorem dX4_lawful_75 : decode cX4_lawful 75 = .ok (.getfield 16, 3) := by decide +kernel
theorem dX4_lawful_78 : decode cX4_lawful 78 = .ok (.aload_n 0, 1) := by decide +kernel
theorem dX4_lawful_79 : decode cX4_lawful 79 = .ok (.getfield 7, 3) := by decide +kernel
theorem dX4_lawful_82 : decode cX4_lawful 82 = .ok (.invokestatic 135, 3) := by decide +kernel
theorem dX4_lawful_85 : decode cX4_lawful 85 = .ok (.iload_n 3, 1) := by decide +kernel
theorem dX4_lawful_86 : decode cX4_lawful 86 = .ok (.ireturn, 1) := by decide +kernel
theorem dX4_fine_0 : decode cX4_fine 0 = .ok (.aload_n 0, 1) := by decide +kernel
theorem dX4_fine_1 : decode cX4_fine 1 = .ok (.iload_n 1, 1) := by decide +kernel
theorem dX4_fine_2 : decode cX4_fine 2 = .ok (.invokevirtual 99, 3) := by decide +kernel
theorem dX4_fine_5 : decode cX4_fine 5 = .ok (.ifCond .eq 14, 3) := by decide +kernel
theorem dX4_fine_8 : decode cX4_fine 8 = .ok (.lload_n 2, 1) := by decide +kernel
theorem dX4_fine_9 : decode cX4_fine 9 = .ok (.lconst 1, 1) := by decide +kernel
theorem dX4_fine_10 : decode cX4_fine 10 = .ok (.ldc2_w 185, 3) := by decide +kernel
theorem dX4_fine_13 : decode cX4_fine 13 = .ok (.invokestatic 40, 3) := by decide +kernel
theorem dX4_fine_16 : decode cX4_fine 16 = .ok (.ifCond .ne 7, 3) := by decide +kernel
theorem dX4_fine_19 : decode cX4_fine 19 = .ok (.ldc2_w 187, 3) := by decide +kernel
theorem dX4_fine_22 : decode cX4_fine 22 = .ok (.lreturn, 1) := by decide +kernel
theorem dX4_fine_23 : decode cX4_fine 23 = .ok (.aload_n 0, 1) := by decide +kernel
theorem dX4_fine_24 : decode cX4_fine 24 = .ok (.iload_n 1, 1) := by decide +kernel
theorem dX4_fine_25 : decode cX4_fine 25 = .ok (.bipush 11, 2) := by decide +kernel
theorem dX4_fine_27 : decode cX4_fine 27 = .ok (.invokevirtual 46, 3) := by decide +kernel
theorem dX4_fine_30 : decode cX4_fine 30 = .ok (.i2l, 1) := by decide +kernel
theorem dX4_fine_31 : decode cX4_fine 31 = .ok (.lstore 4, 2) := by decide +kernel
theorem dX4_fine_33 : decode cX4_fine 33 = .ok (.lload 4, 2) := by decide +kernel
theorem dX4_fine_35 : decode cX4_fine 35 = .ok (.lload 4, 2) := by decide +kernel
theorem dX4_fine_37 : decode cX4_fine 37 = .ok (.lmul, 1) := by decide +kernel
theorem dX4_fine_38 : decode cX4_fine 38 = .ok (.lstore 6, 2) := by decide +kernel
theorem dX4_fine_40 : decode cX4_fine 40 = .ok (.lload 6, 2) := by decide +kernel
theorem dX4_fine_42 : decode cX4_fine 42 = .ok (.lconst 0, 1) := by decide +kernel
theorem dX4_fine_43 : decode cX4_fine 43 = .ok (.lcmp, 1) := by decide +kernel
theorem dX4_fine_44 : decode cX4_fine 44 = .ok (.ifCond .le 20, 3) := by decide +kernel
theorem dX4_fine_47 : decode cX4_fine 47 = .ok (.lload_n 2, 1) := by decide +kernel
theorem dX4_fine_48 : decode cX4_fine 48 = .ok (.ldc2_w 189, 3) := by decide +kernel
theorem dX4_fine_51 : decode cX4_fine 51 = .ok (.lload 6, 2) := by decide +kernel
theorem dX4_fine_53 : decode cX4_fine 53 = .ok (.ldiv, 1) := by decide +kernel
theorem dX4_fine_54 : decode cX4_fine 54 = .ok (.lcmp, 1) := by decide +kernel
theorem dX4_fine_55 : decode cX4_fine 55 = .ok (.ifCond .le 9, 3) := by decide +kernel
theorem dX4_fine_58 : decode cX4_fine 58 = .ok (.ldc2_w 191, 3) := by decide +kernel
theorem dX4_fine_61 : decode cX4_fine 61 = .ok (.goto 7, 3) := by decide +kernel
theorem dX4_fine_64 : decode cX4_fine 64 = .ok (.lload_n 2, 1) := by decide +kernel
theorem dX4_fine_65 : decode cX4_fine 65 = .ok (.lload 6, 2) := by decide +kernel
theorem dX4_fine_67 : decode cX4_fine 67 = .ok (.lmul, 1) := by decide +kernel
theorem dX4_fine_68 : decode cX4_fine 68 = .ok (.lreturn, 1) := by decide +kernel
theorem dX4_shareBits_0 : decode cX4_shareBits 0 = .ok (.iload_n 0, 1) := by decide +kernel
theorem dX4_shareBits_1 : decode cX4_shareBits 1 = .ok (.i2l, 1) := by decide +kernel
theorem dX4_shareBits_2 : decode cX4_shareBits 2 = .ok (.lstore_n 2, 1) := by decide +kernel
theorem dX4_shareBits_3 : decode cX4_shareBits 3 = .ok (.iload_n 1, 1) := by decide +kernel
theorem dX4_shareBits_4 : decode cX4_shareBits 4 = .ok (.i2l, 1) := by decide +kernel
theorem dX4_shareBits_5 : decode cX4_shareBits 5 = .ok (.lstore 4, 2) := by decide +kernel
theorem dX4_shareBits_7 : decode cX4_shareBits 7 = .ok (.bipush 127, 2) := by decide +kernel
theorem dX4_shareBits_9 : decode cX4_shareBits 9 = .ok (.istore 6, 2) := by decide +kernel
theorem dX4_shareBits_11 : decode cX4_shareBits 11 = .ok (.lload_n 2, 1) := by decide +kernel
theorem dX4_shareBits_12 : decode cX4_shareBits 12 = .ok (.ldc2_w 76, 3) := by decide +kernel
theorem dX4_shareBits_15 : decode cX4_shareBits 15 = .ok (.lload 4, 2) := by decide +kernel
theorem dX4_shareBits_17 : decode cX4_shareBits 17 = .ok (.lmul, 1) := by decide +kernel
theorem dX4_shareBits_18 : decode cX4_shareBits 18 = .ok (.lcmp, 1) := by decide +kernel
theorem dX4_shareBits_19 : decode cX4_shareBits 19 = .ok (.ifCond .lt 17, 3) := by decide +kernel
theorem dX4_shareBits_22 : decode cX4_shareBits 22 = .ok (.lload 4, 2) := by decide +kernel
theorem dX4_shareBits_24 : decode cX4_shareBits 24 = .ok (.ldc2_w 76, 3) := by decide +kernel
theorem dX4_shareBits_27 : decode cX4_shareBits 27 = .ok (.lmul, 1) := by decide +kernel
theorem dX4_shareBits_28 : decode cX4_shareBits 28 = .ok (.lstore 4, 2) := by decide +kernel
theorem dX4_shareBits_30 : decode cX4_shareBits 30 = .ok (.iinc 6 1, 3) := by decide +kernel
theorem dX4_shareBits_33 : decode cX4_shareBits 33 = .ok (.goto (-22), 3) := by decide +kernel
theorem dX4_shareBits_36 : decode cX4_shareBits 36 = .ok (.lload_n 2, 1) := by decide +kernel
theorem dX4_shareBits_37 : decode cX4_shareBits 37 = .ok (.lload 4, 2) := by decide +kernel
theorem dX4_shareBits_39 : decode cX4_shareBits 39 = .ok (.lcmp, 1) := by decide +kernel
theorem dX4_shareBits_40 : decode cX4_shareBits 40 = .ok (.ifCond .ge 15, 3) := by decide +kernel
theorem dX4_shareBits_43 : decode cX4_shareBits 43 = .ok (.lload_n 2, 1) := by decide +kernel
theorem dX4_shareBits_44 : decode cX4_shareBits 44 = .ok (.ldc2_w 76, 3) := by decide +kernel
theorem dX4_shareBits_47 : decode cX4_shareBits 47 = .ok (.lmul, 1) := by decide +kernel
theorem dX4_shareBits_48 : decode cX4_shareBits 48 = .ok (.lstore_n 2, 1) := by decide +kernel
theorem dX4_shareBits_49 : decode cX4_shareBits 49 = .ok (.iinc 6 (-1), 3) := by decide +kernel
theorem dX4_shareBits_52 : decode cX4_shareBits 52 = .ok (.goto (-16), 3) := by decide +kernel
theorem dX4_shareBits_55 : decode cX4_shareBits 55 = .ok (.lload_n 2, 1) := by decide +kernel
theorem dX4_shareBits_56 : decode cX4_shareBits 56 = .ok (.ldc2_w 193, 3) := by decide +kernel
theorem dX4_shareBits_59 : decode cX4_shareBits 59 = .ok (.lmul, 1) := by decide +kernel
theorem dX4_shareBits_60 : decode cX4_shareBits 60 = .ok (.lload 4, 2) := by decide +kernel
theorem dX4_shareBits_62 : decode cX4_shareBits 62 = .ok (.ldiv, 1) := by decide +kernel
theorem dX4_shareBits_63 : decode cX4_shareBits 63 = .ok (.lstore 7, 2) := by decide +kernel
theorem dX4_shareBits_65 : decode cX4_shareBits 65 = .ok (.lload_n 2, 1) := by decide +kernel
theorem dX4_shareBits_66 : decode cX4_shareBits 66 = .ok (.ldc2_w 193, 3) := by decide +kernel
theorem dX4_shareBits_69 : decode cX4_shareBits 69 = .ok (.lmul, 1) := by decide +kernel
theorem dX4_shareBits_70 : decode cX4_shareBits 70 = .ok (.lload 4, 2) := by decide +kernel
theorem dX4_shareBits_72 : decode cX4_shareBits 72 = .ok (.lrem, 1) := by decide +kernel
theorem dX4_shareBits_73 : decode cX4_shareBits 73 = .ok (.lstore 9, 2) := by decide +kernel
theorem dX4_shareBits_75 : decode cX4_shareBits 75 = .ok (.ldc2_w 76, 3) := by decide +kernel
theorem dX4_shareBits_78 : decode cX4_shareBits 78 = .ok (.lload 9, 2) := by decide +kernel
theorem dX4_shareBits_80 : decode cX4_shareBits 80 = .ok (.lmul, 1) := by decide +kernel
theorem dX4_shareBits_81 : decode cX4_shareBits 81 = .ok (.lload 4, 2) := by decide +kernel
theorem dX4_shareBits_83 : decode cX4_shareBits 83 = .ok (.lcmp, 1) := by decide +kernel
theorem dX4_shareBits_84 : decode cX4_shareBits 84 = .ok (.ifCond .gt 26, 3) := by decide +kernel
theorem dX4_shareBits_87 : decode cX4_shareBits 87 = .ok (.ldc2_w 76, 3) := by decide +kernel
theorem dX4_shareBits_90 : decode cX4_shareBits 90 = .ok (.lload 9, 2) := by decide +kernel
theorem dX4_shareBits_92 : decode cX4_shareBits 92 = .ok (.lmul, 1) := by decide +kernel
theorem dX4_shareBits_93 : decode cX4_shareBits 93 = .ok (.lload 4, 2) := by decide +kernel
theorem dX4_shareBits_95 : decode cX4_shareBits 95 = .ok (.lcmp, 1) := by decide +kernel
theorem dX4_shareBits_96 : decode cX4_shareBits 96 = .ok (.ifCond .ne 18, 3) := by decide +kernel
theorem dX4_shareBits_99 : decode cX4_shareBits 99 = .ok (.lload 7, 2) := by decide +kernel
theorem dX4_shareBits_101 : decode cX4_shareBits 101 = .ok (.ldc2_w 76, 3) := by decide +kernel
theorem dX4_shareBits_104 : decode cX4_shareBits 104 = .ok (.lrem, 1) := by decide +kernel
theorem dX4_shareBits_105 : decode cX4_shareBits 105 = .ok (.lconst 1, 1) := by decide +kernel
theorem dX4_shareBits_106 : decode cX4_shareBits 106 = .ok (.lcmp, 1) := by decide +kernel
theorem dX4_shareBits_107 : decode cX4_shareBits 107 = .ok (.ifCond .ne 7, 3) := by decide +kernel
theorem dX4_shareBits_110 : decode cX4_shareBits 110 = .ok (.iconst 1, 1) := by decide +kernel
theorem dX4_shareBits_111 : decode cX4_shareBits 111 = .ok (.goto 4, 3) := by decide +kernel
theorem dX4_shareBits_114 : decode cX4_shareBits 114 = .ok (.iconst 0, 1) := by decide +kernel
theorem dX4_shareBits_115 : decode cX4_shareBits 115 = .ok (.istore 11, 2) := by decide +kernel
theorem dX4_shareBits_117 : decode cX4_shareBits 117 = .ok (.lload 7, 2) := by decide +kernel
theorem dX4_shareBits_119 : decode cX4_shareBits 119 = .ok (.iload 11, 2) := by decide +kernel
theorem dX4_shareBits_121 : decode cX4_shareBits 121 = .ok (.ifCond .eq 7, 3) := by decide +kernel
theorem dX4_shareBits_124 : decode cX4_shareBits 124 = .ok (.lconst 1, 1) := by decide +kernel
theorem dX4_shareBits_125 : decode cX4_shareBits 125 = .ok (.goto 4, 3) := by decide +kernel
theorem dX4_shareBits_128 : decode cX4_shareBits 128 = .ok (.lconst 0, 1) := by decide +kernel
theorem dX4_shareBits_129 : decode cX4_shareBits 129 = .ok (.ladd, 1) := by decide +kernel
theorem dX4_shareBits_130 : decode cX4_shareBits 130 = .ok (.lstore 7, 2) := by decide +kernel
theorem dX4_shareBits_132 : decode cX4_shareBits 132 = .ok (.lload 7, 2) := by decide +kernel
theorem dX4_shareBits_134 : decode cX4_shareBits 134 = .ok (.ldc2_w 195, 3) := by decide +kernel
theorem dX4_shareBits_137 : decode cX4_shareBits 137 = .ok (.lcmp, 1) := by decide +kernel
theorem dX4_shareBits_138 : decode cX4_shareBits 138 = .ok (.ifCond .ne 11, 3) := by decide +kernel
theorem dX4_shareBits_141 : decode cX4_shareBits 141 = .ok (.ldc2_w 193, 3) := by decide +kernel
theorem dX4_shareBits_144 : decode cX4_shareBits 144 = .ok (.lstore 7, 2) := by decide +kernel
theorem dX4_shareBits_146 : decode cX4_shareBits 146 = .ok (.iinc 6 1, 3) := by decide +kernel
theorem dX4_shareBits_149 : decode cX4_shareBits 149 = .ok (.iload 6, 2) := by decide +kernel
theorem dX4_shareBits_151 : decode cX4_shareBits 151 = .ok (.i2l, 1) := by decide +kernel
theorem dX4_shareBits_152 : decode cX4_shareBits 152 = .ok (.ldc2_w 193, 3) := by decide +kernel
theorem dX4_shareBits_155 : decode cX4_shareBits 155 = .ok (.lmul, 1) := by decide +kernel
theorem dX4_shareBits_156 : decode cX4_shareBits 156 = .ok (.lload 7, 2) := by decide +kernel
theorem dX4_shareBits_158 : decode cX4_shareBits 158 = .ok (.ladd, 1) := by decide +kernel
theorem dX4_shareBits_159 : decode cX4_shareBits 159 = .ok (.ldc2_w 193, 3) := by decide +kernel
theorem dX4_shareBits_162 : decode cX4_shareBits 162 = .ok (.lsub, 1) := by decide +kernel
theorem dX4_shareBits_163 : decode cX4_shareBits 163 = .ok (.l2i, 1) := by decide +kernel
theorem dX4_shareBits_164 : decode cX4_shareBits 164 = .ok (.ireturn, 1) := by decide +kernel
theorem dX4_share_0 : decode cX4_share 0 = .ok (.aload_n 0, 1) := by decide +kernel
theorem dX4_share_1 : decode cX4_share 1 = .ok (.getfield 7, 3) := by decide +kernel
theorem dX4_share_4 : decode cX4_share 4 = .ok (.iconst 1, 1) := by decide +kernel
theorem dX4_share_5 : decode cX4_share 5 = .ok (.iaload, 1) := by decide +kernel
theorem dX4_share_6 : decode cX4_share 6 = .ok (.ifCond .ne 6, 3) := by decide +kernel
theorem dX4_share_9 : decode cX4_share 9 = .ok (.ldc 179, 2) := by decide +kernel
theorem dX4_share_11 : decode cX4_share 11 = .ok (.ireturn, 1) := by decide +kernel
theorem dX4_share_12 : decode cX4_share 12 = .ok (.aload_n 0, 1) := by decide +kernel
theorem dX4_share_13 : decode cX4_share 13 = .ok (.iconst 2, 1) := by decide +kernel
theorem dX4_share_14 : decode cX4_share 14 = .ok (.invokevirtual 182, 3) := by decide +kernel
theorem dX4_share_17 : decode cX4_share 17 = .ok (.invokestatic 106, 3) := by decide +kernel
theorem dX4_share_20 : decode cX4_share 20 = .ok (.istore_n 1, 1) := by decide +kernel
theorem dX4_share_21 : decode cX4_share 21 = .ok (.iload_n 1, 1) := by decide +kernel
theorem dX4_share_22 : decode cX4_share 22 = .ok (.ifCond .ne 7, 3) := by decide +kernel
theorem dX4_share_25 : decode cX4_share 25 = .ok (.iconst 0, 1) := by decide +kernel
theorem dX4_share_26 : decode cX4_share 26 = .ok (.goto 13, 3) := by decide +kernel
theorem dX4_share_29 : decode cX4_share 29 = .ok (.iload_n 1, 1) := by decide +kernel
theorem dX4_share_30 : decode cX4_share 30 = .ok (.aload_n 0, 1) := by decide +kernel
theorem dX4_share_31 : decode cX4_share 31 = .ok (.getfield 7, 3) := by decide +kernel
theorem dX4_share_34 : decode cX4_share 34 = .ok (.iconst 1, 1) := by decide +kernel
theorem dX4_share_35 : decode cX4_share 35 = .ok (.iaload, 1) := by decide +kernel
theorem dX4_share_36 : decode cX4_share 36 = .ok (.invokestatic 197, 3) := by decide +kernel
theorem dX4_share_39 : decode cX4_share 39 = .ok (.ireturn, 1) := by decide +kernel
theorem dX4_partsOf_0 : decode cX4_partsOf 0 = .ok (.iconst 0, 1) := by decide +kernel
theorem dX4_partsOf_1 : decode cX4_partsOf 1 = .ok (.istore_n 2, 1) := by decide +kernel
theorem dX4_partsOf_2 : decode cX4_partsOf 2 = .ok (.iconst 0, 1) := by decide +kernel
theorem dX4_partsOf_3 : decode cX4_partsOf 3 = .ok (.istore_n 3, 1) := by decide +kernel
theorem dX4_partsOf_4 : decode cX4_partsOf 4 = .ok (.iload_n 3, 1) := by decide +kernel
theorem dX4_partsOf_5 : decode cX4_partsOf 5 = .ok (.aload_n 0, 1) := by decide +kernel
theorem dX4_partsOf_6 : decode cX4_partsOf 6 = .ok (.getfield 7, 3) := by decide +kernel
theorem dX4_partsOf_9 : decode cX4_partsOf 9 = .ok (.iconst 1, 1) := by decide +kernel
theorem dX4_partsOf_10 : decode cX4_partsOf 10 = .ok (.iaload, 1) := by decide +kernel
theorem dX4_partsOf_11 : decode cX4_partsOf 11 = .ok (.if_icmp .ge 34, 3) := by decide +kernel
theorem dX4_partsOf_14 : decode cX4_partsOf 14 = .ok (.iload_n 2, 1) := by decide +kernel
theorem dX4_partsOf_15 : decode cX4_partsOf 15 = .ok (.iload_n 1, 1) := by decide +kernel
theorem dX4_partsOf_16 : decode cX4_partsOf 16 = .ok (.ifCond .eq 15, 3) := by decide +kernel
theorem dX4_partsOf_19 : decode cX4_partsOf 19 = .ok (.aload_n 0, 1) := by decide +kernel
theorem dX4_partsOf_20 : decode cX4_partsOf 20 = .ok (.iload_n 3, 1) := by decide +kernel
theorem dX4_partsOf_21 : decode cX4_partsOf 21 = .ok (.iconst 4, 1) := by decide +kernel
theorem dX4_partsOf_22 : decode cX4_partsOf 22 = .ok (.invokevirtual 46, 3) := by decide +kernel
theorem dX4_partsOf_25 : decode cX4_partsOf 25 = .ok (.invokestatic 106, 3) := by decide +kernel
theorem dX4_partsOf_28 : decode cX4_partsOf 28 = .ok (.goto 9, 3) := by decide +kernel
theorem dX4_partsOf_31 : decode cX4_partsOf 31 = .ok (.aload_n 0, 1) := by decide +kernel
theorem dX4_partsOf_32 : decode cX4_partsOf 32 = .ok (.iload_n 3, 1) := by decide +kernel
theorem dX4_partsOf_33 : decode cX4_partsOf 33 = .ok (.iconst 3, 1) := by decide +kernel
theorem dX4_partsOf_34 : decode cX4_partsOf 34 = .ok (.invokevirtual 46, 3) := by decide +kernel
theorem dX4_partsOf_37 : decode cX4_partsOf 37 = .ok (.iadd, 1) := by decide +kernel
theorem dX4_partsOf_38 : decode cX4_partsOf 38 = .ok (.istore_n 2, 1) := by decide +kernel
theorem dX4_partsOf_39 : decode cX4_partsOf 39 = .ok (.iinc 3 1, 3) := by decide +kernel
theorem dX4_partsOf_42 : decode cX4_partsOf 42 = .ok (.goto (-38), 3) := by decide +kernel
theorem dX4_partsOf_45 : decode cX4_partsOf 45 = .ok (.iload_n 2, 1) := by decide +kernel
theorem dX4_partsOf_46 : decode cX4_partsOf 46 = .ok (.ireturn, 1) := by decide +kernel
theorem dX4_count_0 : decode cX4_count 0 = .ok (.iload_n 1, 1) := by decide +kernel
theorem dX4_count_1 : decode cX4_count 1 = .ok (.tableswitch 167 0 21 #[103, 110, 117, 123, 129, 136, 143, 148, 167, 167, 167, 167, 167, 167, 167, 167, 167, 167, 167, 167, 153, 160], 103) := by decide +kernel
theorem dX4_count_104 : decode cX4_count 104 = .ok (.aload_n 0, 1) := by decide +kernel
theorem dX4_count_105 : decode cX4_count 105 = .ok (.getfield 7, 3) := by decide +kernel
theorem dX4_count_108 : decode cX4_count 108 = .ok (.iconst 1, 1) := by decide +kernel
theorem dX4_count_109 : decode cX4_count 109 = .ok (.iaload, 1) := by decide +kernel
theorem dX4_count_110 : decode cX4_count 110 = .ok (.ireturn, 1) := by decide +kernel
theorem dX4_count_111 : decode cX4_count 111 = .ok (.aload_n 0, 1) := by decide +kernel
theorem dX4_count_112 : decode cX4_count 112 = .ok (.getfield 7, 3) := by decide +kernel
theorem dX4_count_115 : decode cX4_count 115 = .ok (.iconst 0, 1) := by decide +kernel
theorem dX4_count_116 : decode cX4_count 116 = .ok (.iaload, 1) := by decide +kernel
