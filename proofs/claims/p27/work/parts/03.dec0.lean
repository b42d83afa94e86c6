-- decode rows out of the printed list of the task
theorem dX0_init_0 : decode cX0_init 0 = .ok (.aload_n 0, 1) := by decide +kernel
theorem dX0_init_1 : decode cX0_init 1 = .ok (.invokespecial 3, 3) := by decide +kernel
theorem dX0_init_4 : decode cX0_init 4 = .ok (.aload_n 0, 1) := by decide +kernel
theorem dX0_init_5 : decode cX0_init 5 = .ok (.iconst 0, 1) := by decide +kernel
theorem dX0_init_6 : decode cX0_init 6 = .ok (.putfield 9, 3) := by decide +kernel
theorem dX0_init_9 : decode cX0_init 9 = .ok (.aload_n 0, 1) := by decide +kernel
theorem dX0_init_10 : decode cX0_init 10 = .ok (.iconst 0, 1) := by decide +kernel
theorem dX0_init_11 : decode cX0_init 11 = .ok (.putfield 15, 3) := by decide +kernel
theorem dX0_init_14 : decode cX0_init 14 = .ok (.aload_n 0, 1) := by decide +kernel
theorem dX0_init_15 : decode cX0_init 15 = .ok (.iconst 0, 1) := by decide +kernel
theorem dX0_init_16 : decode cX0_init 16 = .ok (.putfield 18, 3) := by decide +kernel
theorem dX0_init_19 : decode cX0_init 19 = .ok (.aload_n 0, 1) := by decide +kernel
theorem dX0_init_20 : decode cX0_init 20 = .ok (.iconst 1, 1) := by decide +kernel
theorem dX0_init_21 : decode cX0_init 21 = .ok (.putfield 21, 3) := by decide +kernel
theorem dX0_init_24 : decode cX0_init 24 = .ok (.aload_n 0, 1) := by decide +kernel
theorem dX0_init_25 : decode cX0_init 25 = .ok (.iconst 0, 1) := by decide +kernel
theorem dX0_init_26 : decode cX0_init 26 = .ok (.putfield 24, 3) := by decide +kernel
theorem dX0_init_29 : decode cX0_init 29 = .ok (.aload_n 0, 1) := by decide +kernel
theorem dX0_init_30 : decode cX0_init 30 = .ok (.iconst 0, 1) := by decide +kernel
theorem dX0_init_31 : decode cX0_init 31 = .ok (.putfield 27, 3) := by decide +kernel
theorem dX0_init_34 : decode cX0_init 34 = .ok (.aload_n 0, 1) := by decide +kernel
theorem dX0_init_35 : decode cX0_init 35 = .ok (.iconst 0, 1) := by decide +kernel
theorem dX0_init_36 : decode cX0_init 36 = .ok (.putfield 30, 3) := by decide +kernel
theorem dX0_init_39 : decode cX0_init 39 = .ok (.aload_n 0, 1) := by decide +kernel
theorem dX0_init_40 : decode cX0_init 40 = .ok (.iconst 0, 1) := by decide +kernel
theorem dX0_init_41 : decode cX0_init 41 = .ok (.putfield 33, 3) := by decide +kernel
theorem dX0_init_44 : decode cX0_init 44 = .ok (.aload_n 0, 1) := by decide +kernel
theorem dX0_init_45 : decode cX0_init 45 = .ok (.iconst 0, 1) := by decide +kernel
theorem dX0_init_46 : decode cX0_init 46 = .ok (.putfield 36, 3) := by decide +kernel
theorem dX0_init_49 : decode cX0_init 49 = .ok (.aload_n 0, 1) := by decide +kernel
theorem dX0_init_50 : decode cX0_init 50 = .ok (.iconst 0, 1) := by decide +kernel
theorem dX0_init_51 : decode cX0_init 51 = .ok (.putfield 40, 3) := by decide +kernel
theorem dX0_init_54 : decode cX0_init 54 = .ok (.aload_n 0, 1) := by decide +kernel
theorem dX0_init_55 : decode cX0_init 55 = .ok (.iconst 0, 1) := by decide +kernel
theorem dX0_init_56 : decode cX0_init 56 = .ok (.putfield 43, 3) := by decide +kernel
theorem dX0_init_59 : decode cX0_init 59 = .ok (.aload_n 0, 1) := by decide +kernel
theorem dX0_init_60 : decode cX0_init 60 = .ok (.iconst 0, 1) := by decide +kernel
theorem dX0_init_61 : decode cX0_init 61 = .ok (.putfield 46, 3) := by decide +kernel
theorem dX0_init_64 : decode cX0_init 64 = .ok (.aload_n 0, 1) := by decide +kernel
theorem dX0_init_65 : decode cX0_init 65 = .ok (.iconst 0, 1) := by decide +kernel
theorem dX0_init_66 : decode cX0_init 66 = .ok (.putfield 49, 3) := by decide +kernel
theorem dX0_init_69 : decode cX0_init 69 = .ok (.aload_n 0, 1) := by decide +kernel
theorem dX0_init_70 : decode cX0_init 70 = .ok (.iconst 0, 1) := by decide +kernel
theorem dX0_init_71 : decode cX0_init 71 = .ok (.putfield 52, 3) := by decide +kernel
theorem dX0_init_74 : decode cX0_init 74 = .ok (.return_, 1) := by decide +kernel
theorem dX0_startAs_0 : decode cX0_startAs 0 = .ok (.aload_n 0, 1) := by decide +kernel
theorem dX0_startAs_1 : decode cX0_startAs 1 = .ok (.iload_n 1, 1) := by decide +kernel
theorem dX0_startAs_2 : decode cX0_startAs 2 = .ok (.putfield 9, 3) := by decide +kernel
theorem dX0_startAs_5 : decode cX0_startAs 5 = .ok (.aload_n 0, 1) := by decide +kernel
theorem dX0_startAs_6 : decode cX0_startAs 6 = .ok (.iload_n 2, 1) := by decide +kernel
theorem dX0_startAs_7 : decode cX0_startAs 7 = .ok (.putfield 15, 3) := by decide +kernel
theorem dX0_startAs_10 : decode cX0_startAs 10 = .ok (.aload_n 0, 1) := by decide +kernel
theorem dX0_startAs_11 : decode cX0_startAs 11 = .ok (.iload_n 3, 1) := by decide +kernel
theorem dX0_startAs_12 : decode cX0_startAs 12 = .ok (.putfield 18, 3) := by decide +kernel
theorem dX0_startAs_15 : decode cX0_startAs 15 = .ok (.aload_n 0, 1) := by decide +kernel
theorem dX0_startAs_16 : decode cX0_startAs 16 = .ok (.iload 4, 2) := by decide +kernel
theorem dX0_startAs_18 : decode cX0_startAs 18 = .ok (.putfield 21, 3) := by decide +kernel
theorem dX0_startAs_21 : decode cX0_startAs 21 = .ok (.aload_n 0, 1) := by decide +kernel
theorem dX0_startAs_22 : decode cX0_startAs 22 = .ok (.iconst 0, 1) := by decide +kernel
theorem dX0_startAs_23 : decode cX0_startAs 23 = .ok (.putfield 24, 3) := by decide +kernel
theorem dX0_startAs_26 : decode cX0_startAs 26 = .ok (.aload_n 0, 1) := by decide +kernel
theorem dX0_startAs_27 : decode cX0_startAs 27 = .ok (.iconst 0, 1) := by decide +kernel
theorem dX0_startAs_28 : decode cX0_startAs 28 = .ok (.putfield 27, 3) := by decide +kernel
theorem dX0_startAs_31 : decode cX0_startAs 31 = .ok (.aload_n 0, 1) := by decide +kernel
theorem dX0_startAs_32 : decode cX0_startAs 32 = .ok (.iconst 0, 1) := by decide +kernel
theorem dX0_startAs_33 : decode cX0_startAs 33 = .ok (.putfield 33, 3) := by decide +kernel
theorem dX0_startAs_36 : decode cX0_startAs 36 = .ok (.aload_n 0, 1) := by decide +kernel
theorem dX0_startAs_37 : decode cX0_startAs 37 = .ok (.iconst 0, 1) := by decide +kernel
theorem dX0_startAs_38 : decode cX0_startAs 38 = .ok (.putfield 40, 3) := by decide +kernel
theorem dX0_startAs_41 : decode cX0_startAs 41 = .ok (.aload_n 0, 1) := by decide +kernel
theorem dX0_startAs_42 : decode cX0_startAs 42 = .ok (.iconst 0, 1) := by decide +kernel
theorem dX0_startAs_43 : decode cX0_startAs 43 = .ok (.putfield 52, 3) := by decide +kernel
theorem dX0_startAs_46 : decode cX0_startAs 46 = .ok (.aload_n 0, 1) := by decide +kernel
theorem dX0_startAs_47 : decode cX0_startAs 47 = .ok (.invokevirtual 55, 3) := by decide +kernel
theorem dX0_startAs_50 : decode cX0_startAs 50 = .ok (.return_, 1) := by decide +kernel
theorem dX0_copyFrom_0 : decode cX0_copyFrom 0 = .ok (.aload_n 0, 1) := by decide +kernel
theorem dX0_copyFrom_1 : decode cX0_copyFrom 1 = .ok (.aload_n 1, 1) := by decide +kernel
theorem dX0_copyFrom_2 : decode cX0_copyFrom 2 = .ok (.getfield 9, 3) := by decide +kernel
theorem dX0_copyFrom_5 : decode cX0_copyFrom 5 = .ok (.putfield 9, 3) := by decide +kernel
theorem dX0_copyFrom_8 : decode cX0_copyFrom 8 = .ok (.aload_n 0, 1) := by decide +kernel
theorem dX0_copyFrom_9 : decode cX0_copyFrom 9 = .ok (.aload_n 1, 1) := by decide +kernel
theorem dX0_copyFrom_10 : decode cX0_copyFrom 10 = .ok (.getfield 15, 3) := by decide +kernel
theorem dX0_copyFrom_13 : decode cX0_copyFrom 13 = .ok (.putfield 15, 3) := by decide +kernel
theorem dX0_copyFrom_16 : decode cX0_copyFrom 16 = .ok (.aload_n 0, 1) := by decide +kernel
theorem dX0_copyFrom_17 : decode cX0_copyFrom 17 = .ok (.aload_n 1, 1) := by decide +kernel
theorem dX0_copyFrom_18 : decode cX0_copyFrom 18 = .ok (.getfield 18, 3) := by decide +kernel
theorem dX0_copyFrom_21 : decode cX0_copyFrom 21 = .ok (.putfield 18, 3) := by decide +kernel
theorem dX0_copyFrom_24 : decode cX0_copyFrom 24 = .ok (.aload_n 0, 1) := by decide +kernel
theorem dX0_copyFrom_25 : decode cX0_copyFrom 25 = .ok (.aload_n 1, 1) := by decide +kernel
theorem dX0_copyFrom_26 : decode cX0_copyFrom 26 = .ok (.getfield 21, 3) := by decide +kernel
theorem dX0_copyFrom_29 : decode cX0_copyFrom 29 = .ok (.putfield 21, 3) := by decide +kernel
theorem dX0_copyFrom_32 : decode cX0_copyFrom 32 = .ok (.aload_n 0, 1) := by decide +kernel
theorem dX0_copyFrom_33 : decode cX0_copyFrom 33 = .ok (.aload_n 1, 1) := by decide +kernel
theorem dX0_copyFrom_34 : decode cX0_copyFrom 34 = .ok (.getfield 24, 3) := by decide +kernel
theorem dX0_copyFrom_37 : decode cX0_copyFrom 37 = .ok (.putfield 24, 3) := by decide +kernel
theorem dX0_copyFrom_40 : decode cX0_copyFrom 40 = .ok (.aload_n 0, 1) := by decide +kernel
theorem dX0_copyFrom_41 : decode cX0_copyFrom 41 = .ok (.aload_n 1, 1) := by decide +kernel
theorem dX0_copyFrom_42 : decode cX0_copyFrom 42 = .ok (.getfield 27, 3) := by decide +kernel
theorem dX0_copyFrom_45 : decode cX0_copyFrom 45 = .ok (.putfield 27, 3) := by decide +kernel
theorem dX0_copyFrom_48 : decode cX0_copyFrom 48 = .ok (.aload_n 0, 1) := by decide +kernel
theorem dX0_copyFrom_49 : decode cX0_copyFrom 49 = .ok (.aload_n 1, 1) := by decide +kernel
theorem dX0_copyFrom_50 : decode cX0_copyFrom 50 = .ok (.getfield 30, 3) := by decide +kernel
theorem dX0_copyFrom_53 : decode cX0_copyFrom 53 = .ok (.putfield 30, 3) := by decide +kernel
theorem dX0_copyFrom_56 : decode cX0_copyFrom 56 = .ok (.aload_n 0, 1) := by decide +kernel
theorem dX0_copyFrom_57 : decode cX0_copyFrom 57 = .ok (.aload_n 1, 1) := by decide +kernel
theorem dX0_copyFrom_58 : decode cX0_copyFrom 58 = .ok (.getfield 33, 3) := by decide +kernel
theorem dX0_copyFrom_61 : decode cX0_copyFrom 61 = .ok (.putfield 33, 3) := by decide +kernel
theorem dX0_copyFrom_64 : decode cX0_copyFrom 64 = .ok (.aload_n 0, 1) := by decide +kernel
theorem dX0_copyFrom_65 : decode cX0_copyFrom 65 = .ok (.aload_n 1, 1) := by decide +kernel
theorem dX0_copyFrom_66 : decode cX0_copyFrom 66 = .ok (.getfield 36, 3) := by decide +kernel
theorem dX0_copyFrom_69 : decode cX0_copyFrom 69 = .ok (.putfield 36, 3) := by decide +kernel
theorem dX0_copyFrom_72 : decode cX0_copyFrom 72 = .ok (.aload_n 0, 1) := by decide +kernel
theorem dX0_copyFrom_73 : decode cX0_copyFrom 73 = .ok (.aload_n 1, 1) := by decide +kernel
theorem dX0_copyFrom_74 : decode cX0_copyFrom 74 = .ok (.getfield 40, 3) := by decide +kernel
theorem dX0_copyFrom_77 : decode cX0_copyFrom 77 = .ok (.putfield 40, 3) := by decide +kernel
theorem dX0_copyFrom_80 : decode cX0_copyFrom 80 = .ok (.aload_n 0, 1) := by decide +kernel
theorem dX0_copyFrom_81 : decode cX0_copyFrom 81 = .ok (.aload_n 1, 1) := by decide +kernel
theorem dX0_copyFrom_82 : decode cX0_copyFrom 82 = .ok (.getfield 43, 3) := by decide +kernel
theorem dX0_copyFrom_85 : decode cX0_copyFrom 85 = .ok (.putfield 43, 3) := by decide +kernel
theorem dX0_copyFrom_88 : decode cX0_copyFrom 88 = .ok (.aload_n 0, 1) := by decide +kernel
theorem dX0_copyFrom_89 : decode cX0_copyFrom 89 = .ok (.aload_n 1, 1) := by decide +kernel
theorem dX0_copyFrom_90 : decode cX0_copyFrom 90 = .ok (.getfield 46, 3) := by decide +kernel
theorem dX0_copyFrom_93 : decode cX0_copyFrom 93 = .ok (.putfield 46, 3) := by decide +kernel
theorem dX0_copyFrom_96 : decode cX0_copyFrom 96 = .ok (.aload_n 0, 1) := by decide +kernel
theorem dX0_copyFrom_97 : decode cX0_copyFrom 97 = .ok (.aload_n 1, 1) := by decide +kernel
theorem dX0_copyFrom_98 : decode cX0_copyFrom 98 = .ok (.getfield 49, 3) := by decide +kernel
theorem dX0_copyFrom_101 : decode cX0_copyFrom 101 = .ok (.putfield 49, 3) := by decide +kernel
theorem dX0_copyFrom_104 : decode cX0_copyFrom 104 = .ok (.aload_n 0, 1) := by decide +kernel
theorem dX0_copyFrom_105 : decode cX0_copyFrom 105 = .ok (.aload_n 1, 1) := by decide +kernel
theorem dX0_copyFrom_106 : decode cX0_copyFrom 106 = .ok (.getfield 52, 3) := by decide +kernel
theorem dX0_copyFrom_109 : decode cX0_copyFrom 109 = .ok (.putfield 52, 3) := by decide +kernel
theorem dX0_copyFrom_112 : decode cX0_copyFrom 112 = .ok (.return_, 1) := by decide +kernel
theorem dX0_isMet_0 : decode cX0_isMet 0 = .ok (.aload_n 0, 1) := by decide +kernel
theorem dX0_isMet_1 : decode cX0_isMet 1 = .ok (.getfield 9, 3) := by decide +kernel
theorem dX0_isMet_4 : decode cX0_isMet 4 = .ok (.iconst 2, 1) := by decide +kernel
theorem dX0_isMet_5 : decode cX0_isMet 5 = .ok (.if_icmp .ne 20, 3) := by decide +kernel
theorem dX0_isMet_8 : decode cX0_isMet 8 = .ok (.aload_n 0, 1) := by decide +kernel
theorem dX0_isMet_9 : decode cX0_isMet 9 = .ok (.getfield 33, 3) := by decide +kernel
theorem dX0_isMet_12 : decode cX0_isMet 12 = .ok (.aload_n 0, 1) := by decide +kernel
theorem dX0_isMet_13 : decode cX0_isMet 13 = .ok (.getfield 18, 3) := by decide +kernel
theorem dX0_isMet_16 : decode cX0_isMet 16 = .ok (.if_icmp .lt 7, 3) := by decide +kernel
theorem dX0_isMet_19 : decode cX0_isMet 19 = .ok (.iconst 1, 1) := by decide +kernel
theorem dX0_isMet_20 : decode cX0_isMet 20 = .ok (.goto 4, 3) := by decide +kernel
theorem dX0_isMet_23 : decode cX0_isMet 23 = .ok (.iconst 0, 1) := by decide +kernel
theorem dX0_isMet_24 : decode cX0_isMet 24 = .ok (.ireturn, 1) := by decide +kernel
theorem dX0_isMet_25 : decode cX0_isMet 25 = .ok (.aload_n 0, 1) := by decide +kernel
theorem dX0_isMet_26 : decode cX0_isMet 26 = .ok (.getfield 24, 3) := by decide +kernel
theorem dX0_isMet_29 : decode cX0_isMet 29 = .ok (.iconst 1, 1) := by decide +kernel
theorem dX0_isMet_30 : decode cX0_isMet 30 = .ok (.aload_n 0, 1) := by decide +kernel
theorem dX0_isMet_31 : decode cX0_isMet 31 = .ok (.getfield 21, 3) := by decide +kernel
theorem dX0_isMet_34 : decode cX0_isMet 34 = .ok (.ishl, 1) := by decide +kernel
theorem dX0_isMet_35 : decode cX0_isMet 35 = .ok (.iconst 1, 1) := by decide +kernel
theorem dX0_isMet_36 : decode cX0_isMet 36 = .ok (.isub, 1) := by decide +kernel
theorem dX0_isMet_37 : decode cX0_isMet 37 = .ok (.if_icmp .ne 7, 3) := by decide +kernel
theorem dX0_isMet_40 : decode cX0_isMet 40 = .ok (.iconst 1, 1) := by decide +kernel
theorem dX0_isMet_41 : decode cX0_isMet 41 = .ok (.goto 4, 3) := by decide +kernel
theorem dX0_isMet_44 : decode cX0_isMet 44 = .ok (.iconst 0, 1) := by decide +kernel
theorem dX0_isMet_45 : decode cX0_isMet 45 = .ok (.ireturn, 1) := by decide +kernel
theorem dX0_isPartsSet_0 : decode cX0_isPartsSet 0 = .ok (.iload_n 1, 1) := by decide +kernel
theorem dX0_isPartsSet_1 : decode cX0_isPartsSet 1 = .ok (.ifCond .lt 17, 3) := by decide +kernel
theorem dX0_isPartsSet_4 : decode cX0_isPartsSet 4 = .ok (.iload_n 1, 1) := by decide +kernel
theorem dX0_isPartsSet_5 : decode cX0_isPartsSet 5 = .ok (.iconst 1, 1) := by decide +kernel
theorem dX0_isPartsSet_6 : decode cX0_isPartsSet 6 = .ok (.aload_n 0, 1) := by decide +kernel
theorem dX0_isPartsSet_7 : decode cX0_isPartsSet 7 = .ok (.getfield 21, 3) := by decide +kernel
theorem dX0_isPartsSet_10 : decode cX0_isPartsSet 10 = .ok (.ishl, 1) := by decide +kernel
theorem dX0_isPartsSet_11 : decode cX0_isPartsSet 11 = .ok (.if_icmp .ge 7, 3) := by decide +kernel
theorem dX0_isPartsSet_14 : decode cX0_isPartsSet 14 = .ok (.iconst 1, 1) := by decide +kernel
theorem dX0_isPartsSet_15 : decode cX0_isPartsSet 15 = .ok (.goto 4, 3) := by decide +kernel
theorem dX0_isPartsSet_18 : decode cX0_isPartsSet 18 = .ok (.iconst 0, 1) := by decide +kernel
theorem dX0_isPartsSet_19 : decode cX0_isPartsSet 19 = .ok (.ireturn, 1) := by decide +kernel
theorem dX0_approve_0 : decode cX0_approve 0 = .ok (.aload_n 0, 1) := by decide +kernel
theorem dX0_approve_1 : decode cX0_approve 1 = .ok (.aload_n 0, 1) := by decide +kernel
theorem dX0_approve_2 : decode cX0_approve 2 = .ok (.getfield 24, 3) := by decide +kernel
theorem dX0_approve_5 : decode cX0_approve 5 = .ok (.iload_n 1, 1) := by decide +kernel
theorem dX0_approve_6 : decode cX0_approve 6 = .ok (.ior, 1) := by decide +kernel
theorem dX0_approve_7 : decode cX0_approve 7 = .ok (.putfield 24, 3) := by decide +kernel
theorem dX0_approve_10 : decode cX0_approve 10 = .ok (.aload_n 0, 1) := by decide +kernel
theorem dX0_approve_11 : decode cX0_approve 11 = .ok (.iconst 0, 1) := by decide +kernel
theorem dX0_approve_12 : decode cX0_approve 12 = .ok (.putfield 27, 3) := by decide +kernel
theorem dX0_approve_15 : decode cX0_approve 15 = .ok (.aload_n 0, 1) := by decide +kernel
theorem dX0_approve_16 : decode cX0_approve 16 = .ok (.getfield 36, 3) := by decide +kernel
theorem dX0_approve_19 : decode cX0_approve 19 = .ok (.ifCond .eq 14, 3) := by decide +kernel
theorem dX0_approve_22 : decode cX0_approve 22 = .ok (.aload_n 0, 1) := by decide +kernel
theorem dX0_approve_23 : decode cX0_approve 23 = .ok (.invokevirtual 58, 3) := by decide +kernel
theorem dX0_approve_26 : decode cX0_approve 26 = .ok (.ifCond .eq 7, 3) := by decide +kernel
theorem dX0_approve_29 : decode cX0_approve 29 = .ok (.aload_n 0, 1) := by decide +kernel
theorem dX0_approve_30 : decode cX0_approve 30 = .ok (.invokevirtual 55, 3) := by decide +kernel
theorem dX0_approve_33 : decode cX0_approve 33 = .ok (.return_, 1) := by decide +kernel
theorem dX0_endBreach_0 : decode cX0_endBreach 0 = .ok (.aload_n 0, 1) := by decide +kernel
theorem dX0_endBreach_1 : decode cX0_endBreach 1 = .ok (.iconst 0, 1) := by decide +kernel
theorem dX0_endBreach_2 : decode cX0_endBreach 2 = .ok (.putfield 36, 3) := by decide +kernel
theorem dX0_endBreach_5 : decode cX0_endBreach 5 = .ok (.aload_n 0, 1) := by decide +kernel
theorem dX0_endBreach_6 : decode cX0_endBreach 6 = .ok (.iconst 0, 1) := by decide +kernel
theorem dX0_endBreach_7 : decode cX0_endBreach 7 = .ok (.putfield 43, 3) := by decide +kernel
theorem dX0_endBreach_10 : decode cX0_endBreach 10 = .ok (.aload_n 0, 1) := by decide +kernel
theorem dX0_endBreach_11 : decode cX0_endBreach 11 = .ok (.iconst 0, 1) := by decide +kernel
theorem dX0_endBreach_12 : decode cX0_endBreach 12 = .ok (.putfield 46, 3) := by decide +kernel
theorem dX0_endBreach_15 : decode cX0_endBreach 15 = .ok (.return_, 1) := by decide +kernel
theorem dX0_ageBreach_0 : decode cX0_ageBreach 0 = .ok (.aload_n 0, 1) := by decide +kernel
theorem dX0_ageBreach_1 : decode cX0_ageBreach 1 = .ok (.dup, 1) := by decide +kernel
theorem dX0_ageBreach_2 : decode cX0_ageBreach 2 = .ok (.getfield 43, 3) := by decide +kernel
theorem dX0_ageBreach_5 : decode cX0_ageBreach 5 = .ok (.iconst 1, 1) := by decide +kernel
theorem dX0_ageBreach_6 : decode cX0_ageBreach 6 = .ok (.iadd, 1) := by decide +kernel
theorem dX0_ageBreach_7 : decode cX0_ageBreach 7 = .ok (.putfield 43, 3) := by decide +kernel
theorem dX0_ageBreach_10 : decode cX0_ageBreach 10 = .ok (.aload_n 0, 1) := by decide +kernel
theorem dX0_ageBreach_11 : decode cX0_ageBreach 11 = .ok (.getfield 46, 3) := by decide +kernel
theorem dX0_ageBreach_14 : decode cX0_ageBreach 14 = .ok (.ifCond .eq 23, 3) := by decide +kernel
theorem dX0_ageBreach_17 : decode cX0_ageBreach 17 = .ok (.aload_n 0, 1) := by decide +kernel
theorem dX0_ageBreach_18 : decode cX0_ageBreach 18 = .ok (.getfield 49, 3) := by decide +kernel
theorem dX0_ageBreach_21 : decode cX0_ageBreach 21 = .ok (.ifCond .le 16, 3) := by decide +kernel
theorem dX0_ageBreach_24 : decode cX0_ageBreach 24 = .ok (.aload_n 0, 1) := by decide +kernel
theorem dX0_ageBreach_25 : decode cX0_ageBreach 25 = .ok (.dup, 1) := by decide +kernel
theorem dX0_ageBreach_26 : decode cX0_ageBreach 26 = .ok (.getfield 49, 3) := by decide +kernel
theorem dX0_ageBreach_29 : decode cX0_ageBreach 29 = .ok (.iconst 1, 1) := by decide +kernel
theorem dX0_ageBreach_30 : decode cX0_ageBreach 30 = .ok (.isub, 1) := by decide +kernel
theorem dX0_ageBreach_31 : decode cX0_ageBreach 31 = .ok (.putfield 49, 3) := by decide +kernel
theorem dX0_ageBreach_34 : decode cX0_ageBreach 34 = .ok (.goto 40, 3) := by decide +kernel
theorem dX0_ageBreach_37 : decode cX0_ageBreach 37 = .ok (.aload_n 0, 1) := by decide +kernel
theorem dX0_ageBreach_38 : decode cX0_ageBreach 38 = .ok (.getfield 46, 3) := by decide +kernel
theorem dX0_ageBreach_41 : decode cX0_ageBreach 41 = .ok (.ifCond .eq 16, 3) := by decide +kernel
theorem dX0_ageBreach_44 : decode cX0_ageBreach 44 = .ok (.aload_n 0, 1) := by decide +kernel
theorem dX0_ageBreach_45 : decode cX0_ageBreach 45 = .ok (.dup, 1) := by decide +kernel
theorem dX0_ageBreach_46 : decode cX0_ageBreach 46 = .ok (.getfield 52, 3) := by decide +kernel
theorem dX0_ageBreach_49 : decode cX0_ageBreach 49 = .ok (.iconst 1, 1) := by decide +kernel
theorem dX0_ageBreach_50 : decode cX0_ageBreach 50 = .ok (.iadd, 1) := by decide +kernel
theorem dX0_ageBreach_51 : decode cX0_ageBreach 51 = .ok (.putfield 52, 3) := by decide +kernel
theorem dX0_ageBreach_54 : decode cX0_ageBreach 54 = .ok (.goto 20, 3) := by decide +kernel
theorem dX0_ageBreach_57 : decode cX0_ageBreach 57 = .ok (.aload_n 0, 1) := by decide +kernel
theorem dX0_ageBreach_58 : decode cX0_ageBreach 58 = .ok (.getfield 43, 3) := by decide +kernel
theorem dX0_ageBreach_61 : decode cX0_ageBreach 61 = .ok (.iload_n 1, 1) := by decide +kernel
theorem dX0_ageBreach_62 : decode cX0_ageBreach 62 = .ok (.if_icmp .lt 12, 3) := by decide +kernel
theorem dX0_ageBreach_65 : decode cX0_ageBreach 65 = .ok (.aload_n 0, 1) := by decide +kernel
theorem dX0_ageBreach_66 : decode cX0_ageBreach 66 = .ok (.invokevirtual 55, 3) := by decide +kernel
theorem dX0_ageBreach_69 : decode cX0_ageBreach 69 = .ok (.aload_n 0, 1) := by decide +kernel
theorem dX0_ageBreach_70 : decode cX0_ageBreach 70 = .ok (.iconst 1, 1) := by decide +kernel
theorem dX0_ageBreach_71 : decode cX0_ageBreach 71 = .ok (.putfield 40, 3) := by decide +kernel
theorem dX0_ageBreach_74 : decode cX0_ageBreach 74 = .ok (.return_, 1) := by decide +kernel
theorem dX1_init_0 : decode cX1_init 0 = .ok (.aload_n 0, 1) := by decide +kernel
theorem dX1_init_1 : decode cX1_init 1 = .ok (.invokespecial 3, 3) := by decide +kernel
theorem dX1_init_4 : decode cX1_init 4 = .ok (.aload_n 0, 1) := by decide +kernel
theorem dX1_init_5 : decode cX1_init 5 = .ok (.bipush 80, 2) := by decide +kernel
theorem dX1_init_7 : decode cX1_init 7 = .ok (.newarray .char, 2) := by decide +kernel
theorem dX1_init_9 : decode cX1_init 9 = .ok (.putfield 9, 3) := by decide +kernel
theorem dX1_init_12 : decode cX1_init 12 = .ok (.aload_n 0, 1) := by decide +kernel
theorem dX1_init_13 : decode cX1_init 13 = .ok (.iconst 4, 1) := by decide +kernel
theorem dX1_init_14 : decode cX1_init 14 = .ok (.newarray .int, 2) := by decide +kernel
theorem dX1_init_16 : decode cX1_init 16 = .ok (.putfield 15, 3) := by decide +kernel
theorem dX1_init_19 : decode cX1_init 19 = .ok (.aload_n 0, 1) := by decide +kernel
theorem dX1_init_20 : decode cX1_init 20 = .ok (.iconst 0, 1) := by decide +kernel
theorem dX1_init_21 : decode cX1_init 21 = .ok (.putfield 19, 3) := by decide +kernel
theorem dX1_init_24 : decode cX1_init 24 = .ok (.aload_n 0, 1) := by decide +kernel
theorem dX1_init_25 : decode cX1_init 25 = .ok (.iconst 0, 1) := by decide +kernel
theorem dX1_init_26 : decode cX1_init 26 = .ok (.putfield 23, 3) := by decide +kernel
theorem dX1_init_29 : decode cX1_init 29 = .ok (.aload_n 0, 1) := by decide +kernel
theorem dX1_init_30 : decode cX1_init 30 = .ok (.iconst 0, 1) := by decide +kernel
theorem dX1_init_31 : decode cX1_init 31 = .ok (.putfield 26, 3) := by decide +kernel
theorem dX1_init_34 : decode cX1_init 34 = .ok (.aload_n 0, 1) := by decide +kernel
theorem dX1_init_35 : decode cX1_init 35 = .ok (.iconst 0, 1) := by decide +kernel
theorem dX1_init_36 : decode cX1_init 36 = .ok (.putfield 29, 3) := by decide +kernel
theorem dX1_init_39 : decode cX1_init 39 = .ok (.aload_n 0, 1) := by decide +kernel
theorem dX1_init_40 : decode cX1_init 40 = .ok (.iconst 0, 1) := by decide +kernel
theorem dX1_init_41 : decode cX1_init 41 = .ok (.putfield 32, 3) := by decide +kernel
theorem dX1_init_44 : decode cX1_init 44 = .ok (.return_, 1) := by decide +kernel
theorem dX2_init_0 : decode cX2_init 0 = .ok (.aload_n 0, 1) := by decide +kernel
theorem dX2_init_1 : decode cX2_init 1 = .ok (.invokespecial 3, 3) := by decide +kernel
theorem dX2_init_4 : decode cX2_init 4 = .ok (.aload_n 0, 1) := by decide +kernel
theorem dX2_init_5 : decode cX2_init 5 = .ok (.bipush 10, 2) := by decide +kernel
theorem dX2_init_7 : decode cX2_init 7 = .ok (.anewarray 9, 3) := by decide +kernel
theorem dX2_init_10 : decode cX2_init 10 = .ok (.putfield 11, 3) := by decide +kernel
theorem dX2_init_13 : decode cX2_init 13 = .ok (.aload_n 0, 1) := by decide +kernel
theorem dX2_init_14 : decode cX2_init 14 = .ok (.iconst 5, 1) := by decide +kernel
theorem dX2_init_15 : decode cX2_init 15 = .ok (.newarray .int, 2) := by decide +kernel
theorem dX2_init_17 : decode cX2_init 17 = .ok (.putfield 17, 3) := by decide +kernel
theorem dX2_init_20 : decode cX2_init 20 = .ok (.aload_n 0, 1) := by decide +kernel
theorem dX2_init_21 : decode cX2_init 21 = .ok (.iconst 5, 1) := by decide +kernel
theorem dX2_init_22 : decode cX2_init 22 = .ok (.newarray .int, 2) := by decide +kernel
theorem dX2_init_24 : decode cX2_init 24 = .ok (.putfield 21, 3) := by decide +kernel
theorem dX2_init_27 : decode cX2_init 27 = .ok (.aload_n 0, 1) := by decide +kernel
theorem dX2_init_28 : decode cX2_init 28 = .ok (.iconst 0, 1) := by decide +kernel
theorem dX2_init_29 : decode cX2_init 29 = .ok (.putfield 24, 3) := by decide +kernel
theorem dX2_init_32 : decode cX2_init 32 = .ok (.aload_n 0, 1) := by decide +kernel
theorem dX2_init_33 : decode cX2_init 33 = .ok (.iconst 0, 1) := by decide +kernel
theorem dX2_init_34 : decode cX2_init 34 = .ok (.putfield 28, 3) := by decide +kernel
theorem dX2_init_37 : decode cX2_init 37 = .ok (.aload_n 0, 1) := by decide +kernel
theorem dX2_init_38 : decode cX2_init 38 = .ok (.iconst 0, 1) := by decide +kernel
theorem dX2_init_39 : decode cX2_init 39 = .ok (.putfield 31, 3) := by decide +kernel
theorem dX2_init_42 : decode cX2_init 42 = .ok (.aload_n 0, 1) := by decide +kernel
theorem dX2_init_43 : decode cX2_init 43 = .ok (.iconst 0, 1) := by decide +kernel
theorem dX2_init_44 : decode cX2_init 44 = .ok (.putfield 34, 3) := by decide +kernel
theorem dX2_init_47 : decode cX2_init 47 = .ok (.aload_n 0, 1) := by decide +kernel
theorem dX2_init_48 : decode cX2_init 48 = .ok (.bipush 56, 2) := by decide +kernel
theorem dX2_init_50 : decode cX2_init 50 = .ok (.putfield 37, 3) := by decide +kernel
theorem dX2_init_53 : decode cX2_init 53 = .ok (.aload_n 0, 1) := by decide +kernel
theorem dX2_init_54 : decode cX2_init 54 = .ok (.bipush 100, 2) := by decide +kernel
theorem dX2_init_56 : decode cX2_init 56 = .ok (.putfield 40, 3) := by decide +kernel
theorem dX2_init_59 : decode cX2_init 59 = .ok (.iconst 0, 1) := by decide +kernel
theorem dX2_init_60 : decode cX2_init 60 = .ok (.istore_n 1, 1) := by decide +kernel
theorem dX2_init_61 : decode cX2_init 61 = .ok (.iload_n 1, 1) := by decide +kernel
theorem dX2_init_62 : decode cX2_init 62 = .ok (.bipush 10, 2) := by decide +kernel
theorem dX2_init_64 : decode cX2_init 64 = .ok (.if_icmp .ge 22, 3) := by decide +kernel
theorem dX2_init_67 : decode cX2_init 67 = .ok (.aload_n 0, 1) := by decide +kernel
theorem dX2_init_68 : decode cX2_init 68 = .ok (.getfield 11, 3) := by decide +kernel
theorem dX2_init_71 : decode cX2_init 71 = .ok (.iload_n 1, 1) := by decide +kernel
theorem dX2_init_72 : decode cX2_init 72 = .ok (.new 9, 3) := by decide +kernel
theorem dX2_init_75 : decode cX2_init 75 = .ok (.dup, 1) := by decide +kernel
theorem dX2_init_76 : decode cX2_init 76 = .ok (.invokespecial 43, 3) := by decide +kernel
theorem dX2_init_79 : decode cX2_init 79 = .ok (.aastore, 1) := by decide +kernel
theorem dX2_init_80 : decode cX2_init 80 = .ok (.iinc 1 1, 3) := by decide +kernel
theorem dX2_init_83 : decode cX2_init 83 = .ok (.goto (-22), 3) := by decide +kernel
theorem dX2_init_86 : decode cX2_init 86 = .ok (.iconst 0, 1) := by decide +kernel
theorem dX2_init_87 : decode cX2_init 87 = .ok (.istore_n 1, 1) := by decide +kernel
theorem dX2_init_88 : decode cX2_init 88 = .ok (.iload_n 1, 1) := by decide +kernel
theorem dX2_init_89 : decode cX2_init 89 = .ok (.iconst 5, 1) := by decide +kernel
theorem dX2_init_90 : decode cX2_init 90 = .ok (.if_icmp .ge 23, 3) := by decide +kernel
theorem dX2_init_93 : decode cX2_init 93 = .ok (.aload_n 0, 1) := by decide +kernel
theorem dX2_init_94 : decode cX2_init 94 = .ok (.getfield 17, 3) := by decide +kernel
theorem dX2_init_97 : decode cX2_init 97 = .ok (.iload_n 1, 1) := by decide +kernel
theorem dX2_init_98 : decode cX2_init 98 = .ok (.iconst (-1), 1) := by decide +kernel
theorem dX2_init_99 : decode cX2_init 99 = .ok (.iastore, 1) := by decide +kernel
theorem dX2_init_100 : decode cX2_init 100 = .ok (.aload_n 0, 1) := by decide +kernel
theorem dX2_init_101 : decode cX2_init 101 = .ok (.getfield 21, 3) := by decide +kernel
theorem dX2_init_104 : decode cX2_init 104 = .ok (.iload_n 1, 1) := by decide +kernel
theorem dX2_init_105 : decode cX2_init 105 = .ok (.iconst (-1), 1) := by decide +kernel
theorem dX2_init_106 : decode cX2_init 106 = .ok (.iastore, 1) := by decide +kernel
theorem dX2_init_107 : decode cX2_init 107 = .ok (.iinc 1 1, 3) := by decide +kernel
theorem dX2_init_110 : decode cX2_init 110 = .ok (.goto (-22), 3) := by decide +kernel
theorem dX2_init_113 : decode cX2_init 113 = .ok (.return_, 1) := by decide +kernel
theorem dX2_copyFrom_0 : decode cX2_copyFrom 0 = .ok (.aload_n 0, 1) := by decide +kernel
theorem dX2_copyFrom_1 : decode cX2_copyFrom 1 = .ok (.aload_n 1, 1) := by decide +kernel
theorem dX2_copyFrom_2 : decode cX2_copyFrom 2 = .ok (.getfield 24, 3) := by decide +kernel
theorem dX2_copyFrom_5 : decode cX2_copyFrom 5 = .ok (.putfield 24, 3) := by decide +kernel
theorem dX2_copyFrom_8 : decode cX2_copyFrom 8 = .ok (.iconst 0, 1) := by decide +kernel
theorem dX2_copyFrom_9 : decode cX2_copyFrom 9 = .ok (.istore_n 2, 1) := by decide +kernel
theorem dX2_copyFrom_10 : decode cX2_copyFrom 10 = .ok (.iload_n 2, 1) := by decide +kernel
theorem dX2_copyFrom_11 : decode cX2_copyFrom 11 = .ok (.aload_n 0, 1) := by decide +kernel
theorem dX2_copyFrom_12 : decode cX2_copyFrom 12 = .ok (.getfield 24, 3) := by decide +kernel
theorem dX2_copyFrom_15 : decode cX2_copyFrom 15 = .ok (.if_icmp .ge 24, 3) := by decide +kernel
theorem dX2_copyFrom_18 : decode cX2_copyFrom 18 = .ok (.aload_n 0, 1) := by decide +kernel
theorem dX2_copyFrom_19 : decode cX2_copyFrom 19 = .ok (.getfield 11, 3) := by decide +kernel
theorem dX2_copyFrom_22 : decode cX2_copyFrom 22 = .ok (.iload_n 2, 1) := by decide +kernel
theorem dX2_copyFrom_23 : decode cX2_copyFrom 23 = .ok (.aaload, 1) := by decide +kernel
theorem dX2_copyFrom_24 : decode cX2_copyFrom 24 = .ok (.aload_n 1, 1) := by decide +kernel
theorem dX2_copyFrom_25 : decode cX2_copyFrom 25 = .ok (.getfield 11, 3) := by decide +kernel
theorem dX2_copyFrom_28 : decode cX2_copyFrom 28 = .ok (.iload_n 2, 1) := by decide +kernel
theorem dX2_copyFrom_29 : decode cX2_copyFrom 29 = .ok (.aaload, 1) := by decide +kernel
theorem dX2_copyFrom_30 : decode cX2_copyFrom 30 = .ok (.invokevirtual 44, 3) := by decide +kernel
theorem dX2_copyFrom_33 : decode cX2_copyFrom 33 = .ok (.iinc 2 1, 3) := by decide +kernel
theorem dX2_copyFrom_36 : decode cX2_copyFrom 36 = .ok (.goto (-26), 3) := by decide +kernel
theorem dX2_copyFrom_39 : decode cX2_copyFrom 39 = .ok (.iconst 0, 1) := by decide +kernel
theorem dX2_copyFrom_40 : decode cX2_copyFrom 40 = .ok (.istore_n 2, 1) := by decide +kernel
theorem dX2_copyFrom_41 : decode cX2_copyFrom 41 = .ok (.iload_n 2, 1) := by decide +kernel
theorem dX2_copyFrom_42 : decode cX2_copyFrom 42 = .ok (.iconst 5, 1) := by decide +kernel
theorem dX2_copyFrom_43 : decode cX2_copyFrom 43 = .ok (.if_icmp .ge 33, 3) := by decide +kernel
theorem dX2_copyFrom_46 : decode cX2_copyFrom 46 = .ok (.aload_n 0, 1) := by decide +kernel
theorem dX2_copyFrom_47 : decode cX2_copyFrom 47 = .ok (.getfield 17, 3) := by decide +kernel
theorem dX2_copyFrom_50 : decode cX2_copyFrom 50 = .ok (.iload_n 2, 1) := by decide +kernel
theorem dX2_copyFrom_51 : decode cX2_copyFrom 51 = .ok (.aload_n 1, 1) := by decide +kernel
theorem dX2_copyFrom_52 : decode cX2_copyFrom 52 = .ok (.getfield 17, 3) := by decide +kernel
theorem dX2_copyFrom_55 : decode cX2_copyFrom 55 = .ok (.iload_n 2, 1) := by decide +kernel
theorem dX2_copyFrom_56 : decode cX2_copyFrom 56 = .ok (.iaload, 1) := by decide +kernel
theorem dX2_copyFrom_57 : decode cX2_copyFrom 57 = .ok (.iastore, 1) := by decide +kernel
theorem dX2_copyFrom_58 : decode cX2_copyFrom 58 = .ok (.aload_n 0, 1) := by decide +kernel
theorem dX2_copyFrom_59 : decode cX2_copyFrom 59 = .ok (.getfield 21, 3) := by decide +kernel
theorem dX2_copyFrom_62 : decode cX2_copyFrom 62 = .ok (.iload_n 2, 1) := by decide +kernel
theorem dX2_copyFrom_63 : decode cX2_copyFrom 63 = .ok (.aload_n 1, 1) := by decide +kernel
theorem dX2_copyFrom_64 : decode cX2_copyFrom 64 = .ok (.getfield 21, 3) := by decide +kernel
theorem dX2_copyFrom_67 : decode cX2_copyFrom 67 = .ok (.iload_n 2, 1) := by decide +kernel
theorem dX2_copyFrom_68 : decode cX2_copyFrom 68 = .ok (.iaload, 1) := by decide +kernel
theorem dX2_copyFrom_69 : decode cX2_copyFrom 69 = .ok (.iastore, 1) := by decide +kernel
theorem dX2_copyFrom_70 : decode cX2_copyFrom 70 = .ok (.iinc 2 1, 3) := by decide +kernel
theorem dX2_copyFrom_73 : decode cX2_copyFrom 73 = .ok (.goto (-32), 3) := by decide +kernel
theorem dX2_copyFrom_76 : decode cX2_copyFrom 76 = .ok (.aload_n 0, 1) := by decide +kernel
theorem dX2_copyFrom_77 : decode cX2_copyFrom 77 = .ok (.aload_n 1, 1) := by decide +kernel
theorem dX2_copyFrom_78 : decode cX2_copyFrom 78 = .ok (.getfield 28, 3) := by decide +kernel
theorem dX2_copyFrom_81 : decode cX2_copyFrom 81 = .ok (.putfield 28, 3) := by decide +kernel
theorem dX2_copyFrom_84 : decode cX2_copyFrom 84 = .ok (.aload_n 0, 1) := by decide +kernel
theorem dX2_copyFrom_85 : decode cX2_copyFrom 85 = .ok (.aload_n 1, 1) := by decide +kernel
theorem dX2_copyFrom_86 : decode cX2_copyFrom 86 = .ok (.getfield 31, 3) := by decide +kernel
theorem dX2_copyFrom_89 : decode cX2_copyFrom 89 = .ok (.putfield 31, 3) := by decide +kernel
theorem dX2_copyFrom_92 : decode cX2_copyFrom 92 = .ok (.aload_n 0, 1) := by decide +kernel
theorem dX2_copyFrom_93 : decode cX2_copyFrom 93 = .ok (.aload_n 1, 1) := by decide +kernel
theorem dX2_copyFrom_94 : decode cX2_copyFrom 94 = .ok (.getfield 34, 3) := by decide +kernel
theorem dX2_copyFrom_97 : decode cX2_copyFrom 97 = .ok (.putfield 34, 3) := by decide +kernel
theorem dX2_copyFrom_100 : decode cX2_copyFrom 100 = .ok (.aload_n 0, 1) := by decide +kernel
theorem dX2_copyFrom_101 : decode cX2_copyFrom 101 = .ok (.aload_n 1, 1) := by decide +kernel
theorem dX2_copyFrom_102 : decode cX2_copyFrom 102 = .ok (.getfield 37, 3) := by decide +kernel
theorem dX2_copyFrom_105 : decode cX2_copyFrom 105 = .ok (.putfield 37, 3) := by decide +kernel
theorem dX2_copyFrom_108 : decode cX2_copyFrom 108 = .ok (.aload_n 0, 1) := by decide +kernel
theorem dX2_copyFrom_109 : decode cX2_copyFrom 109 = .ok (.aload_n 1, 1) := by decide +kernel
theorem dX2_copyFrom_110 : decode cX2_copyFrom 110 = .ok (.getfield 40, 3) := by decide +kernel
theorem dX2_copyFrom_113 : decode cX2_copyFrom 113 = .ok (.putfield 40, 3) := by decide +kernel
theorem dX2_copyFrom_116 : decode cX2_copyFrom 116 = .ok (.return_, 1) := by decide +kernel
theorem dX2_hasCondition_0 : decode cX2_hasCondition 0 = .ok (.iload_n 1, 1) := by decide +kernel
theorem dX2_hasCondition_1 : decode cX2_hasCondition 1 = .ok (.ifCond .lt 15, 3) := by decide +kernel
theorem dX2_hasCondition_4 : decode cX2_hasCondition 4 = .ok (.iload_n 1, 1) := by decide +kernel
theorem dX2_hasCondition_5 : decode cX2_hasCondition 5 = .ok (.aload_n 0, 1) := by decide +kernel
theorem dX2_hasCondition_6 : decode cX2_hasCondition 6 = .ok (.getfield 24, 3) := by decide +kernel
theorem dX2_hasCondition_9 : decode cX2_hasCondition 9 = .ok (.if_icmp .ge 7, 3) := by decide +kernel
theorem dX2_hasCondition_12 : decode cX2_hasCondition 12 = .ok (.iconst 1, 1) := by decide +kernel
theorem dX2_hasCondition_13 : decode cX2_hasCondition 13 = .ok (.goto 4, 3) := by decide +kernel
theorem dX2_hasCondition_16 : decode cX2_hasCondition 16 = .ok (.iconst 0, 1) := by decide +kernel
theorem dX2_hasCondition_17 : decode cX2_hasCondition 17 = .ok (.ireturn, 1) := by decide +kernel
theorem dX2_isBegun_0 : decode cX2_isBegun 0 = .ok (.iload_n 1, 1) := by decide +kernel
theorem dX2_isBegun_1 : decode cX2_isBegun 1 = .ok (.iconst 0, 1) := by decide +kernel
theorem dX2_isBegun_2 : decode cX2_isBegun 2 = .ok (.iconst 4, 1) := by decide +kernel
theorem dX2_isBegun_3 : decode cX2_isBegun 3 = .ok (.invokestatic 48, 3) := by decide +kernel
theorem dX2_isBegun_6 : decode cX2_isBegun 6 = .ok (.ifCond .eq 17, 3) := by decide +kernel
theorem dX2_isBegun_9 : decode cX2_isBegun 9 = .ok (.aload_n 0, 1) := by decide +kernel
theorem dX2_isBegun_10 : decode cX2_isBegun 10 = .ok (.getfield 17, 3) := by decide +kernel
theorem dX2_isBegun_13 : decode cX2_isBegun 13 = .ok (.iload_n 1, 1) := by decide +kernel
theorem dX2_isBegun_14 : decode cX2_isBegun 14 = .ok (.iaload, 1) := by decide +kernel
theorem dX2_isBegun_15 : decode cX2_isBegun 15 = .ok (.iconst (-1), 1) := by decide +kernel
theorem dX2_isBegun_16 : decode cX2_isBegun 16 = .ok (.if_icmp .eq 7, 3) := by decide +kernel
theorem dX2_isBegun_19 : decode cX2_isBegun 19 = .ok (.iconst 1, 1) := by decide +kernel
theorem dX2_isBegun_20 : decode cX2_isBegun 20 = .ok (.goto 4, 3) := by decide +kernel
theorem dX2_isBegun_23 : decode cX2_isBegun 23 = .ok (.iconst 0, 1) := by decide +kernel
theorem dX2_isBegun_24 : decode cX2_isBegun 24 = .ok (.ireturn, 1) := by decide +kernel
theorem dX2_isFinished_0 : decode cX2_isFinished 0 = .ok (.iload_n 1, 1) := by decide +kernel
theorem dX2_isFinished_1 : decode cX2_isFinished 1 = .ok (.iconst 0, 1) := by decide +kernel
theorem dX2_isFinished_2 : decode cX2_isFinished 2 = .ok (.iconst 4, 1) := by decide +kernel
theorem dX2_isFinished_3 : decode cX2_isFinished 3 = .ok (.invokestatic 48, 3) := by decide +kernel
theorem dX2_isFinished_6 : decode cX2_isFinished 6 = .ok (.ifCond .eq 17, 3) := by decide +kernel
theorem dX2_isFinished_9 : decode cX2_isFinished 9 = .ok (.aload_n 0, 1) := by decide +kernel
theorem dX2_isFinished_10 : decode cX2_isFinished 10 = .ok (.getfield 21, 3) := by decide +kernel
theorem dX2_isFinished_13 : decode cX2_isFinished 13 = .ok (.iload_n 1, 1) := by decide +kernel
theorem dX2_isFinished_14 : decode cX2_isFinished 14 = .ok (.iaload, 1) := by decide +kernel
theorem dX2_isFinished_15 : decode cX2_isFinished 15 = .ok (.iconst (-1), 1) := by decide +kernel
theorem dX2_isFinished_16 : decode cX2_isFinished 16 = .ok (.if_icmp .eq 7, 3) := by decide +kernel
theorem dX2_isFinished_19 : decode cX2_isFinished 19 = .ok (.iconst 1, 1) := by decide +kernel
theorem dX2_isFinished_20 : decode cX2_isFinished 20 = .ok (.goto 4, 3) := by decide +kernel
theorem dX2_isFinished_23 : decode cX2_isFinished 23 = .ok (.iconst 0, 1) := by decide +kernel
theorem dX2_isFinished_24 : decode cX2_isFinished 24 = .ok (.ireturn, 1) := by decide +kernel
theorem dX2_canBegin_0 : decode cX2_canBegin 0 = .ok (.aload_n 0, 1) := by decide +kernel
theorem dX2_canBegin_1 : decode cX2_canBegin 1 = .ok (.iload_n 1, 1) := by decide +kernel
theorem dX2_canBegin_2 : decode cX2_canBegin 2 = .ok (.invokevirtual 52, 3) := by decide +kernel
theorem dX2_canBegin_5 : decode cX2_canBegin 5 = .ok (.ifCond .ne 21, 3) := by decide +kernel
theorem dX2_canBegin_8 : decode cX2_canBegin 8 = .ok (.iload_n 1, 1) := by decide +kernel
theorem dX2_canBegin_9 : decode cX2_canBegin 9 = .ok (.ifCond .eq 13, 3) := by decide +kernel
theorem dX2_canBegin_12 : decode cX2_canBegin 12 = .ok (.aload_n 0, 1) := by decide +kernel
theorem dX2_canBegin_13 : decode cX2_canBegin 13 = .ok (.iload_n 1, 1) := by decide +kernel
theorem dX2_canBegin_14 : decode cX2_canBegin 14 = .ok (.iconst 1, 1) := by decide +kernel
theorem dX2_canBegin_15 : decode cX2_canBegin 15 = .ok (.isub, 1) := by decide +kernel
theorem dX2_canBegin_16 : decode cX2_canBegin 16 = .ok (.invokevirtual 52, 3) := by decide +kernel
theorem dX2_canBegin_19 : decode cX2_canBegin 19 = .ok (.ifCond .eq 7, 3) := by decide +kernel
theorem dX2_canBegin_22 : decode cX2_canBegin 22 = .ok (.iconst 1, 1) := by decide +kernel
theorem dX2_canBegin_23 : decode cX2_canBegin 23 = .ok (.goto 4, 3) := by decide +kernel
theorem dX2_canBegin_26 : decode cX2_canBegin 26 = .ok (.iconst 0, 1) := by decide +kernel
theorem dX2_canBegin_27 : decode cX2_canBegin 27 = .ok (.ireturn, 1) := by decide +kernel
theorem dX2_progressOf_0 : decode cX2_progressOf 0 = .ok (.aload_n 0, 1) := by decide +kernel
theorem dX2_progressOf_1 : decode cX2_progressOf 1 = .ok (.iload_n 1, 1) := by decide +kernel
theorem dX2_progressOf_2 : decode cX2_progressOf 2 = .ok (.invokevirtual 56, 3) := by decide +kernel
theorem dX2_progressOf_5 : decode cX2_progressOf 5 = .ok (.ifCond .eq 5, 3) := by decide +kernel
theorem dX2_progressOf_8 : decode cX2_progressOf 8 = .ok (.iconst 2, 1) := by decide +kernel
theorem dX2_progressOf_9 : decode cX2_progressOf 9 = .ok (.ireturn, 1) := by decide +kernel
theorem dX2_progressOf_10 : decode cX2_progressOf 10 = .ok (.aload_n 0, 1) := by decide +kernel
theorem dX2_progressOf_11 : decode cX2_progressOf 11 = .ok (.iload_n 1, 1) := by decide +kernel
theorem dX2_progressOf_12 : decode cX2_progressOf 12 = .ok (.invokevirtual 52, 3) := by decide +kernel
theorem dX2_progressOf_15 : decode cX2_progressOf 15 = .ok (.ifCond .eq 7, 3) := by decide +kernel
theorem dX2_progressOf_18 : decode cX2_progressOf 18 = .ok (.iconst 1, 1) := by decide +kernel
theorem dX2_progressOf_19 : decode cX2_progressOf 19 = .ok (.goto 4, 3) := by decide +kernel
theorem dX2_progressOf_22 : decode cX2_progressOf 22 = .ok (.iconst 0, 1) := by decide +kernel
theorem dX2_progressOf_23 : decode cX2_progressOf 23 = .ok (.ireturn, 1) := by decide +kernel
theorem dX2_stateOf_0 : decode cX2_stateOf 0 = .ok (.aload_n 1, 1) := by decide +kernel
theorem dX2_stateOf_1 : decode cX2_stateOf 1 = .ok (.getfield 59, 3) := by decide +kernel
theorem dX2_stateOf_4 : decode cX2_stateOf 4 = .ok (.ifCond .eq 5, 3) := by decide +kernel
theorem dX2_stateOf_7 : decode cX2_stateOf 7 = .ok (.iconst 4, 1) := by decide +kernel
theorem dX2_stateOf_8 : decode cX2_stateOf 8 = .ok (.ireturn, 1) := by decide +kernel
theorem dX2_stateOf_9 : decode cX2_stateOf 9 = .ok (.aload_n 1, 1) := by decide +kernel
theorem dX2_stateOf_10 : decode cX2_stateOf 10 = .ok (.getfield 63, 3) := by decide +kernel
theorem dX2_stateOf_13 : decode cX2_stateOf 13 = .ok (.ifCond .eq 5, 3) := by decide +kernel
theorem dX2_stateOf_16 : decode cX2_stateOf 16 = .ok (.iconst 3, 1) := by decide +kernel
theorem dX2_stateOf_17 : decode cX2_stateOf 17 = .ok (.ireturn, 1) := by decide +kernel
theorem dX2_stateOf_18 : decode cX2_stateOf 18 = .ok (.aload_n 1, 1) := by decide +kernel
theorem dX2_stateOf_19 : decode cX2_stateOf 19 = .ok (.invokevirtual 66, 3) := by decide +kernel
theorem dX2_stateOf_22 : decode cX2_stateOf 22 = .ok (.ifCond .eq 5, 3) := by decide +kernel
theorem dX2_stateOf_25 : decode cX2_stateOf 25 = .ok (.iconst 2, 1) := by decide +kernel
theorem dX2_stateOf_26 : decode cX2_stateOf 26 = .ok (.ireturn, 1) := by decide +kernel
theorem dX2_stateOf_27 : decode cX2_stateOf 27 = .ok (.aload_n 1, 1) := by decide +kernel
theorem dX2_stateOf_28 : decode cX2_stateOf 28 = .ok (.getfield 70, 3) := by decide +kernel
theorem dX2_stateOf_31 : decode cX2_stateOf 31 = .ok (.iconst 1, 1) := by decide +kernel
theorem dX2_stateOf_32 : decode cX2_stateOf 32 = .ok (.if_icmp .ne 16, 3) := by decide +kernel
theorem dX2_stateOf_35 : decode cX2_stateOf 35 = .ok (.aload_n 0, 1) := by decide +kernel
theorem dX2_stateOf_36 : decode cX2_stateOf 36 = .ok (.aload_n 1, 1) := by decide +kernel
theorem dX2_stateOf_37 : decode cX2_stateOf 37 = .ok (.getfield 73, 3) := by decide +kernel
theorem dX2_stateOf_40 : decode cX2_stateOf 40 = .ok (.invokevirtual 52, 3) := by decide +kernel
theorem dX2_stateOf_43 : decode cX2_stateOf 43 = .ok (.ifCond .ne 5, 3) := by decide +kernel
theorem dX2_stateOf_46 : decode cX2_stateOf 46 = .ok (.iconst 0, 1) := by decide +kernel
theorem dX2_stateOf_47 : decode cX2_stateOf 47 = .ok (.ireturn, 1) := by decide +kernel
theorem dX2_stateOf_48 : decode cX2_stateOf 48 = .ok (.aload_n 1, 1) := by decide +kernel
theorem dX2_stateOf_49 : decode cX2_stateOf 49 = .ok (.getfield 70, 3) := by decide +kernel
theorem dX2_stateOf_52 : decode cX2_stateOf 52 = .ok (.iconst 2, 1) := by decide +kernel
theorem dX2_stateOf_53 : decode cX2_stateOf 53 = .ok (.if_icmp .ne 16, 3) := by decide +kernel
theorem dX2_stateOf_56 : decode cX2_stateOf 56 = .ok (.aload_n 0, 1) := by decide +kernel
theorem dX2_stateOf_57 : decode cX2_stateOf 57 = .ok (.aload_n 1, 1) := by decide +kernel
theorem dX2_stateOf_58 : decode cX2_stateOf 58 = .ok (.getfield 73, 3) := by decide +kernel
theorem dX2_stateOf_61 : decode cX2_stateOf 61 = .ok (.invokevirtual 56, 3) := by decide +kernel
theorem dX2_stateOf_64 : decode cX2_stateOf 64 = .ok (.ifCond .ne 5, 3) := by decide +kernel
theorem dX2_stateOf_67 : decode cX2_stateOf 67 = .ok (.iconst 0, 1) := by decide +kernel
theorem dX2_stateOf_68 : decode cX2_stateOf 68 = .ok (.ireturn, 1) := by decide +kernel
theorem dX2_stateOf_69 : decode cX2_stateOf 69 = .ok (.iconst 1, 1) := by decide +kernel
theorem dX2_stateOf_70 : decode cX2_stateOf 70 = .ok (.ireturn, 1) := by decide +kernel
theorem dX2_withState_0 : decode cX2_withState 0 = .ok (.iconst 0, 1) := by decide +kernel
theorem dX2_withState_1 : decode cX2_withState 1 = .ok (.istore_n 2, 1) := by decide +kernel
theorem dX2_withState_2 : decode cX2_withState 2 = .ok (.iconst 0, 1) := by decide +kernel
theorem dX2_withState_3 : decode cX2_withState 3 = .ok (.istore_n 3, 1) := by decide +kernel
theorem dX2_withState_4 : decode cX2_withState 4 = .ok (.iload_n 3, 1) := by decide +kernel
theorem dX2_withState_5 : decode cX2_withState 5 = .ok (.aload_n 0, 1) := by decide +kernel
theorem dX2_withState_6 : decode cX2_withState 6 = .ok (.getfield 24, 3) := by decide +kernel
theorem dX2_withState_9 : decode cX2_withState 9 = .ok (.if_icmp .ge 29, 3) := by decide +kernel
theorem dX2_withState_12 : decode cX2_withState 12 = .ok (.aload_n 0, 1) := by decide +kernel
theorem dX2_withState_13 : decode cX2_withState 13 = .ok (.aload_n 0, 1) := by decide +kernel
theorem dX2_withState_14 : decode cX2_withState 14 = .ok (.getfield 11, 3) := by decide +kernel
theorem dX2_withState_17 : decode cX2_withState 17 = .ok (.iload_n 3, 1) := by decide +kernel
theorem dX2_withState_18 : decode cX2_withState 18 = .ok (.aaload, 1) := by decide +kernel
theorem dX2_withState_19 : decode cX2_withState 19 = .ok (.invokevirtual 76, 3) := by decide +kernel
theorem dX2_withState_22 : decode cX2_withState 22 = .ok (.iload_n 1, 1) := by decide +kernel
theorem dX2_withState_23 : decode cX2_withState 23 = .ok (.if_icmp .ne 9, 3) := by decide +kernel
theorem dX2_withState_26 : decode cX2_withState 26 = .ok (.iload_n 2, 1) := by decide +kernel
theorem dX2_withState_27 : decode cX2_withState 27 = .ok (.iconst 1, 1) := by decide +kernel
theorem dX2_withState_28 : decode cX2_withState 28 = .ok (.iload_n 3, 1) := by decide +kernel
theorem dX2_withState_29 : decode cX2_withState 29 = .ok (.ishl, 1) := by decide +kernel
theorem dX2_withState_30 : decode cX2_withState 30 = .ok (.ior, 1) := by decide +kernel
theorem dX2_withState_31 : decode cX2_withState 31 = .ok (.istore_n 2, 1) := by decide +kernel
theorem dX2_withState_32 : decode cX2_withState 32 = .ok (.iinc 3 1, 3) := by decide +kernel
theorem dX2_withState_35 : decode cX2_withState 35 = .ok (.goto (-31), 3) := by decide +kernel
theorem dX2_withState_38 : decode cX2_withState 38 = .ok (.iload_n 2, 1) := by decide +kernel
theorem dX2_withState_39 : decode cX2_withState 39 = .ok (.ireturn, 1) := by decide +kernel
theorem dX2_unmetAhead_0 : decode cX2_unmetAhead 0 = .ok (.iconst 0, 1) := by decide +kernel
theorem dX2_unmetAhead_1 : decode cX2_unmetAhead 1 = .ok (.istore_n 2, 1) := by decide +kernel
theorem dX2_unmetAhead_2 : decode cX2_unmetAhead 2 = .ok (.iconst 0, 1) := by decide +kernel
theorem dX2_unmetAhead_3 : decode cX2_unmetAhead 3 = .ok (.istore_n 3, 1) := by decide +kernel
theorem dX2_unmetAhead_4 : decode cX2_unmetAhead 4 = .ok (.iload_n 3, 1) := by decide +kernel
theorem dX2_unmetAhead_5 : decode cX2_unmetAhead 5 = .ok (.aload_n 0, 1) := by decide +kernel
theorem dX2_unmetAhead_6 : decode cX2_unmetAhead 6 = .ok (.getfield 24, 3) := by decide +kernel
theorem dX2_unmetAhead_9 : decode cX2_unmetAhead 9 = .ok (.if_icmp .ge 48, 3) := by decide +kernel
theorem dX2_unmetAhead_12 : decode cX2_unmetAhead 12 = .ok (.aload_n 0, 1) := by decide +kernel
theorem dX2_unmetAhead_13 : decode cX2_unmetAhead 13 = .ok (.getfield 11, 3) := by decide +kernel
theorem dX2_unmetAhead_16 : decode cX2_unmetAhead 16 = .ok (.iload_n 3, 1) := by decide +kernel
theorem dX2_unmetAhead_17 : decode cX2_unmetAhead 17 = .ok (.aaload, 1) := by decide +kernel
theorem dX2_unmetAhead_18 : decode cX2_unmetAhead 18 = .ok (.astore 4, 2) := by decide +kernel
theorem dX2_unmetAhead_20 : decode cX2_unmetAhead 20 = .ok (.aload 4, 2) := by decide +kernel
theorem dX2_unmetAhead_22 : decode cX2_unmetAhead 22 = .ok (.getfield 70, 3) := by decide +kernel
theorem dX2_unmetAhead_25 : decode cX2_unmetAhead 25 = .ok (.ifCond .ne 26, 3) := by decide +kernel
theorem dX2_unmetAhead_28 : decode cX2_unmetAhead 28 = .ok (.aload 4, 2) := by decide +kernel
theorem dX2_unmetAhead_30 : decode cX2_unmetAhead 30 = .ok (.getfield 73, 3) := by decide +kernel
theorem dX2_unmetAhead_33 : decode cX2_unmetAhead 33 = .ok (.iload_n 1, 1) := by decide +kernel
