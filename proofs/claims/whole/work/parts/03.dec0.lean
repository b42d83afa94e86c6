-- decode rows out of the printed list of the task
theorem dX0_init_0 : decode cX0_init 0 = .ok (.aload_n 0, 1) := by decide +kernel
theorem dX0_init_1 : decode cX0_init 1 = .ok (.invokespecial 3, 3) := by decide +kernel
theorem dX0_init_4 : decode cX0_init 4 = .ok (.aload_n 0, 1) := by decide +kernel
theorem dX0_init_5 : decode cX0_init 5 = .ok (.iconst 0, 1) := by decide +kernel
theorem dX0_init_6 : decode cX0_init 6 = .ok (.putfield 9, 3) := by decide +kernel
theorem dX0_init_9 : decode cX0_init 9 = .ok (.aload_n 0, 1) := by decide +kernel
theorem dX0_init_10 : decode cX0_init 10 = .ok (.iconst 0, 1) := by decide +kernel
theorem dX0_init_11 : decode cX0_init 11 = .ok (.putfield 15, 3) := by decide +kernel
theorem dX0_init_14 : decode cX0_init 14 = .ok (.aload_n 0, 1) := by decide +kernel
theorem dX0_init_15 : decode cX0_init 15 = .ok (.iconst 0, 1) := by decide +kernel
theorem dX0_init_16 : decode cX0_init 16 = .ok (.putfield 18, 3) := by decide +kernel
theorem dX0_init_19 : decode cX0_init 19 = .ok (.aload_n 0, 1) := by decide +kernel
theorem dX0_init_20 : decode cX0_init 20 = .ok (.iconst 1, 1) := by decide +kernel
theorem dX0_init_21 : decode cX0_init 21 = .ok (.putfield 21, 3) := by decide +kernel
theorem dX0_init_24 : decode cX0_init 24 = .ok (.aload_n 0, 1) := by decide +kernel
theorem dX0_init_25 : decode cX0_init 25 = .ok (.iconst 0, 1) := by decide +kernel
theorem dX0_init_26 : decode cX0_init 26 = .ok (.putfield 24, 3) := by decide +kernel
theorem dX0_init_29 : decode cX0_init 29 = .ok (.aload_n 0, 1) := by decide +kernel
theorem dX0_init_30 : decode cX0_init 30 = .ok (.iconst 0, 1) := by decide +kernel
theorem dX0_init_31 : decode cX0_init 31 = .ok (.putfield 27, 3) := by decide +kernel
theorem dX0_init_34 : decode cX0_init 34 = .ok (.aload_n 0, 1) := by decide +kernel
theorem dX0_init_35 : decode cX0_init 35 = .ok (.iconst 0, 1) := by decide +kernel
theorem dX0_init_36 : decode cX0_init 36 = .ok (.putfield 30, 3) := by decide +kernel
theorem dX0_init_39 : decode cX0_init 39 = .ok (.aload_n 0, 1) := by decide +kernel
theorem dX0_init_40 : decode cX0_init 40 = .ok (.iconst 0, 1) := by decide +kernel
theorem dX0_init_41 : decode cX0_init 41 = .ok (.putfield 33, 3) := by decide +kernel
theorem dX0_init_44 : decode cX0_init 44 = .ok (.aload_n 0, 1) := by decide +kernel
theorem dX0_init_45 : decode cX0_init 45 = .ok (.iconst 0, 1) := by decide +kernel
theorem dX0_init_46 : decode cX0_init 46 = .ok (.putfield 36, 3) := by decide +kernel
theorem dX0_init_49 : decode cX0_init 49 = .ok (.aload_n 0, 1) := by decide +kernel
theorem dX0_init_50 : decode cX0_init 50 = .ok (.iconst 0, 1) := by decide +kernel
theorem dX0_init_51 : decode cX0_init 51 = .ok (.putfield 40, 3) := by decide +kernel
theorem dX0_init_54 : decode cX0_init 54 = .ok (.aload_n 0, 1) := by decide +kernel
theorem dX0_init_55 : decode cX0_init 55 = .ok (.iconst 0, 1) := by decide +kernel
theorem dX0_init_56 : decode cX0_init 56 = .ok (.putfield 43, 3) := by decide +kernel
theorem dX0_init_59 : decode cX0_init 59 = .ok (.aload_n 0, 1) := by decide +kernel
theorem dX0_init_60 : decode cX0_init 60 = .ok (.iconst 0, 1) := by decide +kernel
theorem dX0_init_61 : decode cX0_init 61 = .ok (.putfield 46, 3) := by decide +kernel
theorem dX0_init_64 : decode cX0_init 64 = .ok (.aload_n 0, 1) := by decide +kernel
theorem dX0_init_65 : decode cX0_init 65 = .ok (.iconst 0, 1) := by decide +kernel
theorem dX0_init_66 : decode cX0_init 66 = .ok (.putfield 49, 3) := by decide +kernel
theorem dX0_init_69 : decode cX0_init 69 = .ok (.aload_n 0, 1) := by decide +kernel
theorem dX0_init_70 : decode cX0_init 70 = .ok (.iconst 0, 1) := by decide +kernel
theorem dX0_init_71 : decode cX0_init 71 = .ok (.putfield 52, 3) := by decide +kernel
theorem dX0_init_74 : decode cX0_init 74 = .ok (.return_, 1) := by decide +kernel
theorem dX0_startAs_0 : decode cX0_startAs 0 = .ok (.aload_n 0, 1) := by decide +kernel
theorem dX0_startAs_1 : decode cX0_startAs 1 = .ok (.iload_n 1, 1) := by decide +kernel
theorem dX0_startAs_2 : decode cX0_startAs 2 = .ok (.putfield 9, 3) := by decide +kernel
theorem dX0_startAs_5 : decode cX0_startAs 5 = .ok (.aload_n 0, 1) := by decide +kernel
theorem dX0_startAs_6 : decode cX0_startAs 6 = .ok (.iload_n 2, 1) := by decide +kernel
theorem dX0_startAs_7 : decode cX0_startAs 7 = .ok (.putfield 15, 3) := by decide +kernel
theorem dX0_startAs_10 : decode cX0_startAs 10 = .ok (.aload_n 0, 1) := by decide +kernel
theorem dX0_startAs_11 : decode cX0_startAs 11 = .ok (.iload_n 3, 1) := by decide +kernel
theorem dX0_startAs_12 : decode cX0_startAs 12 = .ok (.putfield 18, 3) := by decide +kernel
theorem dX0_startAs_15 : decode cX0_startAs 15 = .ok (.aload_n 0, 1) := by decide +kernel
theorem dX0_startAs_16 : decode cX0_startAs 16 = .ok (.iload 4, 2) := by decide +kernel
theorem dX0_startAs_18 : decode cX0_startAs 18 = .ok (.putfield 21, 3) := by decide +kernel
theorem dX0_startAs_21 : decode cX0_startAs 21 = .ok (.aload_n 0, 1) := by decide +kernel
theorem dX0_startAs_22 : decode cX0_startAs 22 = .ok (.iconst 0, 1) := by decide +kernel
theorem dX0_startAs_23 : decode cX0_startAs 23 = .ok (.putfield 24, 3) := by decide +kernel
theorem dX0_startAs_26 : decode cX0_startAs 26 = .ok (.aload_n 0, 1) := by decide +kernel
theorem dX0_startAs_27 : decode cX0_startAs 27 = .ok (.iconst 0, 1) := by decide +kernel
theorem dX0_startAs_28 : decode cX0_startAs 28 = .ok (.putfield 27, 3) := by decide +kernel
theorem dX0_startAs_31 : decode cX0_startAs 31 = .ok (.aload_n 0, 1) := by decide +kernel
theorem dX0_startAs_32 : decode cX0_startAs 32 = .ok (.iconst 0, 1) := by decide +kernel
theorem dX0_startAs_33 : decode cX0_startAs 33 = .ok (.putfield 33, 3) := by decide +kernel
theorem dX0_startAs_36 : decode cX0_startAs 36 = .ok (.aload_n 0, 1) := by decide +kernel
theorem dX0_startAs_37 : decode cX0_startAs 37 = .ok (.iconst 0, 1) := by decide +kernel
theorem dX0_startAs_38 : decode cX0_startAs 38 = .ok (.putfield 40, 3) := by decide +kernel
theorem dX0_startAs_41 : decode cX0_startAs 41 = .ok (.aload_n 0, 1) := by decide +kernel
theorem dX0_startAs_42 : decode cX0_startAs 42 = .ok (.iconst 0, 1) := by decide +kernel
theorem dX0_startAs_43 : decode cX0_startAs 43 = .ok (.putfield 52, 3) := by decide +kernel
theorem dX0_startAs_46 : decode cX0_startAs 46 = .ok (.aload_n 0, 1) := by decide +kernel
theorem dX0_startAs_47 : decode cX0_startAs 47 = .ok (.invokevirtual 55, 3) := by decide +kernel
theorem dX0_startAs_50 : decode cX0_startAs 50 = .ok (.return_, 1) := by decide +kernel
theorem dX0_copyFrom_0 : decode cX0_copyFrom 0 = .ok (.aload_n 0, 1) := by decide +kernel
theorem dX0_copyFrom_1 : decode cX0_copyFrom 1 = .ok (.aload_n 1, 1) := by decide +kernel
theorem dX0_copyFrom_2 : decode cX0_copyFrom 2 = .ok (.getfield 9, 3) := by decide +kernel
theorem dX0_copyFrom_5 : decode cX0_copyFrom 5 = .ok (.putfield 9, 3) := by decide +kernel
theorem dX0_copyFrom_8 : decode cX0_copyFrom 8 = .ok (.aload_n 0, 1) := by decide +kernel
theorem dX0_copyFrom_9 : decode cX0_copyFrom 9 = .ok (.aload_n 1, 1) := by decide +kernel
theorem dX0_copyFrom_10 : decode cX0_copyFrom 10 = .ok (.getfield 15, 3) := by decide +kernel
theorem dX0_copyFrom_13 : decode cX0_copyFrom 13 = .ok (.putfield 15, 3) := by decide +kernel
theorem dX0_copyFrom_16 : decode cX0_copyFrom 16 = .ok (.aload_n 0, 1) := by decide +kernel
theorem dX0_copyFrom_17 : decode cX0_copyFrom 17 = .ok (.aload_n 1, 1) := by decide +kernel
theorem dX0_copyFrom_18 : decode cX0_copyFrom 18 = .ok (.getfield 18, 3) := by decide +kernel
theorem dX0_copyFrom_21 : decode cX0_copyFrom 21 = .ok (.putfield 18, 3) := by decide +kernel
theorem dX0_copyFrom_24 : decode cX0_copyFrom 24 = .ok (.aload_n 0, 1) := by decide +kernel
theorem dX0_copyFrom_25 : decode cX0_copyFrom 25 = .ok (.aload_n 1, 1) := by decide +kernel
theorem dX0_copyFrom_26 : decode cX0_copyFrom 26 = .ok (.getfield 21, 3) := by decide +kernel
theorem dX0_copyFrom_29 : decode cX0_copyFrom 29 = .ok (.putfield 21, 3) := by decide +kernel
theorem dX0_copyFrom_32 : decode cX0_copyFrom 32 = .ok (.aload_n 0, 1) := by decide +kernel
theorem dX0_copyFrom_33 : decode cX0_copyFrom 33 = .ok (.aload_n 1, 1) := by decide +kernel
theorem dX0_copyFrom_34 : decode cX0_copyFrom 34 = .ok (.getfield 24, 3) := by decide +kernel
theorem dX0_copyFrom_37 : decode cX0_copyFrom 37 = .ok (.putfield 24, 3) := by decide +kernel
theorem dX0_copyFrom_40 : decode cX0_copyFrom 40 = .ok (.aload_n 0, 1) := by decide +kernel
theorem dX0_copyFrom_41 : decode cX0_copyFrom 41 = .ok (.aload_n 1, 1) := by decide +kernel
theorem dX0_copyFrom_42 : decode cX0_copyFrom 42 = .ok (.getfield 27, 3) := by decide +kernel
theorem dX0_copyFrom_45 : decode cX0_copyFrom 45 = .ok (.putfield 27, 3) := by decide +kernel
theorem dX0_copyFrom_48 : decode cX0_copyFrom 48 = .ok (.aload_n 0, 1) := by decide +kernel
theorem dX0_copyFrom_49 : decode cX0_copyFrom 49 = .ok (.aload_n 1, 1) := by decide +kernel
theorem dX0_copyFrom_50 : decode cX0_copyFrom 50 = .ok (.getfield 30, 3) := by decide +kernel
theorem dX0_copyFrom_53 : decode cX0_copyFrom 53 = .ok (.putfield 30, 3) := by decide +kernel
theorem dX0_copyFrom_56 : decode cX0_copyFrom 56 = .ok (.aload_n 0, 1) := by decide +kernel
theorem dX0_copyFrom_57 : decode cX0_copyFrom 57 = .ok (.aload_n 1, 1) := by decide +kernel
theorem dX0_copyFrom_58 : decode cX0_copyFrom 58 = .ok (.getfield 33, 3) := by decide +kernel
theorem dX0_copyFrom_61 : decode cX0_copyFrom 61 = .ok (.putfield 33, 3) := by decide +kernel
theorem dX0_copyFrom_64 : decode cX0_copyFrom 64 = .ok (.aload_n 0, 1) := by decide +kernel
theorem dX0_copyFrom_65 : decode cX0_copyFrom 65 = .ok (.aload_n 1, 1) := by decide +kernel
theorem dX0_copyFrom_66 : decode cX0_copyFrom 66 = .ok (.getfield 36, 3) := by decide +kernel
theorem dX0_copyFrom_69 : decode cX0_copyFrom 69 = .ok (.putfield 36, 3) := by decide +kernel
theorem dX0_copyFrom_72 : decode cX0_copyFrom 72 = .ok (.aload_n 0, 1) := by decide +kernel
theorem dX0_copyFrom_73 : decode cX0_copyFrom 73 = .ok (.aload_n 1, 1) := by decide +kernel
theorem dX0_copyFrom_74 : decode cX0_copyFrom 74 = .ok (.getfield 40, 3) := by decide +kernel
theorem dX0_copyFrom_77 : decode cX0_copyFrom 77 = .ok (.putfield 40, 3) := by decide +kernel
theorem dX0_copyFrom_80 : decode cX0_copyFrom 80 = .ok (.aload_n 0, 1) := by decide +kernel
theorem dX0_copyFrom_81 : decode cX0_copyFrom 81 = .ok (.aload_n 1, 1) := by decide +kernel
theorem dX0_copyFrom_82 : decode cX0_copyFrom 82 = .ok (.getfield 43, 3) := by decide +kernel
theorem dX0_copyFrom_85 : decode cX0_copyFrom 85 = .ok (.putfield 43, 3) := by decide +kernel
theorem dX0_copyFrom_88 : decode cX0_copyFrom 88 = .ok (.aload_n 0, 1) := by decide +kernel
theorem dX0_copyFrom_89 : decode cX0_copyFrom 89 = .ok (.aload_n 1, 1) := by decide +kernel
theorem dX0_copyFrom_90 : decode cX0_copyFrom 90 = .ok (.getfield 46, 3) := by decide +kernel
theorem dX0_copyFrom_93 : decode cX0_copyFrom 93 = .ok (.putfield 46, 3) := by decide +kernel
theorem dX0_copyFrom_96 : decode cX0_copyFrom 96 = .ok (.aload_n 0, 1) := by decide +kernel
theorem dX0_copyFrom_97 : decode cX0_copyFrom 97 = .ok (.aload_n 1, 1) := by decide +kernel
theorem dX0_copyFrom_98 : decode cX0_copyFrom 98 = .ok (.getfield 49, 3) := by decide +kernel
theorem dX0_copyFrom_101 : decode cX0_copyFrom 101 = .ok (.putfield 49, 3) := by decide +kernel
theorem dX0_copyFrom_104 : decode cX0_copyFrom 104 = .ok (.aload_n 0, 1) := by decide +kernel
theorem dX0_copyFrom_105 : decode cX0_copyFrom 105 = .ok (.aload_n 1, 1) := by decide +kernel
theorem dX0_copyFrom_106 : decode cX0_copyFrom 106 = .ok (.getfield 52, 3) := by decide +kernel
theorem dX0_copyFrom_109 : decode cX0_copyFrom 109 = .ok (.putfield 52, 3) := by decide +kernel
theorem dX0_copyFrom_112 : decode cX0_copyFrom 112 = .ok (.return_, 1) := by decide +kernel
theorem dX0_isMet_0 : decode cX0_isMet 0 = .ok (.aload_n 0, 1) := by decide +kernel
theorem dX0_isMet_1 : decode cX0_isMet 1 = .ok (.getfield 9, 3) := by decide +kernel
theorem dX0_isMet_4 : decode cX0_isMet 4 = .ok (.iconst 2, 1) := by decide +kernel
theorem dX0_isMet_5 : decode cX0_isMet 5 = .ok (.if_icmp .ne 20, 3) := by decide +kernel
theorem dX0_isMet_8 : decode cX0_isMet 8 = .ok (.aload_n 0, 1) := by decide +kernel
theorem dX0_isMet_9 : decode cX0_isMet 9 = .ok (.getfield 33, 3) := by decide +kernel
theorem dX0_isMet_12 : decode cX0_isMet 12 = .ok (.aload_n 0, 1) := by decide +kernel
theorem dX0_isMet_13 : decode cX0_isMet 13 = .ok (.getfield 18, 3) := by decide +kernel
theorem dX0_isMet_16 : decode cX0_isMet 16 = .ok (.if_icmp .lt 7, 3) := by decide +kernel
theorem dX0_isMet_19 : decode cX0_isMet 19 = .ok (.iconst 1, 1) := by decide +kernel
theorem dX0_isMet_20 : decode cX0_isMet 20 = .ok (.goto 4, 3) := by decide +kernel
theorem dX0_isMet_23 : decode cX0_isMet 23 = .ok (.iconst 0, 1) := by decide +kernel
theorem dX0_isMet_24 : decode cX0_isMet 24 = .ok (.ireturn, 1) := by decide +kernel
theorem dX0_isMet_25 : decode cX0_isMet 25 = .ok (.aload_n 0, 1) := by decide +kernel
theorem dX0_isMet_26 : decode cX0_isMet 26 = .ok (.getfield 24, 3) := by decide +kernel
theorem dX0_isMet_29 : decode cX0_isMet 29 = .ok (.iconst 1, 1) := by decide +kernel
theorem dX0_isMet_30 : decode cX0_isMet 30 = .ok (.aload_n 0, 1) := by decide +kernel
theorem dX0_isMet_31 : decode cX0_isMet 31 = .ok (.getfield 21, 3) := by decide +kernel
theorem dX0_isMet_34 : decode cX0_isMet 34 = .ok (.ishl, 1) := by decide +kernel
theorem dX0_isMet_35 : decode cX0_isMet 35 = .ok (.iconst 1, 1) := by decide +kernel
theorem dX0_isMet_36 : decode cX0_isMet 36 = .ok (.isub, 1) := by decide +kernel
theorem dX0_isMet_37 : decode cX0_isMet 37 = .ok (.if_icmp .ne 7, 3) := by decide +kernel
theorem dX0_isMet_40 : decode cX0_isMet 40 = .ok (.iconst 1, 1) := by decide +kernel
theorem dX0_isMet_41 : decode cX0_isMet 41 = .ok (.goto 4, 3) := by decide +kernel
theorem dX0_isMet_44 : decode cX0_isMet 44 = .ok (.iconst 0, 1) := by decide +kernel
theorem dX0_isMet_45 : decode cX0_isMet 45 = .ok (.ireturn, 1) := by decide +kernel
theorem dX0_isPartsSet_0 : decode cX0_isPartsSet 0 = .ok (.iload_n 1, 1) := by decide +kernel
theorem dX0_isPartsSet_1 : decode cX0_isPartsSet 1 = .ok (.ifCond .lt 17, 3) := by decide +kernel
theorem dX0_isPartsSet_4 : decode cX0_isPartsSet 4 = .ok (.iload_n 1, 1) := by decide +kernel
theorem dX0_isPartsSet_5 : decode cX0_isPartsSet 5 = .ok (.iconst 1, 1) := by decide +kernel
theorem dX0_isPartsSet_6 : decode cX0_isPartsSet 6 = .ok (.aload_n 0, 1) := by decide +kernel
theorem dX0_isPartsSet_7 : decode cX0_isPartsSet 7 = .ok (.getfield 21, 3) := by decide +kernel
theorem dX0_isPartsSet_10 : decode cX0_isPartsSet 10 = .ok (.ishl, 1) := by decide +kernel
theorem dX0_isPartsSet_11 : decode cX0_isPartsSet 11 = .ok (.if_icmp .ge 7, 3) := by decide +kernel
theorem dX0_isPartsSet_14 : decode cX0_isPartsSet 14 = .ok (.iconst 1, 1) := by decide +kernel
theorem dX0_isPartsSet_15 : decode cX0_isPartsSet 15 = .ok (.goto 4, 3) := by decide +kernel
theorem dX0_isPartsSet_18 : decode cX0_isPartsSet 18 = .ok (.iconst 0, 1) := by decide +kernel
theorem dX0_isPartsSet_19 : decode cX0_isPartsSet 19 = .ok (.ireturn, 1) := by decide +kernel
theorem dX0_approve_0 : decode cX0_approve 0 = .ok (.aload_n 0, 1) := by decide +kernel
theorem dX0_approve_1 : decode cX0_approve 1 = .ok (.aload_n 0, 1) := by decide +kernel
theorem dX0_approve_2 : decode cX0_approve 2 = .ok (.getfield 24, 3) := by decide +kernel
theorem dX0_approve_5 : decode cX0_approve 5 = .ok (.iload_n 1, 1) := by decide +kernel
theorem dX0_approve_6 : decode cX0_approve 6 = .ok (.ior, 1) := by decide +kernel
theorem dX0_approve_7 : decode cX0_approve 7 = .ok (.putfield 24, 3) := by decide +kernel
theorem dX0_approve_10 : decode cX0_approve 10 = .ok (.aload_n 0, 1) := by decide +kernel
theorem dX0_approve_11 : decode cX0_approve 11 = .ok (.iconst 0, 1) := by decide +kernel
theorem dX0_approve_12 : decode cX0_approve 12 = .ok (.putfield 27, 3) := by decide +kernel
theorem dX0_approve_15 : decode cX0_approve 15 = .ok (.aload_n 0, 1) := by decide +kernel
theorem dX0_approve_16 : decode cX0_approve 16 = .ok (.getfield 36, 3) := by decide +kernel
theorem dX0_approve_19 : decode cX0_approve 19 = .ok (.ifCond .eq 14, 3) := by decide +kernel
theorem dX0_approve_22 : decode cX0_approve 22 = .ok (.aload_n 0, 1) := by decide +kernel
theorem dX0_approve_23 : decode cX0_approve 23 = .ok (.invokevirtual 58, 3) := by decide +kernel
theorem dX0_approve_26 : decode cX0_approve 26 = .ok (.ifCond .eq 7, 3) := by decide +kernel
theorem dX0_approve_29 : decode cX0_approve 29 = .ok (.aload_n 0, 1) := by decide +kernel
theorem dX0_approve_30 : decode cX0_approve 30 = .ok (.invokevirtual 55, 3) := by decide +kernel
theorem dX0_approve_33 : decode cX0_approve 33 = .ok (.return_, 1) := by decide +kernel
theorem dX0_endBreach_0 : decode cX0_endBreach 0 = .ok (.aload_n 0, 1) := by decide +kernel
theorem dX0_endBreach_1 : decode cX0_endBreach 1 = .ok (.iconst 0, 1) := by decide +kernel
theorem dX0_endBreach_2 : decode cX0_endBreach 2 = .ok (.putfield 36, 3) := by decide +kernel
theorem dX0_endBreach_5 : decode cX0_endBreach 5 = .ok (.aload_n 0, 1) := by decide +kernel
theorem dX0_endBreach_6 : decode cX0_endBreach 6 = .ok (.iconst 0, 1) := by decide +kernel
theorem dX0_endBreach_7 : decode cX0_endBreach 7 = .ok (.putfield 43, 3) := by decide +kernel
theorem dX0_endBreach_10 : decode cX0_endBreach 10 = .ok (.aload_n 0, 1) := by decide +kernel
theorem dX0_endBreach_11 : decode cX0_endBreach 11 = .ok (.iconst 0, 1) := by decide +kernel
theorem dX0_endBreach_12 : decode cX0_endBreach 12 = .ok (.putfield 46, 3) := by decide +kernel
theorem dX0_endBreach_15 : decode cX0_endBreach 15 = .ok (.return_, 1) := by decide +kernel
theorem dX0_ageBreach_0 : decode cX0_ageBreach 0 = .ok (.aload_n 0, 1) := by decide +kernel
theorem dX0_ageBreach_1 : decode cX0_ageBreach 1 = .ok (.dup, 1) := by decide +kernel
theorem dX0_ageBreach_2 : decode cX0_ageBreach 2 = .ok (.getfield 43, 3) := by decide +kernel
theorem dX0_ageBreach_5 : decode cX0_ageBreach 5 = .ok (.iconst 1, 1) := by decide +kernel
theorem dX0_ageBreach_6 : decode cX0_ageBreach 6 = .ok (.iadd, 1) := by decide +kernel
theorem dX0_ageBreach_7 : decode cX0_ageBreach 7 = .ok (.putfield 43, 3) := by decide +kernel
theorem dX0_ageBreach_10 : decode cX0_ageBreach 10 = .ok (.aload_n 0, 1) := by decide +kernel
theorem dX0_ageBreach_11 : decode cX0_ageBreach 11 = .ok (.getfield 46, 3) := by decide +kernel
theorem dX0_ageBreach_14 : decode cX0_ageBreach 14 = .ok (.ifCond .eq 23, 3) := by decide +kernel
theorem dX0_ageBreach_17 : decode cX0_ageBreach 17 = .ok (.aload_n 0, 1) := by decide +kernel
theorem dX0_ageBreach_18 : decode cX0_ageBreach 18 = .ok (.getfield 49, 3) := by decide +kernel
theorem dX0_ageBreach_21 : decode cX0_ageBreach 21 = .ok (.ifCond .le 16, 3) := by decide +kernel
theorem dX0_ageBreach_24 : decode cX0_ageBreach 24 = .ok (.aload_n 0, 1) := by decide +kernel
theorem dX0_ageBreach_25 : decode cX0_ageBreach 25 = .ok (.dup, 1) := by decide +kernel
theorem dX0_ageBreach_26 : decode cX0_ageBreach 26 = .ok (.getfield 49, 3) := by decide +kernel
theorem dX0_ageBreach_29 : decode cX0_ageBreach 29 = .ok (.iconst 1, 1) := by decide +kernel
theorem dX0_ageBreach_30 : decode cX0_ageBreach 30 = .ok (.isub, 1) := by decide +kernel
theorem dX0_ageBreach_31 : decode cX0_ageBreach 31 = .ok (.putfield 49, 3) := by decide +kernel
theorem dX0_ageBreach_34 : decode cX0_ageBreach 34 = .ok (.goto 40, 3) := by decide +kernel
theorem dX0_ageBreach_37 : decode cX0_ageBreach 37 = .ok (.aload_n 0, 1) := by decide +kernel
theorem dX0_ageBreach_38 : decode cX0_ageBreach 38 = .ok (.getfield 46, 3) := by decide +kernel
theorem dX0_ageBreach_41 : decode cX0_ageBreach 41 = .ok (.ifCond .eq 16, 3) := by decide +kernel
theorem dX0_ageBreach_44 : decode cX0_ageBreach 44 = .ok (.aload_n 0, 1) := by decide +kernel
theorem dX0_ageBreach_45 : decode cX0_ageBreach 45 = .ok (.dup, 1) := by decide +kernel
theorem dX0_ageBreach_46 : decode cX0_ageBreach 46 = .ok (.getfield 52, 3) := by decide +kernel
theorem dX0_ageBreach_49 : decode cX0_ageBreach 49 = .ok (.iconst 1, 1) := by decide +kernel
theorem dX0_ageBreach_50 : decode cX0_ageBreach 50 = .ok (.iadd, 1) := by decide +kernel
theorem dX0_ageBreach_51 : decode cX0_ageBreach 51 = .ok (.putfield 52, 3) := by decide +kernel
theorem dX0_ageBreach_54 : decode cX0_ageBreach 54 = .ok (.goto 20, 3) := by decide +kernel
theorem dX0_ageBreach_57 : decode cX0_ageBreach 57 = .ok (.aload_n 0, 1) := by decide +kernel
theorem dX0_ageBreach_58 : decode cX0_ageBreach 58 = .ok (.getfield 43, 3) := by decide +kernel
theorem dX0_ageBreach_61 : decode cX0_ageBreach 61 = .ok (.iload_n 1, 1) := by decide +kernel
theorem dX0_ageBreach_62 : decode cX0_ageBreach 62 = .ok (.if_icmp .lt 12, 3) := by decide +kernel
theorem dX0_ageBreach_65 : decode cX0_ageBreach 65 = .ok (.aload_n 0, 1) := by decide +kernel
theorem dX0_ageBreach_66 : decode cX0_ageBreach 66 = .ok (.invokevirtual 55, 3) := by decide +kernel
theorem dX0_ageBreach_69 : decode cX0_ageBreach 69 = .ok (.aload_n 0, 1) := by decide +kernel
theorem dX0_ageBreach_70 : decode cX0_ageBreach 70 = .ok (.iconst 1, 1) := by decide +kernel
theorem dX0_ageBreach_71 : decode cX0_ageBreach 71 = .ok (.putfield 40, 3) := by decide +kernel
theorem dX0_ageBreach_74 : decode cX0_ageBreach 74 = .ok (.return_, 1) := by decide +kernel
theorem dX1_init_0 : decode cX1_init 0 = .ok (.aload_n 0, 1) := by decide +kernel
theorem dX1_init_1 : decode cX1_init 1 = .ok (.invokespecial 3, 3) := by decide +kernel
theorem dX1_init_4 : decode cX1_init 4 = .ok (.aload_n 0, 1) := by decide +kernel
theorem dX1_init_5 : decode cX1_init 5 = .ok (.bipush 80, 2) := by decide +kernel
theorem dX1_init_7 : decode cX1_init 7 = .ok (.newarray .char, 2) := by decide +kernel
theorem dX1_init_9 : decode cX1_init 9 = .ok (.putfield 9, 3) := by decide +kernel
theorem dX1_init_12 : decode cX1_init 12 = .ok (.aload_n 0, 1) := by decide +kernel
theorem dX1_init_13 : decode cX1_init 13 = .ok (.iconst 4, 1) := by decide +kernel
theorem dX1_init_14 : decode cX1_init 14 = .ok (.newarray .int, 2) := by decide +kernel
theorem dX1_init_16 : decode cX1_init 16 = .ok (.putfield 15, 3) := by decide +kernel
theorem dX1_init_19 : decode cX1_init 19 = .ok (.aload_n 0, 1) := by decide +kernel
theorem dX1_init_20 : decode cX1_init 20 = .ok (.iconst 0, 1) := by decide +kernel
theorem dX1_init_21 : decode cX1_init 21 = .ok (.putfield 19, 3) := by decide +kernel
theorem dX1_init_24 : decode cX1_init 24 = .ok (.aload_n 0, 1) := by decide +kernel
theorem dX1_init_25 : decode cX1_init 25 = .ok (.iconst 0, 1) := by decide +kernel
theorem dX1_init_26 : decode cX1_init 26 = .ok (.putfield 23, 3) := by decide +kernel
theorem dX1_init_29 : decode cX1_init 29 = .ok (.aload_n 0, 1) := by decide +kernel
theorem dX1_init_30 : decode cX1_init 30 = .ok (.iconst 0, 1) := by decide +kernel
theorem dX1_init_31 : decode cX1_init 31 = .ok (.putfield 26, 3) := by decide +kernel
theorem dX1_init_34 : decode cX1_init 34 = .ok (.aload_n 0, 1) := by decide +kernel
theorem dX1_init_35 : decode cX1_init 35 = .ok (.iconst 0, 1) := by decide +kernel
theorem dX1_init_36 : decode cX1_init 36 = .ok (.putfield 29, 3) := by decide +kernel
theorem dX1_init_39 : decode cX1_init 39 = .ok (.aload_n 0, 1) := by decide +kernel
theorem dX1_init_40 : decode cX1_init 40 = .ok (.iconst 0, 1) := by decide +kernel
theorem dX1_init_41 : decode cX1_init 41 = .ok (.putfield 32, 3) := by decide +kernel
theorem dX1_init_44 : decode cX1_init 44 = .ok (.return_, 1) := by decide +kernel
theorem dX1_append_0 : decode cX1_append 0 = .ok (.aload_n 0, 1) := by decide +kernel
theorem dX1_append_1 : decode cX1_append 1 = .ok (.getfield 19, 3) := by decide +kernel
theorem dX1_append_4 : decode cX1_append 4 = .ok (.bipush 80, 2) := by decide +kernel
theorem dX1_append_6 : decode cX1_append 6 = .ok (.if_icmp .lt 6, 3) := by decide +kernel
theorem dX1_append_9 : decode cX1_append 9 = .ok (.ldc 35, 2) := by decide +kernel
theorem dX1_append_11 : decode cX1_append 11 = .ok (.ireturn, 1) := by decide +kernel
theorem dX1_append_12 : decode cX1_append 12 = .ok (.aload_n 0, 1) := by decide +kernel
theorem dX1_append_13 : decode cX1_append 13 = .ok (.getfield 9, 3) := by decide +kernel
theorem dX1_append_16 : decode cX1_append 16 = .ok (.aload_n 0, 1) := by decide +kernel
theorem dX1_append_17 : decode cX1_append 17 = .ok (.getfield 19, 3) := by decide +kernel
theorem dX1_append_20 : decode cX1_append 20 = .ok (.iload_n 1, 1) := by decide +kernel
theorem dX1_append_21 : decode cX1_append 21 = .ok (.castore, 1) := by decide +kernel
theorem dX1_append_22 : decode cX1_append 22 = .ok (.aload_n 0, 1) := by decide +kernel
theorem dX1_append_23 : decode cX1_append 23 = .ok (.dup, 1) := by decide +kernel
theorem dX1_append_24 : decode cX1_append 24 = .ok (.getfield 19, 3) := by decide +kernel
theorem dX1_append_27 : decode cX1_append 27 = .ok (.iconst 1, 1) := by decide +kernel
theorem dX1_append_28 : decode cX1_append 28 = .ok (.iadd, 1) := by decide +kernel
theorem dX1_append_29 : decode cX1_append 29 = .ok (.putfield 19, 3) := by decide +kernel
theorem dX1_append_32 : decode cX1_append 32 = .ok (.aload_n 0, 1) := by decide +kernel
theorem dX1_append_33 : decode cX1_append 33 = .ok (.getfield 19, 3) := by decide +kernel
theorem dX1_append_36 : decode cX1_append 36 = .ok (.ireturn, 1) := by decide +kernel
theorem dX1_empty_0 : decode cX1_empty 0 = .ok (.aload_n 0, 1) := by decide +kernel
theorem dX1_empty_1 : decode cX1_empty 1 = .ok (.getfield 19, 3) := by decide +kernel
theorem dX1_empty_4 : decode cX1_empty 4 = .ok (.istore_n 1, 1) := by decide +kernel
theorem dX1_empty_5 : decode cX1_empty 5 = .ok (.aload_n 0, 1) := by decide +kernel
theorem dX1_empty_6 : decode cX1_empty 6 = .ok (.iconst 0, 1) := by decide +kernel
theorem dX1_empty_7 : decode cX1_empty 7 = .ok (.putfield 19, 3) := by decide +kernel
theorem dX1_empty_10 : decode cX1_empty 10 = .ok (.iload_n 1, 1) := by decide +kernel
theorem dX1_empty_11 : decode cX1_empty 11 = .ok (.ireturn, 1) := by decide +kernel
theorem dX1_doAll_0 : decode cX1_doAll 0 = .ok (.aload_n 0, 1) := by decide +kernel
theorem dX1_doAll_1 : decode cX1_doAll 1 = .ok (.iconst 0, 1) := by decide +kernel
theorem dX1_doAll_2 : decode cX1_doAll 2 = .ok (.putfield 29, 3) := by decide +kernel
theorem dX1_doAll_5 : decode cX1_doAll 5 = .ok (.aload_n 0, 1) := by decide +kernel
theorem dX1_doAll_6 : decode cX1_doAll 6 = .ok (.iconst 0, 1) := by decide +kernel
theorem dX1_doAll_7 : decode cX1_doAll 7 = .ok (.putfield 32, 3) := by decide +kernel
theorem dX1_doAll_10 : decode cX1_doAll 10 = .ok (.aload_n 0, 1) := by decide +kernel
theorem dX1_doAll_11 : decode cX1_doAll 11 = .ok (.iconst 0, 1) := by decide +kernel
theorem dX1_doAll_12 : decode cX1_doAll 12 = .ok (.putfield 23, 3) := by decide +kernel
theorem dX1_doAll_15 : decode cX1_doAll 15 = .ok (.aload_n 0, 1) := by decide +kernel
theorem dX1_doAll_16 : decode cX1_doAll 16 = .ok (.iconst 0, 1) := by decide +kernel
theorem dX1_doAll_17 : decode cX1_doAll 17 = .ok (.putfield 26, 3) := by decide +kernel
theorem dX1_doAll_20 : decode cX1_doAll 20 = .ok (.iconst 0, 1) := by decide +kernel
theorem dX1_doAll_21 : decode cX1_doAll 21 = .ok (.istore_n 2, 1) := by decide +kernel
theorem dX1_doAll_22 : decode cX1_doAll 22 = .ok (.iload_n 2, 1) := by decide +kernel
theorem dX1_doAll_23 : decode cX1_doAll 23 = .ok (.bipush 80, 2) := by decide +kernel
theorem dX1_doAll_25 : decode cX1_doAll 25 = .ok (.if_icmp .ge 77, 3) := by decide +kernel
theorem dX1_doAll_28 : decode cX1_doAll 28 = .ok (.aload_n 0, 1) := by decide +kernel
theorem dX1_doAll_29 : decode cX1_doAll 29 = .ok (.getfield 26, 3) := by decide +kernel
theorem dX1_doAll_32 : decode cX1_doAll 32 = .ok (.aload_n 0, 1) := by decide +kernel
theorem dX1_doAll_33 : decode cX1_doAll 33 = .ok (.getfield 19, 3) := by decide +kernel
theorem dX1_doAll_36 : decode cX1_doAll 36 = .ok (.if_icmp .ge 66, 3) := by decide +kernel
theorem dX1_doAll_39 : decode cX1_doAll 39 = .ok (.aload_n 0, 1) := by decide +kernel
theorem dX1_doAll_40 : decode cX1_doAll 40 = .ok (.aload_n 0, 1) := by decide +kernel
theorem dX1_doAll_41 : decode cX1_doAll 41 = .ok (.getfield 26, 3) := by decide +kernel
theorem dX1_doAll_44 : decode cX1_doAll 44 = .ok (.putfield 23, 3) := by decide +kernel
theorem dX1_doAll_47 : decode cX1_doAll 47 = .ok (.aload_n 0, 1) := by decide +kernel
theorem dX1_doAll_48 : decode cX1_doAll 48 = .ok (.invokevirtual 36, 3) := by decide +kernel
theorem dX1_doAll_51 : decode cX1_doAll 51 = .ok (.ifCond .ne 23, 3) := by decide +kernel
theorem dX1_doAll_54 : decode cX1_doAll 54 = .ok (.aload_n 0, 1) := by decide +kernel
theorem dX1_doAll_55 : decode cX1_doAll 55 = .ok (.iconst 1, 1) := by decide +kernel
theorem dX1_doAll_56 : decode cX1_doAll 56 = .ok (.putfield 29, 3) := by decide +kernel
theorem dX1_doAll_59 : decode cX1_doAll 59 = .ok (.aload_n 0, 1) := by decide +kernel
theorem dX1_doAll_60 : decode cX1_doAll 60 = .ok (.aload_n 0, 1) := by decide +kernel
theorem dX1_doAll_61 : decode cX1_doAll 61 = .ok (.getfield 26, 3) := by decide +kernel
theorem dX1_doAll_64 : decode cX1_doAll 64 = .ok (.aload_n 0, 1) := by decide +kernel
theorem dX1_doAll_65 : decode cX1_doAll 65 = .ok (.getfield 23, 3) := by decide +kernel
theorem dX1_doAll_68 : decode cX1_doAll 68 = .ok (.isub, 1) := by decide +kernel
theorem dX1_doAll_69 : decode cX1_doAll 69 = .ok (.putfield 32, 3) := by decide +kernel
theorem dX1_doAll_72 : decode cX1_doAll 72 = .ok (.iload_n 2, 1) := by decide +kernel
theorem dX1_doAll_73 : decode cX1_doAll 73 = .ok (.ireturn, 1) := by decide +kernel
theorem dX1_doAll_74 : decode cX1_doAll 74 = .ok (.aload_n 0, 1) := by decide +kernel
theorem dX1_doAll_75 : decode cX1_doAll 75 = .ok (.aload_n 1, 1) := by decide +kernel
theorem dX1_doAll_76 : decode cX1_doAll 76 = .ok (.invokevirtual 40, 3) := by decide +kernel
theorem dX1_doAll_79 : decode cX1_doAll 79 = .ok (.istore_n 3, 1) := by decide +kernel
theorem dX1_doAll_80 : decode cX1_doAll 80 = .ok (.iload_n 3, 1) := by decide +kernel
theorem dX1_doAll_81 : decode cX1_doAll 81 = .ok (.ifCond .ge 15, 3) := by decide +kernel
theorem dX1_doAll_84 : decode cX1_doAll 84 = .ok (.aload_n 0, 1) := by decide +kernel
theorem dX1_doAll_85 : decode cX1_doAll 85 = .ok (.iconst 2, 1) := by decide +kernel
theorem dX1_doAll_86 : decode cX1_doAll 86 = .ok (.putfield 29, 3) := by decide +kernel
theorem dX1_doAll_89 : decode cX1_doAll 89 = .ok (.aload_n 0, 1) := by decide +kernel
theorem dX1_doAll_90 : decode cX1_doAll 90 = .ok (.iload_n 3, 1) := by decide +kernel
theorem dX1_doAll_91 : decode cX1_doAll 91 = .ok (.putfield 32, 3) := by decide +kernel
theorem dX1_doAll_94 : decode cX1_doAll 94 = .ok (.iload_n 2, 1) := by decide +kernel
theorem dX1_doAll_95 : decode cX1_doAll 95 = .ok (.ireturn, 1) := by decide +kernel
theorem dX1_doAll_96 : decode cX1_doAll 96 = .ok (.iinc 2 1, 3) := by decide +kernel
theorem dX1_doAll_99 : decode cX1_doAll 99 = .ok (.goto (-77), 3) := by decide +kernel
theorem dX1_doAll_102 : decode cX1_doAll 102 = .ok (.iload_n 2, 1) := by decide +kernel
theorem dX1_doAll_103 : decode cX1_doAll 103 = .ok (.ireturn, 1) := by decide +kernel
theorem dX1_readOrder_0 : decode cX1_readOrder 0 = .ok (.aload_n 0, 1) := by decide +kernel
theorem dX1_readOrder_1 : decode cX1_readOrder 1 = .ok (.getfield 26, 3) := by decide +kernel
theorem dX1_readOrder_4 : decode cX1_readOrder 4 = .ok (.aload_n 0, 1) := by decide +kernel
theorem dX1_readOrder_5 : decode cX1_readOrder 5 = .ok (.getfield 19, 3) := by decide +kernel
theorem dX1_readOrder_8 : decode cX1_readOrder 8 = .ok (.if_icmp .ge 18, 3) := by decide +kernel
theorem dX1_readOrder_11 : decode cX1_readOrder 11 = .ok (.aload_n 0, 1) := by decide +kernel
theorem dX1_readOrder_12 : decode cX1_readOrder 12 = .ok (.getfield 9, 3) := by decide +kernel
theorem dX1_readOrder_15 : decode cX1_readOrder 15 = .ok (.aload_n 0, 1) := by decide +kernel
theorem dX1_readOrder_16 : decode cX1_readOrder 16 = .ok (.getfield 26, 3) := by decide +kernel
theorem dX1_readOrder_19 : decode cX1_readOrder 19 = .ok (.caload, 1) := by decide +kernel
theorem dX1_readOrder_20 : decode cX1_readOrder 20 = .ok (.invokestatic 44, 3) := by decide +kernel
theorem dX1_readOrder_23 : decode cX1_readOrder 23 = .ok (.goto 4, 3) := by decide +kernel
theorem dX1_readOrder_26 : decode cX1_readOrder 26 = .ok (.iconst 0, 1) := by decide +kernel
theorem dX1_readOrder_27 : decode cX1_readOrder 27 = .ok (.istore_n 1, 1) := by decide +kernel
theorem dX1_readOrder_28 : decode cX1_readOrder 28 = .ok (.iload_n 1, 1) := by decide +kernel
theorem dX1_readOrder_29 : decode cX1_readOrder 29 = .ok (.ifCond .ne 5, 3) := by decide +kernel
theorem dX1_readOrder_32 : decode cX1_readOrder 32 = .ok (.iconst 0, 1) := by decide +kernel
theorem dX1_readOrder_33 : decode cX1_readOrder 33 = .ok (.ireturn, 1) := by decide +kernel
theorem dX1_readOrder_34 : decode cX1_readOrder 34 = .ok (.aload_n 0, 1) := by decide +kernel
theorem dX1_readOrder_35 : decode cX1_readOrder 35 = .ok (.dup, 1) := by decide +kernel
theorem dX1_readOrder_36 : decode cX1_readOrder 36 = .ok (.getfield 26, 3) := by decide +kernel
theorem dX1_readOrder_39 : decode cX1_readOrder 39 = .ok (.iconst 1, 1) := by decide +kernel
theorem dX1_readOrder_40 : decode cX1_readOrder 40 = .ok (.iadd, 1) := by decide +kernel
theorem dX1_readOrder_41 : decode cX1_readOrder 41 = .ok (.putfield 26, 3) := by decide +kernel
theorem dX1_readOrder_44 : decode cX1_readOrder 44 = .ok (.iconst 0, 1) := by decide +kernel
theorem dX1_readOrder_45 : decode cX1_readOrder 45 = .ok (.istore_n 2, 1) := by decide +kernel
theorem dX1_readOrder_46 : decode cX1_readOrder 46 = .ok (.iload_n 2, 1) := by decide +kernel
theorem dX1_readOrder_47 : decode cX1_readOrder 47 = .ok (.iload_n 1, 1) := by decide +kernel
theorem dX1_readOrder_48 : decode cX1_readOrder 48 = .ok (.if_icmp .ge 42, 3) := by decide +kernel
theorem dX1_readOrder_51 : decode cX1_readOrder 51 = .ok (.iload_n 2, 1) := by decide +kernel
theorem dX1_readOrder_52 : decode cX1_readOrder 52 = .ok (.iload_n 1, 1) := by decide +kernel
theorem dX1_readOrder_53 : decode cX1_readOrder 53 = .ok (.iconst 1, 1) := by decide +kernel
theorem dX1_readOrder_54 : decode cX1_readOrder 54 = .ok (.isub, 1) := by decide +kernel
theorem dX1_readOrder_55 : decode cX1_readOrder 55 = .ok (.if_icmp .ge 8, 3) := by decide +kernel
theorem dX1_readOrder_58 : decode cX1_readOrder 58 = .ok (.bipush 44, 2) := by decide +kernel
theorem dX1_readOrder_60 : decode cX1_readOrder 60 = .ok (.goto 5, 3) := by decide +kernel
theorem dX1_readOrder_63 : decode cX1_readOrder 63 = .ok (.bipush 59, 2) := by decide +kernel
theorem dX1_readOrder_65 : decode cX1_readOrder 65 = .ok (.istore_n 3, 1) := by decide +kernel
theorem dX1_readOrder_66 : decode cX1_readOrder 66 = .ok (.aload_n 0, 1) := by decide +kernel
theorem dX1_readOrder_67 : decode cX1_readOrder 67 = .ok (.iload_n 2, 1) := by decide +kernel
theorem dX1_readOrder_68 : decode cX1_readOrder 68 = .ok (.invokevirtual 48, 3) := by decide +kernel
theorem dX1_readOrder_71 : decode cX1_readOrder 71 = .ok (.ifCond .eq 11, 3) := by decide +kernel
theorem dX1_readOrder_74 : decode cX1_readOrder 74 = .ok (.aload_n 0, 1) := by decide +kernel
theorem dX1_readOrder_75 : decode cX1_readOrder 75 = .ok (.iload_n 3, 1) := by decide +kernel
theorem dX1_readOrder_76 : decode cX1_readOrder 76 = .ok (.invokevirtual 52, 3) := by decide +kernel
theorem dX1_readOrder_79 : decode cX1_readOrder 79 = .ok (.ifCond .ne 5, 3) := by decide +kernel
theorem dX1_readOrder_82 : decode cX1_readOrder 82 = .ok (.iconst 0, 1) := by decide +kernel
theorem dX1_readOrder_83 : decode cX1_readOrder 83 = .ok (.ireturn, 1) := by decide +kernel
theorem dX1_readOrder_84 : decode cX1_readOrder 84 = .ok (.iinc 2 1, 3) := by decide +kernel
theorem dX1_readOrder_87 : decode cX1_readOrder 87 = .ok (.goto (-41), 3) := by decide +kernel
theorem dX1_readOrder_90 : decode cX1_readOrder 90 = .ok (.iconst 1, 1) := by decide +kernel
theorem dX1_readOrder_91 : decode cX1_readOrder 91 = .ok (.ireturn, 1) := by decide +kernel
theorem dX1_numbersBehind_0 : decode cX1_numbersBehind 0 = .ok (.iload_n 0, 1) := by decide +kernel
theorem dX1_numbersBehind_1 : decode cX1_numbersBehind 1 = .ok (.tableswitch 85 97 112 #[81, 83, 79, 81, 85, 83, 85, 85, 85, 85, 85, 85, 85, 85, 85, 83], 79) := by decide +kernel
theorem dX1_numbersBehind_80 : decode cX1_numbersBehind 80 = .ok (.iconst 4, 1) := by decide +kernel
theorem dX1_numbersBehind_81 : decode cX1_numbersBehind 81 = .ok (.ireturn, 1) := by decide +kernel
theorem dX1_numbersBehind_82 : decode cX1_numbersBehind 82 = .ok (.iconst 2, 1) := by decide +kernel
theorem dX1_numbersBehind_83 : decode cX1_numbersBehind 83 = .ok (.ireturn, 1) := by decide +kernel
theorem dX1_numbersBehind_84 : decode cX1_numbersBehind 84 = .ok (.iconst 1, 1) := by decide +kernel
theorem dX1_numbersBehind_85 : decode cX1_numbersBehind 85 = .ok (.ireturn, 1) := by decide +kernel
theorem dX1_numbersBehind_86 : decode cX1_numbersBehind 86 = .ok (.iconst 0, 1) := by decide +kernel
theorem dX1_numbersBehind_87 : decode cX1_numbersBehind 87 = .ok (.ireturn, 1) := by decide +kernel
theorem dX1_readNumber_0 : decode cX1_readNumber 0 = .ok (.iconst 0, 1) := by decide +kernel
theorem dX1_readNumber_1 : decode cX1_readNumber 1 = .ok (.istore_n 2, 1) := by decide +kernel
theorem dX1_readNumber_2 : decode cX1_readNumber 2 = .ok (.iconst 0, 1) := by decide +kernel
theorem dX1_readNumber_3 : decode cX1_readNumber 3 = .ok (.istore_n 3, 1) := by decide +kernel
theorem dX1_readNumber_4 : decode cX1_readNumber 4 = .ok (.iload_n 3, 1) := by decide +kernel
theorem dX1_readNumber_5 : decode cX1_readNumber 5 = .ok (.iconst 3, 1) := by decide +kernel
theorem dX1_readNumber_6 : decode cX1_readNumber 6 = .ok (.if_icmp .ge 63, 3) := by decide +kernel
theorem dX1_readNumber_9 : decode cX1_readNumber 9 = .ok (.aload_n 0, 1) := by decide +kernel
theorem dX1_readNumber_10 : decode cX1_readNumber 10 = .ok (.getfield 26, 3) := by decide +kernel
theorem dX1_readNumber_13 : decode cX1_readNumber 13 = .ok (.aload_n 0, 1) := by decide +kernel
theorem dX1_readNumber_14 : decode cX1_readNumber 14 = .ok (.getfield 19, 3) := by decide +kernel
theorem dX1_readNumber_17 : decode cX1_readNumber 17 = .ok (.if_icmp .ge 52, 3) := by decide +kernel
theorem dX1_readNumber_20 : decode cX1_readNumber 20 = .ok (.aload_n 0, 1) := by decide +kernel
theorem dX1_readNumber_21 : decode cX1_readNumber 21 = .ok (.getfield 9, 3) := by decide +kernel
theorem dX1_readNumber_24 : decode cX1_readNumber 24 = .ok (.aload_n 0, 1) := by decide +kernel
theorem dX1_readNumber_25 : decode cX1_readNumber 25 = .ok (.getfield 26, 3) := by decide +kernel
theorem dX1_readNumber_28 : decode cX1_readNumber 28 = .ok (.caload, 1) := by decide +kernel
theorem dX1_readNumber_29 : decode cX1_readNumber 29 = .ok (.invokestatic 56, 3) := by decide +kernel
theorem dX1_readNumber_32 : decode cX1_readNumber 32 = .ok (.ifCond .eq 37, 3) := by decide +kernel
theorem dX1_readNumber_35 : decode cX1_readNumber 35 = .ok (.iload_n 2, 1) := by decide +kernel
theorem dX1_readNumber_36 : decode cX1_readNumber 36 = .ok (.bipush 10, 2) := by decide +kernel
theorem dX1_readNumber_38 : decode cX1_readNumber 38 = .ok (.imul, 1) := by decide +kernel
theorem dX1_readNumber_39 : decode cX1_readNumber 39 = .ok (.aload_n 0, 1) := by decide +kernel
theorem dX1_readNumber_40 : decode cX1_readNumber 40 = .ok (.getfield 9, 3) := by decide +kernel
theorem dX1_readNumber_43 : decode cX1_readNumber 43 = .ok (.aload_n 0, 1) := by decide +kernel
theorem dX1_readNumber_44 : decode cX1_readNumber 44 = .ok (.getfield 26, 3) := by decide +kernel
theorem dX1_readNumber_47 : decode cX1_readNumber 47 = .ok (.caload, 1) := by decide +kernel
theorem dX1_readNumber_48 : decode cX1_readNumber 48 = .ok (.bipush 48, 2) := by decide +kernel
theorem dX1_readNumber_50 : decode cX1_readNumber 50 = .ok (.isub, 1) := by decide +kernel
theorem dX1_readNumber_51 : decode cX1_readNumber 51 = .ok (.iadd, 1) := by decide +kernel
theorem dX1_readNumber_52 : decode cX1_readNumber 52 = .ok (.istore_n 2, 1) := by decide +kernel
theorem dX1_readNumber_53 : decode cX1_readNumber 53 = .ok (.aload_n 0, 1) := by decide +kernel
theorem dX1_readNumber_54 : decode cX1_readNumber 54 = .ok (.dup, 1) := by decide +kernel
theorem dX1_readNumber_55 : decode cX1_readNumber 55 = .ok (.getfield 26, 3) := by decide +kernel
theorem dX1_readNumber_58 : decode cX1_readNumber 58 = .ok (.iconst 1, 1) := by decide +kernel
theorem dX1_readNumber_59 : decode cX1_readNumber 59 = .ok (.iadd, 1) := by decide +kernel
theorem dX1_readNumber_60 : decode cX1_readNumber 60 = .ok (.putfield 26, 3) := by decide +kernel
theorem dX1_readNumber_63 : decode cX1_readNumber 63 = .ok (.iinc 3 1, 3) := by decide +kernel
theorem dX1_readNumber_66 : decode cX1_readNumber 66 = .ok (.goto (-62), 3) := by decide +kernel
theorem dX1_readNumber_69 : decode cX1_readNumber 69 = .ok (.iload_n 3, 1) := by decide +kernel
theorem dX1_readNumber_70 : decode cX1_readNumber 70 = .ok (.ifCond .eq 12, 3) := by decide +kernel
theorem dX1_readNumber_73 : decode cX1_readNumber 73 = .ok (.iload_n 1, 1) := by decide +kernel
theorem dX1_readNumber_74 : decode cX1_readNumber 74 = .ok (.ifCond .lt 8, 3) := by decide +kernel
theorem dX1_readNumber_77 : decode cX1_readNumber 77 = .ok (.iload_n 1, 1) := by decide +kernel
theorem dX1_readNumber_78 : decode cX1_readNumber 78 = .ok (.iconst 4, 1) := by decide +kernel
theorem dX1_readNumber_79 : decode cX1_readNumber 79 = .ok (.if_icmp .lt 5, 3) := by decide +kernel
theorem dX1_readNumber_82 : decode cX1_readNumber 82 = .ok (.iconst 0, 1) := by decide +kernel
theorem dX1_readNumber_83 : decode cX1_readNumber 83 = .ok (.ireturn, 1) := by decide +kernel
theorem dX1_readNumber_84 : decode cX1_readNumber 84 = .ok (.aload_n 0, 1) := by decide +kernel
theorem dX1_readNumber_85 : decode cX1_readNumber 85 = .ok (.getfield 15, 3) := by decide +kernel
theorem dX1_readNumber_88 : decode cX1_readNumber 88 = .ok (.iload_n 1, 1) := by decide +kernel
theorem dX1_readNumber_89 : decode cX1_readNumber 89 = .ok (.iload_n 2, 1) := by decide +kernel
theorem dX1_readNumber_90 : decode cX1_readNumber 90 = .ok (.iastore, 1) := by decide +kernel
theorem dX1_readNumber_91 : decode cX1_readNumber 91 = .ok (.iconst 1, 1) := by decide +kernel
theorem dX1_readNumber_92 : decode cX1_readNumber 92 = .ok (.ireturn, 1) := by decide +kernel
theorem dX1_isDigit_0 : decode cX1_isDigit 0 = .ok (.iload_n 0, 1) := by decide +kernel
theorem dX1_isDigit_1 : decode cX1_isDigit 1 = .ok (.bipush 48, 2) := by decide +kernel
theorem dX1_isDigit_3 : decode cX1_isDigit 3 = .ok (.if_icmp .lt 13, 3) := by decide +kernel
theorem dX1_isDigit_6 : decode cX1_isDigit 6 = .ok (.iload_n 0, 1) := by decide +kernel
theorem dX1_isDigit_7 : decode cX1_isDigit 7 = .ok (.bipush 57, 2) := by decide +kernel
theorem dX1_isDigit_9 : decode cX1_isDigit 9 = .ok (.if_icmp .gt 7, 3) := by decide +kernel
theorem dX1_isDigit_12 : decode cX1_isDigit 12 = .ok (.iconst 1, 1) := by decide +kernel
theorem dX1_isDigit_13 : decode cX1_isDigit 13 = .ok (.goto 4, 3) := by decide +kernel
theorem dX1_isDigit_16 : decode cX1_isDigit 16 = .ok (.iconst 0, 1) := by decide +kernel
theorem dX1_isDigit_17 : decode cX1_isDigit 17 = .ok (.ireturn, 1) := by decide +kernel
theorem dX1_readSign_0 : decode cX1_readSign 0 = .ok (.aload_n 0, 1) := by decide +kernel
theorem dX1_readSign_1 : decode cX1_readSign 1 = .ok (.getfield 26, 3) := by decide +kernel
theorem dX1_readSign_4 : decode cX1_readSign 4 = .ok (.aload_n 0, 1) := by decide +kernel
theorem dX1_readSign_5 : decode cX1_readSign 5 = .ok (.getfield 19, 3) := by decide +kernel
theorem dX1_readSign_8 : decode cX1_readSign 8 = .ok (.if_icmp .ge 16, 3) := by decide +kernel
theorem dX1_readSign_11 : decode cX1_readSign 11 = .ok (.aload_n 0, 1) := by decide +kernel
theorem dX1_readSign_12 : decode cX1_readSign 12 = .ok (.getfield 9, 3) := by decide +kernel
theorem dX1_readSign_15 : decode cX1_readSign 15 = .ok (.aload_n 0, 1) := by decide +kernel
theorem dX1_readSign_16 : decode cX1_readSign 16 = .ok (.getfield 26, 3) := by decide +kernel
theorem dX1_readSign_19 : decode cX1_readSign 19 = .ok (.caload, 1) := by decide +kernel
theorem dX1_readSign_20 : decode cX1_readSign 20 = .ok (.iload_n 1, 1) := by decide +kernel
theorem dX1_readSign_21 : decode cX1_readSign 21 = .ok (.if_icmp .eq 5, 3) := by decide +kernel
theorem dX1_readSign_24 : decode cX1_readSign 24 = .ok (.iconst 0, 1) := by decide +kernel
theorem dX1_readSign_25 : decode cX1_readSign 25 = .ok (.ireturn, 1) := by decide +kernel
theorem dX1_readSign_26 : decode cX1_readSign 26 = .ok (.aload_n 0, 1) := by decide +kernel
theorem dX1_readSign_27 : decode cX1_readSign 27 = .ok (.dup, 1) := by decide +kernel
theorem dX1_readSign_28 : decode cX1_readSign 28 = .ok (.getfield 26, 3) := by decide +kernel
theorem dX1_readSign_31 : decode cX1_readSign 31 = .ok (.iconst 1, 1) := by decide +kernel
theorem dX1_readSign_32 : decode cX1_readSign 32 = .ok (.iadd, 1) := by decide +kernel
theorem dX1_readSign_33 : decode cX1_readSign 33 = .ok (.putfield 26, 3) := by decide +kernel
theorem dX1_readSign_36 : decode cX1_readSign 36 = .ok (.iconst 1, 1) := by decide +kernel
theorem dX1_readSign_37 : decode cX1_readSign 37 = .ok (.ireturn, 1) := by decide +kernel
theorem dX1_doOrder_0 : decode cX1_doOrder 0 = .ok (.aload_n 0, 1) := by decide +kernel
theorem dX1_doOrder_1 : decode cX1_doOrder 1 = .ok (.getfield 9, 3) := by decide +kernel
theorem dX1_doOrder_4 : decode cX1_doOrder 4 = .ok (.aload_n 0, 1) := by decide +kernel
theorem dX1_doOrder_5 : decode cX1_doOrder 5 = .ok (.getfield 23, 3) := by decide +kernel
theorem dX1_doOrder_8 : decode cX1_doOrder 8 = .ok (.caload, 1) := by decide +kernel
theorem dX1_doOrder_9 : decode cX1_doOrder 9 = .ok (.tableswitch 124 97 102 #[90, 68, 39, 107, 124, 79], 39) := by decide +kernel
theorem dX1_doOrder_48 : decode cX1_doOrder 48 = .ok (.aload_n 1, 1) := by decide +kernel
theorem dX1_doOrder_49 : decode cX1_doOrder 49 = .ok (.aload_n 0, 1) := by decide +kernel
theorem dX1_doOrder_50 : decode cX1_doOrder 50 = .ok (.getfield 15, 3) := by decide +kernel
theorem dX1_doOrder_53 : decode cX1_doOrder 53 = .ok (.iconst 0, 1) := by decide +kernel
theorem dX1_doOrder_54 : decode cX1_doOrder 54 = .ok (.iaload, 1) := by decide +kernel
theorem dX1_doOrder_55 : decode cX1_doOrder 55 = .ok (.aload_n 0, 1) := by decide +kernel
theorem dX1_doOrder_56 : decode cX1_doOrder 56 = .ok (.getfield 15, 3) := by decide +kernel
theorem dX1_doOrder_59 : decode cX1_doOrder 59 = .ok (.iconst 1, 1) := by decide +kernel
theorem dX1_doOrder_60 : decode cX1_doOrder 60 = .ok (.iaload, 1) := by decide +kernel
theorem dX1_doOrder_61 : decode cX1_doOrder 61 = .ok (.aload_n 0, 1) := by decide +kernel
theorem dX1_doOrder_62 : decode cX1_doOrder 62 = .ok (.getfield 15, 3) := by decide +kernel
theorem dX1_doOrder_65 : decode cX1_doOrder 65 = .ok (.iconst 2, 1) := by decide +kernel
theorem dX1_doOrder_66 : decode cX1_doOrder 66 = .ok (.iaload, 1) := by decide +kernel
theorem dX1_doOrder_67 : decode cX1_doOrder 67 = .ok (.aload_n 0, 1) := by decide +kernel
theorem dX1_doOrder_68 : decode cX1_doOrder 68 = .ok (.getfield 15, 3) := by decide +kernel
theorem dX1_doOrder_71 : decode cX1_doOrder 71 = .ok (.iconst 3, 1) := by decide +kernel
theorem dX1_doOrder_72 : decode cX1_doOrder 72 = .ok (.iaload, 1) := by decide +kernel
theorem dX1_doOrder_73 : decode cX1_doOrder 73 = .ok (.invokevirtual 59, 3) := by decide +kernel
theorem dX1_doOrder_76 : decode cX1_doOrder 76 = .ok (.ireturn, 1) := by decide +kernel
theorem dX1_doOrder_77 : decode cX1_doOrder 77 = .ok (.aload_n 1, 1) := by decide +kernel
theorem dX1_doOrder_78 : decode cX1_doOrder 78 = .ok (.aload_n 0, 1) := by decide +kernel
theorem dX1_doOrder_79 : decode cX1_doOrder 79 = .ok (.getfield 15, 3) := by decide +kernel
theorem dX1_doOrder_82 : decode cX1_doOrder 82 = .ok (.iconst 0, 1) := by decide +kernel
theorem dX1_doOrder_83 : decode cX1_doOrder 83 = .ok (.iaload, 1) := by decide +kernel
theorem dX1_doOrder_84 : decode cX1_doOrder 84 = .ok (.invokevirtual 65, 3) := by decide +kernel
theorem dX1_doOrder_87 : decode cX1_doOrder 87 = .ok (.ireturn, 1) := by decide +kernel
theorem dX1_doOrder_88 : decode cX1_doOrder 88 = .ok (.aload_n 1, 1) := by decide +kernel
theorem dX1_doOrder_89 : decode cX1_doOrder 89 = .ok (.aload_n 0, 1) := by decide +kernel
theorem dX1_doOrder_90 : decode cX1_doOrder 90 = .ok (.getfield 15, 3) := by decide +kernel
theorem dX1_doOrder_93 : decode cX1_doOrder 93 = .ok (.iconst 0, 1) := by decide +kernel
theorem dX1_doOrder_94 : decode cX1_doOrder 94 = .ok (.iaload, 1) := by decide +kernel
theorem dX1_doOrder_95 : decode cX1_doOrder 95 = .ok (.invokevirtual 69, 3) := by decide +kernel
theorem dX1_doOrder_98 : decode cX1_doOrder 98 = .ok (.ireturn, 1) := by decide +kernel
theorem dX1_doOrder_99 : decode cX1_doOrder 99 = .ok (.aload_n 1, 1) := by decide +kernel
theorem dX1_doOrder_100 : decode cX1_doOrder 100 = .ok (.aload_n 0, 1) := by decide +kernel
theorem dX1_doOrder_101 : decode cX1_doOrder 101 = .ok (.getfield 15, 3) := by decide +kernel
theorem dX1_doOrder_104 : decode cX1_doOrder 104 = .ok (.iconst 0, 1) := by decide +kernel
theorem dX1_doOrder_105 : decode cX1_doOrder 105 = .ok (.iaload, 1) := by decide +kernel
theorem dX1_doOrder_106 : decode cX1_doOrder 106 = .ok (.aload_n 0, 1) := by decide +kernel
theorem dX1_doOrder_107 : decode cX1_doOrder 107 = .ok (.getfield 15, 3) := by decide +kernel
theorem dX1_doOrder_110 : decode cX1_doOrder 110 = .ok (.iconst 1, 1) := by decide +kernel
theorem dX1_doOrder_111 : decode cX1_doOrder 111 = .ok (.iaload, 1) := by decide +kernel
theorem dX1_doOrder_112 : decode cX1_doOrder 112 = .ok (.invokevirtual 72, 3) := by decide +kernel
theorem dX1_doOrder_115 : decode cX1_doOrder 115 = .ok (.ireturn, 1) := by decide +kernel
theorem dX1_doOrder_116 : decode cX1_doOrder 116 = .ok (.aload_n 1, 1) := by decide +kernel
theorem dX1_doOrder_117 : decode cX1_doOrder 117 = .ok (.aload_n 0, 1) := by decide +kernel
theorem dX1_doOrder_118 : decode cX1_doOrder 118 = .ok (.getfield 15, 3) := by decide +kernel
theorem dX1_doOrder_121 : decode cX1_doOrder 121 = .ok (.iconst 0, 1) := by decide +kernel
theorem dX1_doOrder_122 : decode cX1_doOrder 122 = .ok (.iaload, 1) := by decide +kernel
theorem dX1_doOrder_123 : decode cX1_doOrder 123 = .ok (.aload_n 0, 1) := by decide +kernel
theorem dX1_doOrder_124 : decode cX1_doOrder 124 = .ok (.getfield 15, 3) := by decide +kernel
theorem dX1_doOrder_127 : decode cX1_doOrder 127 = .ok (.iconst 1, 1) := by decide +kernel
theorem dX1_doOrder_128 : decode cX1_doOrder 128 = .ok (.iaload, 1) := by decide +kernel
theorem dX1_doOrder_129 : decode cX1_doOrder 129 = .ok (.invokevirtual 76, 3) := by decide +kernel
theorem dX1_doOrder_132 : decode cX1_doOrder 132 = .ok (.ireturn, 1) := by decide +kernel
theorem dX1_doOrder_133 : decode cX1_doOrder 133 = .ok (.aload_n 1, 1) := by decide +kernel
theorem dX1_doOrder_134 : decode cX1_doOrder 134 = .ok (.aload_n 0, 1) := by decide +kernel
theorem dX1_doOrder_135 : decode cX1_doOrder 135 = .ok (.getfield 15, 3) := by decide +kernel
theorem dX1_doOrder_138 : decode cX1_doOrder 138 = .ok (.iconst 0, 1) := by decide +kernel
theorem dX1_doOrder_139 : decode cX1_doOrder 139 = .ok (.iaload, 1) := by decide +kernel
theorem dX1_doOrder_140 : decode cX1_doOrder 140 = .ok (.invokevirtual 79, 3) := by decide +kernel
theorem dX1_doOrder_143 : decode cX1_doOrder 143 = .ok (.ireturn, 1) := by decide +kernel
theorem dX2_init_0 : decode cX2_init 0 = .ok (.aload_n 0, 1) := by decide +kernel
theorem dX2_init_1 : decode cX2_init 1 = .ok (.invokespecial 3, 3) := by decide +kernel
theorem dX2_init_4 : decode cX2_init 4 = .ok (.aload_n 0, 1) := by decide +kernel
theorem dX2_init_5 : decode cX2_init 5 = .ok (.bipush 10, 2) := by decide +kernel
theorem dX2_init_7 : decode cX2_init 7 = .ok (.anewarray 9, 3) := by decide +kernel
theorem dX2_init_10 : decode cX2_init 10 = .ok (.putfield 11, 3) := by decide +kernel
theorem dX2_init_13 : decode cX2_init 13 = .ok (.aload_n 0, 1) := by decide +kernel
theorem dX2_init_14 : decode cX2_init 14 = .ok (.iconst 5, 1) := by decide +kernel
theorem dX2_init_15 : decode cX2_init 15 = .ok (.newarray .int, 2) := by decide +kernel
theorem dX2_init_17 : decode cX2_init 17 = .ok (.putfield 17, 3) := by decide +kernel
theorem dX2_init_20 : decode cX2_init 20 = .ok (.aload_n 0, 1) := by decide +kernel
theorem dX2_init_21 : decode cX2_init 21 = .ok (.iconst 5, 1) := by decide +kernel
theorem dX2_init_22 : decode cX2_init 22 = .ok (.newarray .int, 2) := by decide +kernel
theorem dX2_init_24 : decode cX2_init 24 = .ok (.putfield 21, 3) := by decide +kernel
theorem dX2_init_27 : decode cX2_init 27 = .ok (.aload_n 0, 1) := by decide +kernel
theorem dX2_init_28 : decode cX2_init 28 = .ok (.iconst 0, 1) := by decide +kernel
theorem dX2_init_29 : decode cX2_init 29 = .ok (.putfield 24, 3) := by decide +kernel
theorem dX2_init_32 : decode cX2_init 32 = .ok (.aload_n 0, 1) := by decide +kernel
theorem dX2_init_33 : decode cX2_init 33 = .ok (.iconst 0, 1) := by decide +kernel
theorem dX2_init_34 : decode cX2_init 34 = .ok (.putfield 28, 3) := by decide +kernel
theorem dX2_init_37 : decode cX2_init 37 = .ok (.aload_n 0, 1) := by decide +kernel
theorem dX2_init_38 : decode cX2_init 38 = .ok (.iconst 0, 1) := by decide +kernel
theorem dX2_init_39 : decode cX2_init 39 = .ok (.putfield 31, 3) := by decide +kernel
theorem dX2_init_42 : decode cX2_init 42 = .ok (.aload_n 0, 1) := by decide +kernel
theorem dX2_init_43 : decode cX2_init 43 = .ok (.iconst 0, 1) := by decide +kernel
theorem dX2_init_44 : decode cX2_init 44 = .ok (.putfield 34, 3) := by decide +kernel
theorem dX2_init_47 : decode cX2_init 47 = .ok (.aload_n 0, 1) := by decide +kernel
theorem dX2_init_48 : decode cX2_init 48 = .ok (.bipush 56, 2) := by decide +kernel
theorem dX2_init_50 : decode cX2_init 50 = .ok (.putfield 37, 3) := by decide +kernel
theorem dX2_init_53 : decode cX2_init 53 = .ok (.aload_n 0, 1) := by decide +kernel
theorem dX2_init_54 : decode cX2_init 54 = .ok (.bipush 100, 2) := by decide +kernel
theorem dX2_init_56 : decode cX2_init 56 = .ok (.putfield 40, 3) := by decide +kernel
theorem dX2_init_59 : decode cX2_init 59 = .ok (.iconst 0, 1) := by decide +kernel
theorem dX2_init_60 : decode cX2_init 60 = .ok (.istore_n 1, 1) := by decide +kernel
theorem dX2_init_61 : decode cX2_init 61 = .ok (.iload_n 1, 1) := by decide +kernel
theorem dX2_init_62 : decode cX2_init 62 = .ok (.bipush 10, 2) := by decide +kernel
theorem dX2_init_64 : decode cX2_init 64 = .ok (.if_icmp .ge 22, 3) := by decide +kernel
theorem dX2_init_67 : decode cX2_init 67 = .ok (.aload_n 0, 1) := by decide +kernel
theorem dX2_init_68 : decode cX2_init 68 = .ok (.getfield 11, 3) := by decide +kernel
theorem dX2_init_71 : decode cX2_init 71 = .ok (.iload_n 1, 1) := by decide +kernel
theorem dX2_init_72 : decode cX2_init 72 = .ok (.new 9, 3) := by decide +kernel
theorem dX2_init_75 : decode cX2_init 75 = .ok (.dup, 1) := by decide +kernel
theorem dX2_init_76 : decode cX2_init 76 = .ok (.invokespecial 43, 3) := by decide +kernel
theorem dX2_init_79 : decode cX2_init 79 = .ok (.aastore, 1) := by decide +kernel
theorem dX2_init_80 : decode cX2_init 80 = .ok (.iinc 1 1, 3) := by decide +kernel
theorem dX2_init_83 : decode cX2_init 83 = .ok (.goto (-22), 3) := by decide +kernel
theorem dX2_init_86 : decode cX2_init 86 = .ok (.iconst 0, 1) := by decide +kernel
theorem dX2_init_87 : decode cX2_init 87 = .ok (.istore_n 1, 1) := by decide +kernel
theorem dX2_init_88 : decode cX2_init 88 = .ok (.iload_n 1, 1) := by decide +kernel
theorem dX2_init_89 : decode cX2_init 89 = .ok (.iconst 5, 1) := by decide +kernel
theorem dX2_init_90 : decode cX2_init 90 = .ok (.if_icmp .ge 23, 3) := by decide +kernel
theorem dX2_init_93 : decode cX2_init 93 = .ok (.aload_n 0, 1) := by decide +kernel
theorem dX2_init_94 : decode cX2_init 94 = .ok (.getfield 17, 3) := by decide +kernel
theorem dX2_init_97 : decode cX2_init 97 = .ok (.iload_n 1, 1) := by decide +kernel
theorem dX2_init_98 : decode cX2_init 98 = .ok (.iconst (-1), 1) := by decide +kernel
theorem dX2_init_99 : decode cX2_init 99 = .ok (.iastore, 1) := by decide +kernel
theorem dX2_init_100 : decode cX2_init 100 = .ok (.aload_n 0, 1) := by decide +kernel
theorem dX2_init_101 : decode cX2_init 101 = .ok (.getfield 21, 3) := by decide +kernel
theorem dX2_init_104 : decode cX2_init 104 = .ok (.iload_n 1, 1) := by decide +kernel
theorem dX2_init_105 : decode cX2_init 105 = .ok (.iconst (-1), 1) := by decide +kernel
theorem dX2_init_106 : decode cX2_init 106 = .ok (.iastore, 1) := by decide +kernel
theorem dX2_init_107 : decode cX2_init 107 = .ok (.iinc 1 1, 3) := by decide +kernel
theorem dX2_init_110 : decode cX2_init 110 = .ok (.goto (-22), 3) := by decide +kernel
theorem dX2_init_113 : decode cX2_init 113 = .ok (.return_, 1) := by decide +kernel
theorem dX2_copyFrom_0 : decode cX2_copyFrom 0 = .ok (.aload_n 0, 1) := by decide +kernel
theorem dX2_copyFrom_1 : decode cX2_copyFrom 1 = .ok (.aload_n 1, 1) := by decide +kernel
theorem dX2_copyFrom_2 : decode cX2_copyFrom 2 = .ok (.getfield 24, 3) := by decide +kernel
theorem dX2_copyFrom_5 : decode cX2_copyFrom 5 = .ok (.putfield 24, 3) := by decide +kernel
theorem dX2_copyFrom_8 : decode cX2_copyFrom 8 = .ok (.iconst 0, 1) := by decide +kernel
theorem dX2_copyFrom_9 : decode cX2_copyFrom 9 = .ok (.istore_n 2, 1) := by decide +kernel
theorem dX2_copyFrom_10 : decode cX2_copyFrom 10 = .ok (.iload_n 2, 1) := by decide +kernel
theorem dX2_copyFrom_11 : decode cX2_copyFrom 11 = .ok (.aload_n 0, 1) := by decide +kernel
theorem dX2_copyFrom_12 : decode cX2_copyFrom 12 = .ok (.getfield 24, 3) := by decide +kernel
theorem dX2_copyFrom_15 : decode cX2_copyFrom 15 = .ok (.if_icmp .ge 24, 3) := by decide +kernel
theorem dX2_copyFrom_18 : decode cX2_copyFrom 18 = .ok (.aload_n 0, 1) := by decide +kernel
theorem dX2_copyFrom_19 : decode cX2_copyFrom 19 = .ok (.getfield 11, 3) := by decide +kernel
theorem dX2_copyFrom_22 : decode cX2_copyFrom 22 = .ok (.iload_n 2, 1) := by decide +kernel
theorem dX2_copyFrom_23 : decode cX2_copyFrom 23 = .ok (.aaload, 1) := by decide +kernel
theorem dX2_copyFrom_24 : decode cX2_copyFrom 24 = .ok (.aload_n 1, 1) := by decide +kernel
theorem dX2_copyFrom_25 : decode cX2_copyFrom 25 = .ok (.getfield 11, 3) := by decide +kernel
theorem dX2_copyFrom_28 : decode cX2_copyFrom 28 = .ok (.iload_n 2, 1) := by decide +kernel
theorem dX2_copyFrom_29 : decode cX2_copyFrom 29 = .ok (.aaload, 1) := by decide +kernel
theorem dX2_copyFrom_30 : decode cX2_copyFrom 30 = .ok (.invokevirtual 44, 3) := by decide +kernel
theorem dX2_copyFrom_33 : decode cX2_copyFrom 33 = .ok (.iinc 2 1, 3) := by decide +kernel
theorem dX2_copyFrom_36 : decode cX2_copyFrom 36 = .ok (.goto (-26), 3) := by decide +kernel
theorem dX2_copyFrom_39 : decode cX2_copyFrom 39 = .ok (.iconst 0, 1) := by decide +kernel
theorem dX2_copyFrom_40 : decode cX2_copyFrom 40 = .ok (.istore_n 2, 1) := by decide +kernel
theorem dX2_copyFrom_41 : decode cX2_copyFrom 41 = .ok (.iload_n 2, 1) := by decide +kernel
theorem dX2_copyFrom_42 : decode cX2_copyFrom 42 = .ok (.iconst 5, 1) := by decide +kernel
theorem dX2_copyFrom_43 : decode cX2_copyFrom 43 = .ok (.if_icmp .ge 33, 3) := by decide +kernel
theorem dX2_copyFrom_46 : decode cX2_copyFrom 46 = .ok (.aload_n 0, 1) := by decide +kernel
theorem dX2_copyFrom_47 : decode cX2_copyFrom 47 = .ok (.getfield 17, 3) := by decide +kernel
theorem dX2_copyFrom_50 : decode cX2_copyFrom 50 = .ok (.iload_n 2, 1) := by decide +kernel
theorem dX2_copyFrom_51 : decode cX2_copyFrom 51 = .ok (.aload_n 1, 1) := by decide +kernel
theorem dX2_copyFrom_52 : decode cX2_copyFrom 52 = .ok (.getfield 17, 3) := by decide +kernel
theorem dX2_copyFrom_55 : decode cX2_copyFrom 55 = .ok (.iload_n 2, 1) := by decide +kernel
theorem dX2_copyFrom_56 : decode cX2_copyFrom 56 = .ok (.iaload, 1) := by decide +kernel
theorem dX2_copyFrom_57 : decode cX2_copyFrom 57 = .ok (.iastore, 1) := by decide +kernel
theorem dX2_copyFrom_58 : decode cX2_copyFrom 58 = .ok (.aload_n 0, 1) := by decide +kernel
theorem dX2_copyFrom_59 : decode cX2_copyFrom 59 = .ok (.getfield 21, 3) := by decide +kernel
theorem dX2_copyFrom_62 : decode cX2_copyFrom 62 = .ok (.iload_n 2, 1) := by decide +kernel
theorem dX2_copyFrom_63 : decode cX2_copyFrom 63 = .ok (.aload_n 1, 1) := by decide +kernel
theorem dX2_copyFrom_64 : decode cX2_copyFrom 64 = .ok (.getfield 21, 3) := by decide +kernel
theorem dX2_copyFrom_67 : decode cX2_copyFrom 67 = .ok (.iload_n 2, 1) := by decide +kernel
theorem dX2_copyFrom_68 : decode cX2_copyFrom 68 = .ok (.iaload, 1) := by decide +kernel
theorem dX2_copyFrom_69 : decode cX2_copyFrom 69 = .ok (.iastore, 1) := by decide +kernel
theorem dX2_copyFrom_70 : decode cX2_copyFrom 70 = .ok (.iinc 2 1, 3) := by decide +kernel
theorem dX2_copyFrom_73 : decode cX2_copyFrom 73 = .ok (.goto (-32), 3) := by decide +kernel
theorem dX2_copyFrom_76 : decode cX2_copyFrom 76 = .ok (.aload_n 0, 1) := by decide +kernel
theorem dX2_copyFrom_77 : decode cX2_copyFrom 77 = .ok (.aload_n 1, 1) := by decide +kernel
theorem dX2_copyFrom_78 : decode cX2_copyFrom 78 = .ok (.getfield 28, 3) := by decide +kernel
theorem dX2_copyFrom_81 : decode cX2_copyFrom 81 = .ok (.putfield 28, 3) := by decide +kernel
theorem dX2_copyFrom_84 : decode cX2_copyFrom 84 = .ok (.aload_n 0, 1) := by decide +kernel
theorem dX2_copyFrom_85 : decode cX2_copyFrom 85 = .ok (.aload_n 1, 1) := by decide +kernel
theorem dX2_copyFrom_86 : decode cX2_copyFrom 86 = .ok (.getfield 31, 3) := by decide +kernel
theorem dX2_copyFrom_89 : decode cX2_copyFrom 89 = .ok (.putfield 31, 3) := by decide +kernel
theorem dX2_copyFrom_92 : decode cX2_copyFrom 92 = .ok (.aload_n 0, 1) := by decide +kernel
theorem dX2_copyFrom_93 : decode cX2_copyFrom 93 = .ok (.aload_n 1, 1) := by decide +kernel
theorem dX2_copyFrom_94 : decode cX2_copyFrom 94 = .ok (.getfield 34, 3) := by decide +kernel
theorem dX2_copyFrom_97 : decode cX2_copyFrom 97 = .ok (.putfield 34, 3) := by decide +kernel
theorem dX2_copyFrom_100 : decode cX2_copyFrom 100 = .ok (.aload_n 0, 1) := by decide +kernel
theorem dX2_copyFrom_101 : decode cX2_copyFrom 101 = .ok (.aload_n 1, 1) := by decide +kernel
theorem dX2_copyFrom_102 : decode cX2_copyFrom 102 = .ok (.getfield 37, 3) := by decide +kernel
theorem dX2_copyFrom_105 : decode cX2_copyFrom 105 = .ok (.putfield 37, 3) := by decide +kernel
theorem dX2_copyFrom_108 : decode cX2_copyFrom 108 = .ok (.aload_n 0, 1) := by decide +kernel
theorem dX2_copyFrom_109 : decode cX2_copyFrom 109 = .ok (.aload_n 1, 1) := by decide +kernel
theorem dX2_copyFrom_110 : decode cX2_copyFrom 110 = .ok (.getfield 40, 3) := by decide +kernel
theorem dX2_copyFrom_113 : decode cX2_copyFrom 113 = .ok (.putfield 40, 3) := by decide +kernel
theorem dX2_copyFrom_116 : decode cX2_copyFrom 116 = .ok (.return_, 1) := by decide +kernel
theorem dX2_hasCondition_0 : decode cX2_hasCondition 0 = .ok (.iload_n 1, 1) := by decide +kernel
theorem dX2_hasCondition_1 : decode cX2_hasCondition 1 = .ok (.ifCond .lt 15, 3) := by decide +kernel
theorem dX2_hasCondition_4 : decode cX2_hasCondition 4 = .ok (.iload_n 1, 1) := by decide +kernel
theorem dX2_hasCondition_5 : decode cX2_hasCondition 5 = .ok (.aload_n 0, 1) := by decide +kernel
theorem dX2_hasCondition_6 : decode cX2_hasCondition 6 = .ok (.getfield 24, 3) := by decide +kernel
theorem dX2_hasCondition_9 : decode cX2_hasCondition 9 = .ok (.if_icmp .ge 7, 3) := by decide +kernel
theorem dX2_hasCondition_12 : decode cX2_hasCondition 12 = .ok (.iconst 1, 1) := by decide +kernel
theorem dX2_hasCondition_13 : decode cX2_hasCondition 13 = .ok (.goto 4, 3) := by decide +kernel
theorem dX2_hasCondition_16 : decode cX2_hasCondition 16 = .ok (.iconst 0, 1) := by decide +kernel
theorem dX2_hasCondition_17 : decode cX2_hasCondition 17 = .ok (.ireturn, 1) := by decide +kernel
theorem dX2_isBegun_0 : decode cX2_isBegun 0 = .ok (.iload_n 1, 1) := by decide +kernel
theorem dX2_isBegun_1 : decode cX2_isBegun 1 = .ok (.iconst 0, 1) := by decide +kernel
theorem dX2_isBegun_2 : decode cX2_isBegun 2 = .ok (.iconst 4, 1) := by decide +kernel
theorem dX2_isBegun_3 : decode cX2_isBegun 3 = .ok (.invokestatic 48, 3) := by decide +kernel
theorem dX2_isBegun_6 : decode cX2_isBegun 6 = .ok (.ifCond .eq 17, 3) := by decide +kernel
theorem dX2_isBegun_9 : decode cX2_isBegun 9 = .ok (.aload_n 0, 1) := by decide +kernel
theorem dX2_isBegun_10 : decode cX2_isBegun 10 = .ok (.getfield 17, 3) := by decide +kernel
theorem dX2_isBegun_13 : decode cX2_isBegun 13 = .ok (.iload_n 1, 1) := by decide +kernel
theorem dX2_isBegun_14 : decode cX2_isBegun 14 = .ok (.iaload, 1) := by decide +kernel
theorem dX2_isBegun_15 : decode cX2_isBegun 15 = .ok (.iconst (-1), 1) := by decide +kernel
theorem dX2_isBegun_16 : decode cX2_isBegun 16 = .ok (.if_icmp .eq 7, 3) := by decide +kernel
theorem dX2_isBegun_19 : decode cX2_isBegun 19 = .ok (.iconst 1, 1) := by decide +kernel
theorem dX2_isBegun_20 : decode cX2_isBegun 20 = .ok (.goto 4, 3) := by decide +kernel
theorem dX2_isBegun_23 : decode cX2_isBegun 23 = .ok (.iconst 0, 1) := by decide +kernel
theorem dX2_isBegun_24 : decode cX2_isBegun 24 = .ok (.ireturn, 1) := by decide +kernel
theorem dX2_isFinished_0 : decode cX2_isFinished 0 = .ok (.iload_n 1, 1) := by decide +kernel
theorem dX2_isFinished_1 : decode cX2_isFinished 1 = .ok (.iconst 0, 1) := by decide +kernel
theorem dX2_isFinished_2 : decode cX2_isFinished 2 = .ok (.iconst 4, 1) := by decide +kernel
theorem dX2_isFinished_3 : decode cX2_isFinished 3 = .ok (.invokestatic 48, 3) := by decide +kernel
theorem dX2_isFinished_6 : decode cX2_isFinished 6 = .ok (.ifCond .eq 17, 3) := by decide +kernel
theorem dX2_isFinished_9 : decode cX2_isFinished 9 = .ok (.aload_n 0, 1) := by decide +kernel
theorem dX2_isFinished_10 : decode cX2_isFinished 10 = .ok (.getfield 21, 3) := by decide +kernel
theorem dX2_isFinished_13 : decode cX2_isFinished 13 = .ok (.iload_n 1, 1) := by decide +kernel
theorem dX2_isFinished_14 : decode cX2_isFinished 14 = .ok (.iaload, 1) := by decide +kernel
theorem dX2_isFinished_15 : decode cX2_isFinished 15 = .ok (.iconst (-1), 1) := by decide +kernel
theorem dX2_isFinished_16 : decode cX2_isFinished 16 = .ok (.if_icmp .eq 7, 3) := by decide +kernel
theorem dX2_isFinished_19 : decode cX2_isFinished 19 = .ok (.iconst 1, 1) := by decide +kernel
theorem dX2_isFinished_20 : decode cX2_isFinished 20 = .ok (.goto 4, 3) := by decide +kernel
theorem dX2_isFinished_23 : decode cX2_isFinished 23 = .ok (.iconst 0, 1) := by decide +kernel
theorem dX2_isFinished_24 : decode cX2_isFinished 24 = .ok (.ireturn, 1) := by decide +kernel
theorem dX2_canBegin_0 : decode cX2_canBegin 0 = .ok (.aload_n 0, 1) := by decide +kernel
theorem dX2_canBegin_1 : decode cX2_canBegin 1 = .ok (.iload_n 1, 1) := by decide +kernel
theorem dX2_canBegin_2 : decode cX2_canBegin 2 = .ok (.invokevirtual 52, 3) := by decide +kernel
theorem dX2_canBegin_5 : decode cX2_canBegin 5 = .ok (.ifCond .ne 21, 3) := by decide +kernel
theorem dX2_canBegin_8 : decode cX2_canBegin 8 = .ok (.iload_n 1, 1) := by decide +kernel
theorem dX2_canBegin_9 : decode cX2_canBegin 9 = .ok (.ifCond .eq 13, 3) := by decide +kernel
theorem dX2_canBegin_12 : decode cX2_canBegin 12 = .ok (.aload_n 0, 1) := by decide +kernel
theorem dX2_canBegin_13 : decode cX2_canBegin 13 = .ok (.iload_n 1, 1) := by decide +kernel
theorem dX2_canBegin_14 : decode cX2_canBegin 14 = .ok (.iconst 1, 1) := by decide +kernel
theorem dX2_canBegin_15 : decode cX2_canBegin 15 = .ok (.isub, 1) := by decide +kernel
theorem dX2_canBegin_16 : decode cX2_canBegin 16 = .ok (.invokevirtual 52, 3) := by decide +kernel
theorem dX2_canBegin_19 : decode cX2_canBegin 19 = .ok (.ifCond .eq 7, 3) := by decide +kernel
theorem dX2_canBegin_22 : decode cX2_canBegin 22 = .ok (.iconst 1, 1) := by decide +kernel
theorem dX2_canBegin_23 : decode cX2_canBegin 23 = .ok (.goto 4, 3) := by decide +kernel
theorem dX2_canBegin_26 : decode cX2_canBegin 26 = .ok (.iconst 0, 1) := by decide +kernel
theorem dX2_canBegin_27 : decode cX2_canBegin 27 = .ok (.ireturn, 1) := by decide +kernel
theorem dX2_progressOf_0 : decode cX2_progressOf 0 = .ok (.aload_n 0, 1) := by decide +kernel
theorem dX2_progressOf_1 : decode cX2_progressOf 1 = .ok (.iload_n 1, 1) := by decide +kernel
theorem dX2_progressOf_2 : decode cX2_progressOf 2 = .ok (.invokevirtual 56, 3) := by decide +kernel
theorem dX2_progressOf_5 : decode cX2_progressOf 5 = .ok (.ifCond .eq 5, 3) := by decide +kernel
theorem dX2_progressOf_8 : decode cX2_progressOf 8 = .ok (.iconst 2, 1) := by decide +kernel
theorem dX2_progressOf_9 : decode cX2_progressOf 9 = .ok (.ireturn, 1) := by decide +kernel
theorem dX2_progressOf_10 : decode cX2_progressOf 10 = .ok (.aload_n 0, 1) := by decide +kernel
theorem dX2_progressOf_11 : decode cX2_progressOf 11 = .ok (.iload_n 1, 1) := by decide +kernel
theorem dX2_progressOf_12 : decode cX2_progressOf 12 = .ok (.invokevirtual 52, 3) := by decide +kernel
theorem dX2_progressOf_15 : decode cX2_progressOf 15 = .ok (.ifCond .eq 7, 3) := by decide +kernel
theorem dX2_progressOf_18 : decode cX2_progressOf 18 = .ok (.iconst 1, 1) := by decide +kernel
theorem dX2_progressOf_19 : decode cX2_progressOf 19 = .ok (.goto 4, 3) := by decide +kernel
theorem dX2_progressOf_22 : decode cX2_progressOf 22 = .ok (.iconst 0, 1) := by decide +kernel
theorem dX2_progressOf_23 : decode cX2_progressOf 23 = .ok (.ireturn, 1) := by decide +kernel
theorem dX2_stateOf_0 : decode cX2_stateOf 0 = .ok (.aload_n 1, 1) := by decide +kernel
theorem dX2_stateOf_1 : decode cX2_stateOf 1 = .ok (.getfield 59, 3) := by decide +kernel
theorem dX2_stateOf_4 : decode cX2_stateOf 4 = .ok (.ifCond .eq 5, 3) := by decide +kernel
theorem dX2_stateOf_7 : decode cX2_stateOf 7 = .ok (.iconst 4, 1) := by decide +kernel
theorem dX2_stateOf_8 : decode cX2_stateOf 8 = .ok (.ireturn, 1) := by decide +kernel
theorem dX2_stateOf_9 : decode cX2_stateOf 9 = .ok (.aload_n 1, 1) := by decide +kernel
theorem dX2_stateOf_10 : decode cX2_stateOf 10 = .ok (.getfield 63, 3) := by decide +kernel
theorem dX2_stateOf_13 : decode cX2_stateOf 13 = .ok (.ifCond .eq 5, 3) := by decide +kernel
theorem dX2_stateOf_16 : decode cX2_stateOf 16 = .ok (.iconst 3, 1) := by decide +kernel
theorem dX2_stateOf_17 : decode cX2_stateOf 17 = .ok (.ireturn, 1) := by decide +kernel
theorem dX2_stateOf_18 : decode cX2_stateOf 18 = .ok (.aload_n 1, 1) := by decide +kernel
theorem dX2_stateOf_19 : decode cX2_stateOf 19 = .ok (.invokevirtual 66, 3) := by decide +kernel
theorem dX2_stateOf_22 : decode cX2_stateOf 22 = .ok (.ifCond .eq 5, 3) := by decide +kernel
theorem dX2_stateOf_25 : decode cX2_stateOf 25 = .ok (.iconst 2, 1) := by decide +kernel
theorem dX2_stateOf_26 : decode cX2_stateOf 26 = .ok (.ireturn, 1) := by decide +kernel
theorem dX2_stateOf_27 : decode cX2_stateOf 27 = .ok (.aload_n 1, 1) := by decide +kernel
theorem dX2_stateOf_28 : decode cX2_stateOf 28 = .ok (.getfield 70, 3) := by decide +kernel
theorem dX2_stateOf_31 : decode cX2_stateOf 31 = .ok (.iconst 1, 1) := by decide +kernel
theorem dX2_stateOf_32 : decode cX2_stateOf 32 = .ok (.if_icmp .ne 16, 3) := by decide +kernel
theorem dX2_stateOf_35 : decode cX2_stateOf 35 = .ok (.aload_n 0, 1) := by decide +kernel
theorem dX2_stateOf_36 : decode cX2_stateOf 36 = .ok (.aload_n 1, 1) := by decide +kernel
theorem dX2_stateOf_37 : decode cX2_stateOf 37 = .ok (.getfield 73, 3) := by decide +kernel
theorem dX2_stateOf_40 : decode cX2_stateOf 40 = .ok (.invokevirtual 52, 3) := by decide +kernel
theorem dX2_stateOf_43 : decode cX2_stateOf 43 = .ok (.ifCond .ne 5, 3) := by decide +kernel
theorem dX2_stateOf_46 : decode cX2_stateOf 46 = .ok (.iconst 0, 1) := by decide +kernel
theorem dX2_stateOf_47 : decode cX2_stateOf 47 = .ok (.ireturn, 1) := by decide +kernel
theorem dX2_stateOf_48 : decode cX2_stateOf 48 = .ok (.aload_n 1, 1) := by decide +kernel
theorem dX2_stateOf_49 : decode cX2_stateOf 49 = .ok (.getfield 70, 3) := by decide +kernel
theorem dX2_stateOf_52 : decode cX2_stateOf 52 = .ok (.iconst 2, 1) := by decide +kernel
theorem dX2_stateOf_53 : decode cX2_stateOf 53 = .ok (.if_icmp .ne 16, 3) := by decide +kernel
theorem dX2_stateOf_56 : decode cX2_stateOf 56 = .ok (.aload_n 0, 1) := by decide +kernel
theorem dX2_stateOf_57 : decode cX2_stateOf 57 = .ok (.aload_n 1, 1) := by decide +kernel
theorem dX2_stateOf_58 : decode cX2_stateOf 58 = .ok (.getfield 73, 3) := by decide +kernel
theorem dX2_stateOf_61 : decode cX2_stateOf 61 = .ok (.invokevirtual 56, 3) := by decide +kernel
theorem dX2_stateOf_64 : decode cX2_stateOf 64 = .ok (.ifCond .ne 5, 3) := by decide +kernel
theorem dX2_stateOf_67 : decode cX2_stateOf 67 = .ok (.iconst 0, 1) := by decide +kernel
theorem dX2_stateOf_68 : decode cX2_stateOf 68 = .ok (.ireturn, 1) := by decide +kernel
theorem dX2_stateOf_69 : decode cX2_stateOf 69 = .ok (.iconst 1, 1) := by decide +kernel
theorem dX2_stateOf_70 : decode cX2_stateOf 70 = .ok (.ireturn, 1) := by decide +kernel
theorem dX2_withState_0 : decode cX2_withState 0 = .ok (.iconst 0, 1) := by decide +kernel
theorem dX2_withState_1 : decode cX2_withState 1 = .ok (.istore_n 2, 1) := by decide +kernel
theorem dX2_withState_2 : decode cX2_withState 2 = .ok (.iconst 0, 1) := by decide +kernel
theorem dX2_withState_3 : decode cX2_withState 3 = .ok (.istore_n 3, 1) := by decide +kernel
theorem dX2_withState_4 : decode cX2_withState 4 = .ok (.iload_n 3, 1) := by decide +kernel
theorem dX2_withState_5 : decode cX2_withState 5 = .ok (.aload_n 0, 1) := by decide +kernel
theorem dX2_withState_6 : decode cX2_withState 6 = .ok (.getfield 24, 3) := by decide +kernel
theorem dX2_withState_9 : decode cX2_withState 9 = .ok (.if_icmp .ge 29, 3) := by decide +kernel
theorem dX2_withState_12 : decode cX2_withState 12 = .ok (.aload_n 0, 1) := by decide +kernel
theorem dX2_withState_13 : decode cX2_withState 13 = .ok (.aload_n 0, 1) := by decide +kernel
theorem dX2_withState_14 : decode cX2_withState 14 = .ok (.getfield 11, 3) := by decide +kernel
theorem dX2_withState_17 : decode cX2_withState 17 = .ok (.iload_n 3, 1) := by decide +kernel
theorem dX2_withState_18 : decode cX2_withState 18 = .ok (.aaload, 1) := by decide +kernel
theorem dX2_withState_19 : decode cX2_withState 19 = .ok (.invokevirtual 76, 3) := by decide +kernel
theorem dX2_withState_22 : decode cX2_withState 22 = .ok (.iload_n 1, 1) := by decide +kernel
theorem dX2_withState_23 : decode cX2_withState 23 = .ok (.if_icmp .ne 9, 3) := by decide +kernel
theorem dX2_withState_26 : decode cX2_withState 26 = .ok (.iload_n 2, 1) := by decide +kernel
theorem dX2_withState_27 : decode cX2_withState 27 = .ok (.iconst 1, 1) := by decide +kernel
theorem dX2_withState_28 : decode cX2_withState 28 = .ok (.iload_n 3, 1) := by decide +kernel
theorem dX2_withState_29 : decode cX2_withState 29 = .ok (.ishl, 1) := by decide +kernel
theorem dX2_withState_30 : decode cX2_withState 30 = .ok (.ior, 1) := by decide +kernel
theorem dX2_withState_31 : decode cX2_withState 31 = .ok (.istore_n 2, 1) := by decide +kernel
theorem dX2_withState_32 : decode cX2_withState 32 = .ok (.iinc 3 1, 3) := by decide +kernel
theorem dX2_withState_35 : decode cX2_withState 35 = .ok (.goto (-31), 3) := by decide +kernel
theorem dX2_withState_38 : decode cX2_withState 38 = .ok (.iload_n 2, 1) := by decide +kernel
theorem dX2_withState_39 : decode cX2_withState 39 = .ok (.ireturn, 1) := by decide +kernel
theorem dX2_unmetAhead_0 : decode cX2_unmetAhead 0 = .ok (.iconst 0, 1) := by decide +kernel
theorem dX2_unmetAhead_1 : decode cX2_unmetAhead 1 = .ok (.istore_n 2, 1) := by decide +kernel
theorem dX2_unmetAhead_2 : decode cX2_unmetAhead 2 = .ok (.iconst 0, 1) := by decide +kernel
theorem dX2_unmetAhead_3 : decode cX2_unmetAhead 3 = .ok (.istore_n 3, 1) := by decide +kernel
theorem dX2_unmetAhead_4 : decode cX2_unmetAhead 4 = .ok (.iload_n 3, 1) := by decide +kernel
theorem dX2_unmetAhead_5 : decode cX2_unmetAhead 5 = .ok (.aload_n 0, 1) := by decide +kernel
theorem dX2_unmetAhead_6 : decode cX2_unmetAhead 6 = .ok (.getfield 24, 3) := by decide +kernel
theorem dX2_unmetAhead_9 : decode cX2_unmetAhead 9 = .ok (.if_icmp .ge 48, 3) := by decide +kernel
theorem dX2_unmetAhead_12 : decode cX2_unmetAhead 12 = .ok (.aload_n 0, 1) := by decide +kernel
theorem dX2_unmetAhead_13 : decode cX2_unmetAhead 13 = .ok (.getfield 11, 3) := by decide +kernel
theorem dX2_unmetAhead_16 : decode cX2_unmetAhead 16 = .ok (.iload_n 3, 1) := by decide +kernel
theorem dX2_unmetAhead_17 : decode cX2_unmetAhead 17 = .ok (.aaload, 1) := by decide +kernel
theorem dX2_unmetAhead_18 : decode cX2_unmetAhead 18 = .ok (.astore 4, 2) := by decide +kernel
theorem dX2_unmetAhead_20 : decode cX2_unmetAhead 20 = .ok (.aload 4, 2) := by decide +kernel
theorem dX2_unmetAhead_22 : decode cX2_unmetAhead 22 = .ok (.getfield 70, 3) := by decide +kernel
theorem dX2_unmetAhead_25 : decode cX2_unmetAhead 25 = .ok (.ifCond .ne 26, 3) := by decide +kernel
theorem dX2_unmetAhead_28 : decode cX2_unmetAhead 28 = .ok (.aload 4, 2) := by decide +kernel
theorem dX2_unmetAhead_30 : decode cX2_unmetAhead 30 = .ok (.getfield 73, 3) := by decide +kernel
theorem dX2_unmetAhead_33 : decode cX2_unmetAhead 33 = .ok (.iload_n 1, 1) := by decide +kernel
theorem dX2_unmetAhead_34 : decode cX2_unmetAhead 34 = .ok (.if_icmp .ne 17, 3) := by decide +kernel
theorem dX2_unmetAhead_37 : decode cX2_unmetAhead 37 = .ok (.aload 4, 2) := by decide +kernel
theorem dX2_unmetAhead_39 : decode cX2_unmetAhead 39 = .ok (.invokevirtual 66, 3) := by decide +kernel
theorem dX2_unmetAhead_42 : decode cX2_unmetAhead 42 = .ok (.ifCond .ne 9, 3) := by decide +kernel
theorem dX2_unmetAhead_45 : decode cX2_unmetAhead 45 = .ok (.iload_n 2, 1) := by decide +kernel
theorem dX2_unmetAhead_46 : decode cX2_unmetAhead 46 = .ok (.iconst 1, 1) := by decide +kernel
theorem dX2_unmetAhead_47 : decode cX2_unmetAhead 47 = .ok (.iload_n 3, 1) := by decide +kernel
theorem dX2_unmetAhead_48 : decode cX2_unmetAhead 48 = .ok (.ishl, 1) := by decide +kernel
theorem dX2_unmetAhead_49 : decode cX2_unmetAhead 49 = .ok (.ior, 1) := by decide +kernel
theorem dX2_unmetAhead_50 : decode cX2_unmetAhead 50 = .ok (.istore_n 2, 1) := by decide +kernel
theorem dX2_unmetAhead_51 : decode cX2_unmetAhead 51 = .ok (.iinc 3 1, 3) := by decide +kernel
theorem dX2_unmetAhead_54 : decode cX2_unmetAhead 54 = .ok (.goto (-50), 3) := by decide +kernel
theorem dX2_unmetAhead_57 : decode cX2_unmetAhead 57 = .ok (.iload_n 2, 1) := by decide +kernel
theorem dX2_unmetAhead_58 : decode cX2_unmetAhead 58 = .ok (.ireturn, 1) := by decide +kernel
theorem dX2_partsOfAll_0 : decode cX2_partsOfAll 0 = .ok (.iconst 0, 1) := by decide +kernel
theorem dX2_partsOfAll_1 : decode cX2_partsOfAll 1 = .ok (.istore_n 1, 1) := by decide +kernel
theorem dX2_partsOfAll_2 : decode cX2_partsOfAll 2 = .ok (.iconst 0, 1) := by decide +kernel
theorem dX2_partsOfAll_3 : decode cX2_partsOfAll 3 = .ok (.istore_n 2, 1) := by decide +kernel
theorem dX2_partsOfAll_4 : decode cX2_partsOfAll 4 = .ok (.iload_n 2, 1) := by decide +kernel
theorem dX2_partsOfAll_5 : decode cX2_partsOfAll 5 = .ok (.aload_n 0, 1) := by decide +kernel
theorem dX2_partsOfAll_6 : decode cX2_partsOfAll 6 = .ok (.getfield 24, 3) := by decide +kernel
theorem dX2_partsOfAll_9 : decode cX2_partsOfAll 9 = .ok (.if_icmp .ge 21, 3) := by decide +kernel
theorem dX2_partsOfAll_12 : decode cX2_partsOfAll 12 = .ok (.iload_n 1, 1) := by decide +kernel
theorem dX2_partsOfAll_13 : decode cX2_partsOfAll 13 = .ok (.aload_n 0, 1) := by decide +kernel
theorem dX2_partsOfAll_14 : decode cX2_partsOfAll 14 = .ok (.getfield 11, 3) := by decide +kernel
theorem dX2_partsOfAll_17 : decode cX2_partsOfAll 17 = .ok (.iload_n 2, 1) := by decide +kernel
theorem dX2_partsOfAll_18 : decode cX2_partsOfAll 18 = .ok (.aaload, 1) := by decide +kernel
theorem dX2_partsOfAll_19 : decode cX2_partsOfAll 19 = .ok (.getfield 80, 3) := by decide +kernel
theorem dX2_partsOfAll_22 : decode cX2_partsOfAll 22 = .ok (.iadd, 1) := by decide +kernel
theorem dX2_partsOfAll_23 : decode cX2_partsOfAll 23 = .ok (.istore_n 1, 1) := by decide +kernel
theorem dX2_partsOfAll_24 : decode cX2_partsOfAll 24 = .ok (.iinc 2 1, 3) := by decide +kernel
theorem dX2_partsOfAll_27 : decode cX2_partsOfAll 27 = .ok (.goto (-23), 3) := by decide +kernel
theorem dX2_partsOfAll_30 : decode cX2_partsOfAll 30 = .ok (.iload_n 1, 1) := by decide +kernel
theorem dX2_partsOfAll_31 : decode cX2_partsOfAll 31 = .ok (.ireturn, 1) := by decide +kernel
theorem dX2_approvedOfAll_0 : decode cX2_approvedOfAll 0 = .ok (.iconst 0, 1) := by decide +kernel
theorem dX2_approvedOfAll_1 : decode cX2_approvedOfAll 1 = .ok (.istore_n 1, 1) := by decide +kernel
theorem dX2_approvedOfAll_2 : decode cX2_approvedOfAll 2 = .ok (.iconst 0, 1) := by decide +kernel
theorem dX2_approvedOfAll_3 : decode cX2_approvedOfAll 3 = .ok (.istore_n 2, 1) := by decide +kernel
theorem dX2_approvedOfAll_4 : decode cX2_approvedOfAll 4 = .ok (.iload_n 2, 1) := by decide +kernel
theorem dX2_approvedOfAll_5 : decode cX2_approvedOfAll 5 = .ok (.aload_n 0, 1) := by decide +kernel
theorem dX2_approvedOfAll_6 : decode cX2_approvedOfAll 6 = .ok (.getfield 24, 3) := by decide +kernel
theorem dX2_approvedOfAll_9 : decode cX2_approvedOfAll 9 = .ok (.if_icmp .ge 24, 3) := by decide +kernel
theorem dX2_approvedOfAll_12 : decode cX2_approvedOfAll 12 = .ok (.iload_n 1, 1) := by decide +kernel
theorem dX2_approvedOfAll_13 : decode cX2_approvedOfAll 13 = .ok (.aload_n 0, 1) := by decide +kernel
theorem dX2_approvedOfAll_14 : decode cX2_approvedOfAll 14 = .ok (.getfield 11, 3) := by decide +kernel
theorem dX2_approvedOfAll_17 : decode cX2_approvedOfAll 17 = .ok (.iload_n 2, 1) := by decide +kernel
theorem dX2_approvedOfAll_18 : decode cX2_approvedOfAll 18 = .ok (.aaload, 1) := by decide +kernel
theorem dX2_approvedOfAll_19 : decode cX2_approvedOfAll 19 = .ok (.getfield 83, 3) := by decide +kernel
theorem dX2_approvedOfAll_22 : decode cX2_approvedOfAll 22 = .ok (.invokestatic 86, 3) := by decide +kernel
theorem dX2_approvedOfAll_25 : decode cX2_approvedOfAll 25 = .ok (.iadd, 1) := by decide +kernel
theorem dX2_approvedOfAll_26 : decode cX2_approvedOfAll 26 = .ok (.istore_n 1, 1) := by decide +kernel
theorem dX2_approvedOfAll_27 : decode cX2_approvedOfAll 27 = .ok (.iinc 2 1, 3) := by decide +kernel
theorem dX2_approvedOfAll_30 : decode cX2_approvedOfAll 30 = .ok (.goto (-26), 3) := by decide +kernel
theorem dX2_approvedOfAll_33 : decode cX2_approvedOfAll 33 = .ok (.iload_n 1, 1) := by decide +kernel
theorem dX2_approvedOfAll_34 : decode cX2_approvedOfAll 34 = .ok (.ireturn, 1) := by decide +kernel
theorem dX2_addCondition_0 : decode cX2_addCondition 0 = .ok (.iload_n 1, 1) := by decide +kernel
theorem dX2_addCondition_1 : decode cX2_addCondition 1 = .ok (.iconst 0, 1) := by decide +kernel
theorem dX2_addCondition_2 : decode cX2_addCondition 2 = .ok (.iconst 2, 1) := by decide +kernel
theorem dX2_addCondition_3 : decode cX2_addCondition 3 = .ok (.invokestatic 48, 3) := by decide +kernel
theorem dX2_addCondition_6 : decode cX2_addCondition 6 = .ok (.ifCond .eq 37, 3) := by decide +kernel
theorem dX2_addCondition_9 : decode cX2_addCondition 9 = .ok (.iload_n 2, 1) := by decide +kernel
theorem dX2_addCondition_10 : decode cX2_addCondition 10 = .ok (.iconst 0, 1) := by decide +kernel
theorem dX2_addCondition_11 : decode cX2_addCondition 11 = .ok (.iconst 4, 1) := by decide +kernel
theorem dX2_addCondition_12 : decode cX2_addCondition 12 = .ok (.invokestatic 48, 3) := by decide +kernel
theorem dX2_addCondition_15 : decode cX2_addCondition 15 = .ok (.ifCond .eq 28, 3) := by decide +kernel
theorem dX2_addCondition_18 : decode cX2_addCondition 18 = .ok (.iload_n 3, 1) := by decide +kernel
theorem dX2_addCondition_19 : decode cX2_addCondition 19 = .ok (.iload_n 1, 1) := by decide +kernel
theorem dX2_addCondition_20 : decode cX2_addCondition 20 = .ok (.invokestatic 92, 3) := by decide +kernel
theorem dX2_addCondition_23 : decode cX2_addCondition 23 = .ok (.sipush 365, 3) := by decide +kernel
theorem dX2_addCondition_26 : decode cX2_addCondition 26 = .ok (.invokestatic 48, 3) := by decide +kernel
theorem dX2_addCondition_29 : decode cX2_addCondition 29 = .ok (.ifCond .eq 14, 3) := by decide +kernel
theorem dX2_addCondition_32 : decode cX2_addCondition 32 = .ok (.iload 4, 2) := by decide +kernel
theorem dX2_addCondition_34 : decode cX2_addCondition 34 = .ok (.iconst 1, 1) := by decide +kernel
theorem dX2_addCondition_35 : decode cX2_addCondition 35 = .ok (.bipush 6, 2) := by decide +kernel
theorem dX2_addCondition_37 : decode cX2_addCondition 37 = .ok (.invokestatic 48, 3) := by decide +kernel
theorem dX2_addCondition_40 : decode cX2_addCondition 40 = .ok (.ifCond .ne 6, 3) := by decide +kernel
theorem dX2_addCondition_43 : decode cX2_addCondition 43 = .ok (.ldc 95, 2) := by decide +kernel
theorem dX2_addCondition_45 : decode cX2_addCondition 45 = .ok (.ireturn, 1) := by decide +kernel
theorem dX2_addCondition_46 : decode cX2_addCondition 46 = .ok (.aload_n 0, 1) := by decide +kernel
theorem dX2_addCondition_47 : decode cX2_addCondition 47 = .ok (.iload_n 2, 1) := by decide +kernel
theorem dX2_addCondition_48 : decode cX2_addCondition 48 = .ok (.invokevirtual 52, 3) := by decide +kernel
theorem dX2_addCondition_51 : decode cX2_addCondition 51 = .ok (.ifCond .eq 6, 3) := by decide +kernel
theorem dX2_addCondition_54 : decode cX2_addCondition 54 = .ok (.ldc 96, 2) := by decide +kernel
theorem dX2_addCondition_56 : decode cX2_addCondition 56 = .ok (.ireturn, 1) := by decide +kernel
theorem dX2_addCondition_57 : decode cX2_addCondition 57 = .ok (.aload_n 0, 1) := by decide +kernel
theorem dX2_addCondition_58 : decode cX2_addCondition 58 = .ok (.getfield 24, 3) := by decide +kernel
theorem dX2_addCondition_61 : decode cX2_addCondition 61 = .ok (.bipush 10, 2) := by decide +kernel
theorem dX2_addCondition_63 : decode cX2_addCondition 63 = .ok (.if_icmp .lt 6, 3) := by decide +kernel
theorem dX2_addCondition_66 : decode cX2_addCondition 66 = .ok (.ldc 97, 2) := by decide +kernel
theorem dX2_addCondition_68 : decode cX2_addCondition 68 = .ok (.ireturn, 1) := by decide +kernel
theorem dX2_addCondition_69 : decode cX2_addCondition 69 = .ok (.aload_n 0, 1) := by decide +kernel
theorem dX2_addCondition_70 : decode cX2_addCondition 70 = .ok (.getfield 11, 3) := by decide +kernel
theorem dX2_addCondition_73 : decode cX2_addCondition 73 = .ok (.aload_n 0, 1) := by decide +kernel
theorem dX2_addCondition_74 : decode cX2_addCondition 74 = .ok (.getfield 24, 3) := by decide +kernel
theorem dX2_addCondition_77 : decode cX2_addCondition 77 = .ok (.aaload, 1) := by decide +kernel
theorem dX2_addCondition_78 : decode cX2_addCondition 78 = .ok (.iload_n 1, 1) := by decide +kernel
theorem dX2_addCondition_79 : decode cX2_addCondition 79 = .ok (.iload_n 2, 1) := by decide +kernel
theorem dX2_addCondition_80 : decode cX2_addCondition 80 = .ok (.iload_n 3, 1) := by decide +kernel
theorem dX2_addCondition_81 : decode cX2_addCondition 81 = .ok (.iload 4, 2) := by decide +kernel
theorem dX2_addCondition_83 : decode cX2_addCondition 83 = .ok (.invokevirtual 98, 3) := by decide +kernel
theorem dX2_addCondition_86 : decode cX2_addCondition 86 = .ok (.aload_n 0, 1) := by decide +kernel
theorem dX2_addCondition_87 : decode cX2_addCondition 87 = .ok (.dup, 1) := by decide +kernel
theorem dX2_addCondition_88 : decode cX2_addCondition 88 = .ok (.getfield 24, 3) := by decide +kernel
theorem dX2_addCondition_91 : decode cX2_addCondition 91 = .ok (.iconst 1, 1) := by decide +kernel
theorem dX2_addCondition_92 : decode cX2_addCondition 92 = .ok (.iadd, 1) := by decide +kernel
theorem dX2_addCondition_93 : decode cX2_addCondition 93 = .ok (.putfield 24, 3) := by decide +kernel
theorem dX2_addCondition_96 : decode cX2_addCondition 96 = .ok (.aload_n 0, 1) := by decide +kernel
theorem dX2_addCondition_97 : decode cX2_addCondition 97 = .ok (.getfield 24, 3) := by decide +kernel
theorem dX2_addCondition_100 : decode cX2_addCondition 100 = .ok (.iconst 1, 1) := by decide +kernel
theorem dX2_addCondition_101 : decode cX2_addCondition 101 = .ok (.isub, 1) := by decide +kernel
theorem dX2_addCondition_102 : decode cX2_addCondition 102 = .ok (.ireturn, 1) := by decide +kernel
theorem dX2_leastDays_0 : decode cX2_leastDays 0 = .ok (.iload_n 0, 1) := by decide +kernel
theorem dX2_leastDays_1 : decode cX2_leastDays 1 = .ok (.iconst 2, 1) := by decide +kernel
theorem dX2_leastDays_2 : decode cX2_leastDays 2 = .ok (.if_icmp .ne 7, 3) := by decide +kernel
theorem dX2_leastDays_5 : decode cX2_leastDays 5 = .ok (.iconst 1, 1) := by decide +kernel
theorem dX2_leastDays_6 : decode cX2_leastDays 6 = .ok (.goto 4, 3) := by decide +kernel
theorem dX2_leastDays_9 : decode cX2_leastDays 9 = .ok (.iconst 0, 1) := by decide +kernel
theorem dX2_leastDays_10 : decode cX2_leastDays 10 = .ok (.ireturn, 1) := by decide +kernel
theorem dX2_beginStage_0 : decode cX2_beginStage 0 = .ok (.iload_n 1, 1) := by decide +kernel
theorem dX2_beginStage_1 : decode cX2_beginStage 1 = .ok (.iconst 0, 1) := by decide +kernel
theorem dX2_beginStage_2 : decode cX2_beginStage 2 = .ok (.iconst 4, 1) := by decide +kernel
theorem dX2_beginStage_3 : decode cX2_beginStage 3 = .ok (.invokestatic 48, 3) := by decide +kernel
theorem dX2_beginStage_6 : decode cX2_beginStage 6 = .ok (.ifCond .ne 6, 3) := by decide +kernel
theorem dX2_beginStage_9 : decode cX2_beginStage 9 = .ok (.ldc 95, 2) := by decide +kernel
theorem dX2_beginStage_11 : decode cX2_beginStage 11 = .ok (.ireturn, 1) := by decide +kernel
theorem dX2_beginStage_12 : decode cX2_beginStage 12 = .ok (.aload_n 0, 1) := by decide +kernel
theorem dX2_beginStage_13 : decode cX2_beginStage 13 = .ok (.iload_n 1, 1) := by decide +kernel
theorem dX2_beginStage_14 : decode cX2_beginStage 14 = .ok (.invokevirtual 102, 3) := by decide +kernel
theorem dX2_beginStage_17 : decode cX2_beginStage 17 = .ok (.ifCond .ne 6, 3) := by decide +kernel
theorem dX2_beginStage_20 : decode cX2_beginStage 20 = .ok (.ldc 96, 2) := by decide +kernel
theorem dX2_beginStage_22 : decode cX2_beginStage 22 = .ok (.ireturn, 1) := by decide +kernel
theorem dX2_beginStage_23 : decode cX2_beginStage 23 = .ok (.aload_n 0, 1) := by decide +kernel
theorem dX2_beginStage_24 : decode cX2_beginStage 24 = .ok (.getfield 17, 3) := by decide +kernel
theorem dX2_beginStage_27 : decode cX2_beginStage 27 = .ok (.iload_n 1, 1) := by decide +kernel
theorem dX2_beginStage_28 : decode cX2_beginStage 28 = .ok (.aload_n 0, 1) := by decide +kernel
theorem dX2_beginStage_29 : decode cX2_beginStage 29 = .ok (.getfield 28, 3) := by decide +kernel
theorem dX2_beginStage_32 : decode cX2_beginStage 32 = .ok (.iastore, 1) := by decide +kernel
theorem dX2_beginStage_33 : decode cX2_beginStage 33 = .ok (.aload_n 0, 1) := by decide +kernel
theorem dX2_beginStage_34 : decode cX2_beginStage 34 = .ok (.iload_n 1, 1) := by decide +kernel
theorem dX2_beginStage_35 : decode cX2_beginStage 35 = .ok (.invokevirtual 105, 3) := by decide +kernel
theorem dX2_beginStage_38 : decode cX2_beginStage 38 = .ok (.istore_n 2, 1) := by decide +kernel
theorem dX2_beginStage_39 : decode cX2_beginStage 39 = .ok (.iconst 0, 1) := by decide +kernel
theorem dX2_beginStage_40 : decode cX2_beginStage 40 = .ok (.istore_n 3, 1) := by decide +kernel
theorem dX2_beginStage_41 : decode cX2_beginStage 41 = .ok (.iload_n 3, 1) := by decide +kernel
theorem dX2_beginStage_42 : decode cX2_beginStage 42 = .ok (.aload_n 0, 1) := by decide +kernel
theorem dX2_beginStage_43 : decode cX2_beginStage 43 = .ok (.getfield 24, 3) := by decide +kernel
theorem dX2_beginStage_46 : decode cX2_beginStage 46 = .ok (.if_icmp .ge 27, 3) := by decide +kernel
theorem dX2_beginStage_49 : decode cX2_beginStage 49 = .ok (.iload_n 2, 1) := by decide +kernel
theorem dX2_beginStage_50 : decode cX2_beginStage 50 = .ok (.iconst 1, 1) := by decide +kernel
theorem dX2_beginStage_51 : decode cX2_beginStage 51 = .ok (.iload_n 3, 1) := by decide +kernel
theorem dX2_beginStage_52 : decode cX2_beginStage 52 = .ok (.ishl, 1) := by decide +kernel
theorem dX2_beginStage_53 : decode cX2_beginStage 53 = .ok (.iand, 1) := by decide +kernel
theorem dX2_beginStage_54 : decode cX2_beginStage 54 = .ok (.ifCond .eq 13, 3) := by decide +kernel
theorem dX2_beginStage_57 : decode cX2_beginStage 57 = .ok (.aload_n 0, 1) := by decide +kernel
theorem dX2_beginStage_58 : decode cX2_beginStage 58 = .ok (.aload_n 0, 1) := by decide +kernel
theorem dX2_beginStage_59 : decode cX2_beginStage 59 = .ok (.getfield 11, 3) := by decide +kernel
theorem dX2_beginStage_62 : decode cX2_beginStage 62 = .ok (.iload_n 3, 1) := by decide +kernel
theorem dX2_beginStage_63 : decode cX2_beginStage 63 = .ok (.aaload, 1) := by decide +kernel
theorem dX2_beginStage_64 : decode cX2_beginStage 64 = .ok (.invokevirtual 108, 3) := by decide +kernel
theorem dX2_beginStage_67 : decode cX2_beginStage 67 = .ok (.iinc 3 1, 3) := by decide +kernel
theorem dX2_beginStage_70 : decode cX2_beginStage 70 = .ok (.goto (-29), 3) := by decide +kernel
theorem dX2_beginStage_73 : decode cX2_beginStage 73 = .ok (.iload_n 2, 1) := by decide +kernel
theorem dX2_beginStage_74 : decode cX2_beginStage 74 = .ok (.ireturn, 1) := by decide +kernel
theorem dX2_finishStage_0 : decode cX2_finishStage 0 = .ok (.iload_n 1, 1) := by decide +kernel
theorem dX2_finishStage_1 : decode cX2_finishStage 1 = .ok (.iconst 0, 1) := by decide +kernel
theorem dX2_finishStage_2 : decode cX2_finishStage 2 = .ok (.iconst 4, 1) := by decide +kernel
theorem dX2_finishStage_3 : decode cX2_finishStage 3 = .ok (.invokestatic 48, 3) := by decide +kernel
theorem dX2_finishStage_6 : decode cX2_finishStage 6 = .ok (.ifCond .ne 6, 3) := by decide +kernel
theorem dX2_finishStage_9 : decode cX2_finishStage 9 = .ok (.ldc 95, 2) := by decide +kernel
theorem dX2_finishStage_11 : decode cX2_finishStage 11 = .ok (.ireturn, 1) := by decide +kernel
theorem dX2_finishStage_12 : decode cX2_finishStage 12 = .ok (.aload_n 0, 1) := by decide +kernel
theorem dX2_finishStage_13 : decode cX2_finishStage 13 = .ok (.iload_n 1, 1) := by decide +kernel
theorem dX2_finishStage_14 : decode cX2_finishStage 14 = .ok (.invokevirtual 52, 3) := by decide +kernel
theorem dX2_finishStage_17 : decode cX2_finishStage 17 = .ok (.ifCond .eq 11, 3) := by decide +kernel
theorem dX2_finishStage_20 : decode cX2_finishStage 20 = .ok (.aload_n 0, 1) := by decide +kernel
theorem dX2_finishStage_21 : decode cX2_finishStage 21 = .ok (.iload_n 1, 1) := by decide +kernel
theorem dX2_finishStage_22 : decode cX2_finishStage 22 = .ok (.invokevirtual 56, 3) := by decide +kernel
theorem dX2_finishStage_25 : decode cX2_finishStage 25 = .ok (.ifCond .eq 6, 3) := by decide +kernel
theorem dX2_finishStage_28 : decode cX2_finishStage 28 = .ok (.ldc 96, 2) := by decide +kernel
theorem dX2_finishStage_30 : decode cX2_finishStage 30 = .ok (.ireturn, 1) := by decide +kernel
theorem dX2_finishStage_31 : decode cX2_finishStage 31 = .ok (.aload_n 0, 1) := by decide +kernel
