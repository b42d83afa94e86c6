-- decode rows out of the printed list of the task
theorem dX3_undo_10 : decode cX3_undo 10 = .ok (.aload_n 0, 1) := by decide +kernel
theorem dX3_undo_11 : decode cX3_undo 11 = .ok (.dup, 1) := by decide +kernel
theorem dX3_undo_12 : decode cX3_undo 12 = .ok (.getfield 33, 3) := by decide +kernel
theorem dX3_undo_15 : decode cX3_undo 15 = .ok (.iconst 1, 1) := by decide +kernel
theorem dX3_undo_16 : decode cX3_undo 16 = .ok (.isub, 1) := by decide +kernel
theorem dX3_undo_17 : decode cX3_undo 17 = .ok (.putfield 33, 3) := by decide +kernel
theorem dX3_undo_20 : decode cX3_undo 20 = .ok (.aload_n 0, 1) := by decide +kernel
theorem dX3_undo_21 : decode cX3_undo 21 = .ok (.getfield 10, 3) := by decide +kernel
theorem dX3_undo_24 : decode cX3_undo 24 = .ok (.aload_n 0, 1) := by decide +kernel
theorem dX3_undo_25 : decode cX3_undo 25 = .ok (.getfield 19, 3) := by decide +kernel
theorem dX3_undo_28 : decode cX3_undo 28 = .ok (.aload_n 0, 1) := by decide +kernel
theorem dX3_undo_29 : decode cX3_undo 29 = .ok (.getfield 33, 3) := by decide +kernel
theorem dX3_undo_32 : decode cX3_undo 32 = .ok (.aaload, 1) := by decide +kernel
theorem dX3_undo_33 : decode cX3_undo 33 = .ok (.invokevirtual 37, 3) := by decide +kernel
theorem dX3_undo_36 : decode cX3_undo 36 = .ok (.aload_n 0, 1) := by decide +kernel
theorem dX3_undo_37 : decode cX3_undo 37 = .ok (.getfield 33, 3) := by decide +kernel
theorem dX3_undo_40 : decode cX3_undo 40 = .ok (.ireturn, 1) := by decide +kernel
theorem dX3_type_0 : decode cX3_type 0 = .ok (.iload_n 1, 1) := by decide +kernel
theorem dX3_type_1 : decode cX3_type 1 = .ok (.bipush 32, 2) := by decide +kernel
theorem dX3_type_3 : decode cX3_type 3 = .ok (.bipush 126, 2) := by decide +kernel
theorem dX3_type_5 : decode cX3_type 5 = .ok (.invokestatic 137, 3) := by decide +kernel
theorem dX3_type_8 : decode cX3_type 8 = .ok (.ifCond .ne 6, 3) := by decide +kernel
theorem dX3_type_11 : decode cX3_type 11 = .ok (.ldc 85, 2) := by decide +kernel
theorem dX3_type_13 : decode cX3_type 13 = .ok (.ireturn, 1) := by decide +kernel
theorem dX3_type_14 : decode cX3_type 14 = .ok (.aload_n 0, 1) := by decide +kernel
theorem dX3_type_15 : decode cX3_type 15 = .ok (.getfield 26, 3) := by decide +kernel
theorem dX3_type_18 : decode cX3_type 18 = .ok (.iload_n 1, 1) := by decide +kernel
theorem dX3_type_19 : decode cX3_type 19 = .ok (.i2c, 1) := by decide +kernel
theorem dX3_type_20 : decode cX3_type 20 = .ok (.invokevirtual 218, 3) := by decide +kernel
theorem dX3_type_23 : decode cX3_type 23 = .ok (.ireturn, 1) := by decide +kernel
theorem dX3_clearText_0 : decode cX3_clearText 0 = .ok (.aload_n 0, 1) := by decide +kernel
theorem dX3_clearText_1 : decode cX3_clearText 1 = .ok (.getfield 26, 3) := by decide +kernel
theorem dX3_clearText_4 : decode cX3_clearText 4 = .ok (.invokevirtual 222, 3) := by decide +kernel
theorem dX3_clearText_7 : decode cX3_clearText 7 = .ok (.ireturn, 1) := by decide +kernel
theorem dX3_fault_0 : decode cX3_fault 0 = .ok (.iload_n 1, 1) := by decide +kernel
theorem dX3_fault_1 : decode cX3_fault 1 = .ok (.iconst 0, 1) := by decide +kernel
theorem dX3_fault_2 : decode cX3_fault 2 = .ok (.iconst 2, 1) := by decide +kernel
theorem dX3_fault_3 : decode cX3_fault 3 = .ok (.invokestatic 137, 3) := by decide +kernel
theorem dX3_fault_6 : decode cX3_fault 6 = .ok (.ifCond .ne 6, 3) := by decide +kernel
theorem dX3_fault_9 : decode cX3_fault 9 = .ok (.ldc 85, 2) := by decide +kernel
theorem dX3_fault_11 : decode cX3_fault 11 = .ok (.ireturn, 1) := by decide +kernel
theorem dX3_fault_12 : decode cX3_fault 12 = .ok (.aload_n 0, 1) := by decide +kernel
theorem dX3_fault_13 : decode cX3_fault 13 = .ok (.getfield 16, 3) := by decide +kernel
theorem dX3_fault_16 : decode cX3_fault 16 = .ok (.aload_n 0, 1) := by decide +kernel
theorem dX3_fault_17 : decode cX3_fault 17 = .ok (.getfield 10, 3) := by decide +kernel
theorem dX3_fault_20 : decode cX3_fault 20 = .ok (.invokevirtual 37, 3) := by decide +kernel
theorem dX3_fault_23 : decode cX3_fault 23 = .ok (.aload_n 0, 1) := by decide +kernel
theorem dX3_fault_24 : decode cX3_fault 24 = .ok (.getfield 26, 3) := by decide +kernel
theorem dX3_fault_27 : decode cX3_fault 27 = .ok (.aload_n 0, 1) := by decide +kernel
theorem dX3_fault_28 : decode cX3_fault 28 = .ok (.getfield 16, 3) := by decide +kernel
theorem dX3_fault_31 : decode cX3_fault 31 = .ok (.invokevirtual 225, 3) := by decide +kernel
theorem dX3_fault_34 : decode cX3_fault 34 = .ok (.pop, 1) := by decide +kernel
theorem dX3_fault_35 : decode cX3_fault 35 = .ok (.aload_n 0, 1) := by decide +kernel
theorem dX3_fault_36 : decode cX3_fault 36 = .ok (.getfield 26, 3) := by decide +kernel
theorem dX3_fault_39 : decode cX3_fault 39 = .ok (.getfield 229, 3) := by decide +kernel
theorem dX3_fault_42 : decode cX3_fault 42 = .ok (.ifCond .ne 6, 3) := by decide +kernel
theorem dX3_fault_45 : decode cX3_fault 45 = .ok (.ldc 117, 2) := by decide +kernel
theorem dX3_fault_47 : decode cX3_fault 47 = .ok (.ireturn, 1) := by decide +kernel
theorem dX3_fault_48 : decode cX3_fault 48 = .ok (.iload_n 1, 1) := by decide +kernel
theorem dX3_fault_49 : decode cX3_fault 49 = .ok (.lookupswitch 43 #[(0, 27), (1, 35)], 27) := by decide +kernel
theorem dX3_fault_76 : decode cX3_fault 76 = .ok (.aload_n 0, 1) := by decide +kernel
theorem dX3_fault_77 : decode cX3_fault 77 = .ok (.getfield 26, 3) := by decide +kernel
theorem dX3_fault_80 : decode cX3_fault 80 = .ok (.getfield 232, 3) := by decide +kernel
theorem dX3_fault_83 : decode cX3_fault 83 = .ok (.ireturn, 1) := by decide +kernel
theorem dX3_fault_84 : decode cX3_fault 84 = .ok (.aload_n 0, 1) := by decide +kernel
theorem dX3_fault_85 : decode cX3_fault 85 = .ok (.getfield 26, 3) := by decide +kernel
theorem dX3_fault_88 : decode cX3_fault 88 = .ok (.getfield 229, 3) := by decide +kernel
theorem dX3_fault_91 : decode cX3_fault 91 = .ok (.ireturn, 1) := by decide +kernel
theorem dX3_fault_92 : decode cX3_fault 92 = .ok (.aload_n 0, 1) := by decide +kernel
theorem dX3_fault_93 : decode cX3_fault 93 = .ok (.getfield 26, 3) := by decide +kernel
theorem dX3_fault_96 : decode cX3_fault 96 = .ok (.getfield 235, 3) := by decide +kernel
theorem dX3_fault_99 : decode cX3_fault 99 = .ok (.ireturn, 1) := by decide +kernel
theorem dX3_play_0 : decode cX3_play 0 = .ok (.aload_n 0, 1) := by decide +kernel
theorem dX3_play_1 : decode cX3_play 1 = .ok (.getfield 16, 3) := by decide +kernel
theorem dX3_play_4 : decode cX3_play 4 = .ok (.aload_n 0, 1) := by decide +kernel
theorem dX3_play_5 : decode cX3_play 5 = .ok (.getfield 10, 3) := by decide +kernel
theorem dX3_play_8 : decode cX3_play 8 = .ok (.invokevirtual 37, 3) := by decide +kernel
theorem dX3_play_11 : decode cX3_play 11 = .ok (.aload_n 0, 1) := by decide +kernel
theorem dX3_play_12 : decode cX3_play 12 = .ok (.getfield 26, 3) := by decide +kernel
theorem dX3_play_15 : decode cX3_play 15 = .ok (.aload_n 0, 1) := by decide +kernel
theorem dX3_play_16 : decode cX3_play 16 = .ok (.getfield 16, 3) := by decide +kernel
theorem dX3_play_19 : decode cX3_play 19 = .ok (.invokevirtual 225, 3) := by decide +kernel
theorem dX3_play_22 : decode cX3_play 22 = .ok (.istore_n 1, 1) := by decide +kernel
theorem dX3_play_23 : decode cX3_play 23 = .ok (.aload_n 0, 1) := by decide +kernel
theorem dX3_play_24 : decode cX3_play 24 = .ok (.getfield 26, 3) := by decide +kernel
theorem dX3_play_27 : decode cX3_play 27 = .ok (.getfield 229, 3) := by decide +kernel
theorem dX3_play_30 : decode cX3_play 30 = .ok (.ifCond .eq 6, 3) := by decide +kernel
theorem dX3_play_33 : decode cX3_play 33 = .ok (.ldc 169, 2) := by decide +kernel
theorem dX3_play_35 : decode cX3_play 35 = .ok (.ireturn, 1) := by decide +kernel
theorem dX3_play_36 : decode cX3_play 36 = .ok (.aload_n 0, 1) := by decide +kernel
theorem dX3_play_37 : decode cX3_play 37 = .ok (.getfield 30, 3) := by decide +kernel
theorem dX3_play_40 : decode cX3_play 40 = .ok (.aload_n 0, 1) := by decide +kernel
theorem dX3_play_41 : decode cX3_play 41 = .ok (.getfield 10, 3) := by decide +kernel
theorem dX3_play_44 : decode cX3_play 44 = .ok (.invokevirtual 37, 3) := by decide +kernel
theorem dX3_play_47 : decode cX3_play 47 = .ok (.aload_n 0, 1) := by decide +kernel
theorem dX3_play_48 : decode cX3_play 48 = .ok (.getfield 10, 3) := by decide +kernel
theorem dX3_play_51 : decode cX3_play 51 = .ok (.aload_n 0, 1) := by decide +kernel
theorem dX3_play_52 : decode cX3_play 52 = .ok (.getfield 16, 3) := by decide +kernel
theorem dX3_play_55 : decode cX3_play 55 = .ok (.invokevirtual 37, 3) := by decide +kernel
theorem dX3_play_58 : decode cX3_play 58 = .ok (.aload_n 0, 1) := by decide +kernel
theorem dX3_play_59 : decode cX3_play 59 = .ok (.iload_n 1, 1) := by decide +kernel
theorem dX3_play_60 : decode cX3_play 60 = .ok (.invokevirtual 45, 3) := by decide +kernel
theorem dX3_play_63 : decode cX3_play 63 = .ok (.ireturn, 1) := by decide +kernel
theorem dX3_recorded_0 : decode cX3_recorded 0 = .ok (.iload_n 1, 1) := by decide +kernel
theorem dX3_recorded_1 : decode cX3_recorded 1 = .ok (.ifCond .ge 5, 3) := by decide +kernel
theorem dX3_recorded_4 : decode cX3_recorded 4 = .ok (.iload_n 1, 1) := by decide +kernel
theorem dX3_recorded_5 : decode cX3_recorded 5 = .ok (.ireturn, 1) := by decide +kernel
theorem dX3_recorded_6 : decode cX3_recorded 6 = .ok (.aload_n 0, 1) := by decide +kernel
theorem dX3_recorded_7 : decode cX3_recorded 7 = .ok (.getfield 33, 3) := by decide +kernel
theorem dX3_recorded_10 : decode cX3_recorded 10 = .ok (.iconst 4, 1) := by decide +kernel
theorem dX3_recorded_11 : decode cX3_recorded 11 = .ok (.if_icmp .lt 12, 3) := by decide +kernel
theorem dX3_recorded_14 : decode cX3_recorded 14 = .ok (.aload_n 0, 1) := by decide +kernel
theorem dX3_recorded_15 : decode cX3_recorded 15 = .ok (.invokevirtual 238, 3) := by decide +kernel
theorem dX3_recorded_18 : decode cX3_recorded 18 = .ok (.aload_n 0, 1) := by decide +kernel
theorem dX3_recorded_19 : decode cX3_recorded 19 = .ok (.iconst 3, 1) := by decide +kernel
theorem dX3_recorded_20 : decode cX3_recorded 20 = .ok (.putfield 33, 3) := by decide +kernel
theorem dX3_recorded_23 : decode cX3_recorded 23 = .ok (.aload_n 0, 1) := by decide +kernel
theorem dX3_recorded_24 : decode cX3_recorded 24 = .ok (.getfield 19, 3) := by decide +kernel
theorem dX3_recorded_27 : decode cX3_recorded 27 = .ok (.aload_n 0, 1) := by decide +kernel
theorem dX3_recorded_28 : decode cX3_recorded 28 = .ok (.getfield 33, 3) := by decide +kernel
theorem dX3_recorded_31 : decode cX3_recorded 31 = .ok (.aaload, 1) := by decide +kernel
theorem dX3_recorded_32 : decode cX3_recorded 32 = .ok (.astore_n 2, 1) := by decide +kernel
theorem dX3_recorded_33 : decode cX3_recorded 33 = .ok (.aload_n 0, 1) := by decide +kernel
theorem dX3_recorded_34 : decode cX3_recorded 34 = .ok (.getfield 19, 3) := by decide +kernel
theorem dX3_recorded_37 : decode cX3_recorded 37 = .ok (.aload_n 0, 1) := by decide +kernel
theorem dX3_recorded_38 : decode cX3_recorded 38 = .ok (.getfield 33, 3) := by decide +kernel
theorem dX3_recorded_41 : decode cX3_recorded 41 = .ok (.aload_n 0, 1) := by decide +kernel
theorem dX3_recorded_42 : decode cX3_recorded 42 = .ok (.getfield 30, 3) := by decide +kernel
theorem dX3_recorded_45 : decode cX3_recorded 45 = .ok (.aastore, 1) := by decide +kernel
theorem dX3_recorded_46 : decode cX3_recorded 46 = .ok (.aload_n 0, 1) := by decide +kernel
theorem dX3_recorded_47 : decode cX3_recorded 47 = .ok (.aload_n 2, 1) := by decide +kernel
theorem dX3_recorded_48 : decode cX3_recorded 48 = .ok (.putfield 30, 3) := by decide +kernel
theorem dX3_recorded_51 : decode cX3_recorded 51 = .ok (.aload_n 0, 1) := by decide +kernel
theorem dX3_recorded_52 : decode cX3_recorded 52 = .ok (.dup, 1) := by decide +kernel
theorem dX3_recorded_53 : decode cX3_recorded 53 = .ok (.getfield 33, 3) := by decide +kernel
theorem dX3_recorded_56 : decode cX3_recorded 56 = .ok (.iconst 1, 1) := by decide +kernel
theorem dX3_recorded_57 : decode cX3_recorded 57 = .ok (.iadd, 1) := by decide +kernel
theorem dX3_recorded_58 : decode cX3_recorded 58 = .ok (.putfield 33, 3) := by decide +kernel
theorem dX3_recorded_61 : decode cX3_recorded 61 = .ok (.iload_n 1, 1) := by decide +kernel
theorem dX3_recorded_62 : decode cX3_recorded 62 = .ok (.ireturn, 1) := by decide +kernel
theorem dX3_rotateHistory_0 : decode cX3_rotateHistory 0 = .ok (.aload_n 0, 1) := by decide +kernel
theorem dX3_rotateHistory_1 : decode cX3_rotateHistory 1 = .ok (.getfield 19, 3) := by decide +kernel
theorem dX3_rotateHistory_4 : decode cX3_rotateHistory 4 = .ok (.iconst 0, 1) := by decide +kernel
theorem dX3_rotateHistory_5 : decode cX3_rotateHistory 5 = .ok (.aaload, 1) := by decide +kernel
theorem dX3_rotateHistory_6 : decode cX3_rotateHistory 6 = .ok (.astore_n 1, 1) := by decide +kernel
theorem dX3_rotateHistory_7 : decode cX3_rotateHistory 7 = .ok (.iconst 1, 1) := by decide +kernel
theorem dX3_rotateHistory_8 : decode cX3_rotateHistory 8 = .ok (.istore_n 2, 1) := by decide +kernel
theorem dX3_rotateHistory_9 : decode cX3_rotateHistory 9 = .ok (.iload_n 2, 1) := by decide +kernel
theorem dX3_rotateHistory_10 : decode cX3_rotateHistory 10 = .ok (.iconst 4, 1) := by decide +kernel
theorem dX3_rotateHistory_11 : decode cX3_rotateHistory 11 = .ok (.if_icmp .ge 23, 3) := by decide +kernel
theorem dX3_rotateHistory_14 : decode cX3_rotateHistory 14 = .ok (.aload_n 0, 1) := by decide +kernel
theorem dX3_rotateHistory_15 : decode cX3_rotateHistory 15 = .ok (.getfield 19, 3) := by decide +kernel
theorem dX3_rotateHistory_18 : decode cX3_rotateHistory 18 = .ok (.iload_n 2, 1) := by decide +kernel
theorem dX3_rotateHistory_19 : decode cX3_rotateHistory 19 = .ok (.iconst 1, 1) := by decide +kernel
theorem dX3_rotateHistory_20 : decode cX3_rotateHistory 20 = .ok (.isub, 1) := by decide +kernel
theorem dX3_rotateHistory_21 : decode cX3_rotateHistory 21 = .ok (.aload_n 0, 1) := by decide +kernel
theorem dX3_rotateHistory_22 : decode cX3_rotateHistory 22 = .ok (.getfield 19, 3) := by decide +kernel
theorem dX3_rotateHistory_25 : decode cX3_rotateHistory 25 = .ok (.iload_n 2, 1) := by decide +kernel
theorem dX3_rotateHistory_26 : decode cX3_rotateHistory 26 = .ok (.aaload, 1) := by decide +kernel
theorem dX3_rotateHistory_27 : decode cX3_rotateHistory 27 = .ok (.aastore, 1) := by decide +kernel
theorem dX3_rotateHistory_28 : decode cX3_rotateHistory 28 = .ok (.iinc 2 1, 3) := by decide +kernel
theorem dX3_rotateHistory_31 : decode cX3_rotateHistory 31 = .ok (.goto (-22), 3) := by decide +kernel
theorem dX3_rotateHistory_34 : decode cX3_rotateHistory 34 = .ok (.aload_n 0, 1) := by decide +kernel
theorem dX3_rotateHistory_35 : decode cX3_rotateHistory 35 = .ok (.getfield 19, 3) := by decide +kernel
theorem dX3_rotateHistory_38 : decode cX3_rotateHistory 38 = .ok (.iconst 3, 1) := by decide +kernel
theorem dX3_rotateHistory_39 : decode cX3_rotateHistory 39 = .ok (.aload_n 1, 1) := by decide +kernel
theorem dX3_rotateHistory_40 : decode cX3_rotateHistory 40 = .ok (.aastore, 1) := by decide +kernel
theorem dX3_rotateHistory_41 : decode cX3_rotateHistory 41 = .ok (.return_, 1) := by decide +kernel
theorem dX3_isWithin_0 : decode cX3_isWithin 0 = .ok (.iload_n 0, 1) := by decide +kernel
theorem dX3_isWithin_1 : decode cX3_isWithin 1 = .ok (.iload_n 1, 1) := by decide +kernel
theorem dX3_isWithin_2 : decode cX3_isWithin 2 = .ok (.if_icmp .lt 12, 3) := by decide +kernel
theorem dX3_isWithin_5 : decode cX3_isWithin 5 = .ok (.iload_n 0, 1) := by decide +kernel
theorem dX3_isWithin_6 : decode cX3_isWithin 6 = .ok (.iload_n 2, 1) := by decide +kernel
theorem dX3_isWithin_7 : decode cX3_isWithin 7 = .ok (.if_icmp .gt 7, 3) := by decide +kernel
theorem dX3_isWithin_10 : decode cX3_isWithin 10 = .ok (.iconst 1, 1) := by decide +kernel
theorem dX3_isWithin_11 : decode cX3_isWithin 11 = .ok (.goto 4, 3) := by decide +kernel
theorem dX3_isWithin_14 : decode cX3_isWithin 14 = .ok (.iconst 0, 1) := by decide +kernel
theorem dX3_isWithin_15 : decode cX3_isWithin 15 = .ok (.ireturn, 1) := by decide +kernel
theorem dX3_bitsOf_0 : decode cX3_bitsOf 0 = .ok (.fload_n 0, 1) := by decide +kernel
theorem dX3_bitsOf_1 : decode cX3_bitsOf 1 = .ok (.fconst 0, 1) := by decide +kernel
theorem dX3_bitsOf_2 : decode cX3_bitsOf 2 = .ok (.fcmp .l, 1) := by decide +kernel
theorem dX3_bitsOf_3 : decode cX3_bitsOf 3 = .ok (.ifCond .gt 5, 3) := by decide +kernel
theorem dX3_bitsOf_6 : decode cX3_bitsOf 6 = .ok (.iconst 0, 1) := by decide +kernel
theorem dX3_bitsOf_7 : decode cX3_bitsOf 7 = .ok (.ireturn, 1) := by decide +kernel
theorem dX3_bitsOf_8 : decode cX3_bitsOf 8 = .ok (.fload_n 0, 1) := by decide +kernel
theorem dX3_bitsOf_9 : decode cX3_bitsOf 9 = .ok (.fstore_n 1, 1) := by decide +kernel
theorem dX3_bitsOf_10 : decode cX3_bitsOf 10 = .ok (.bipush 127, 2) := by decide +kernel
theorem dX3_bitsOf_12 : decode cX3_bitsOf 12 = .ok (.istore_n 2, 1) := by decide +kernel
theorem dX3_bitsOf_13 : decode cX3_bitsOf 13 = .ok (.fload_n 1, 1) := by decide +kernel
theorem dX3_bitsOf_14 : decode cX3_bitsOf 14 = .ok (.fconst 1, 1) := by decide +kernel
theorem dX3_bitsOf_15 : decode cX3_bitsOf 15 = .ok (.fcmp .g, 1) := by decide +kernel
theorem dX3_bitsOf_16 : decode cX3_bitsOf 16 = .ok (.ifCond .ge 18, 3) := by decide +kernel
theorem dX3_bitsOf_19 : decode cX3_bitsOf 19 = .ok (.iload_n 2, 1) := by decide +kernel
theorem dX3_bitsOf_20 : decode cX3_bitsOf 20 = .ok (.iconst 1, 1) := by decide +kernel
theorem dX3_bitsOf_21 : decode cX3_bitsOf 21 = .ok (.if_icmp .le 13, 3) := by decide +kernel
theorem dX3_bitsOf_24 : decode cX3_bitsOf 24 = .ok (.fload_n 1, 1) := by decide +kernel
theorem dX3_bitsOf_25 : decode cX3_bitsOf 25 = .ok (.fconst 2, 1) := by decide +kernel
theorem dX3_bitsOf_26 : decode cX3_bitsOf 26 = .ok (.fmul, 1) := by decide +kernel
theorem dX3_bitsOf_27 : decode cX3_bitsOf 27 = .ok (.fstore_n 1, 1) := by decide +kernel
theorem dX3_bitsOf_28 : decode cX3_bitsOf 28 = .ok (.iinc 2 (-1), 3) := by decide +kernel
theorem dX3_bitsOf_31 : decode cX3_bitsOf 31 = .ok (.goto (-18), 3) := by decide +kernel
theorem dX3_bitsOf_34 : decode cX3_bitsOf 34 = .ok (.iload_n 2, 1) := by decide +kernel
theorem dX3_bitsOf_35 : decode cX3_bitsOf 35 = .ok (.bipush 23, 2) := by decide +kernel
theorem dX3_bitsOf_37 : decode cX3_bitsOf 37 = .ok (.ishl, 1) := by decide +kernel
theorem dX3_bitsOf_38 : decode cX3_bitsOf 38 = .ok (.fload_n 1, 1) := by decide +kernel
theorem dX3_bitsOf_39 : decode cX3_bitsOf 39 = .ok (.fconst 1, 1) := by decide +kernel
theorem dX3_bitsOf_40 : decode cX3_bitsOf 40 = .ok (.fsub, 1) := by decide +kernel
theorem dX3_bitsOf_41 : decode cX3_bitsOf 41 = .ok (.ldc 241, 2) := by decide +kernel
theorem dX3_bitsOf_43 : decode cX3_bitsOf 43 = .ok (.fmul, 1) := by decide +kernel
theorem dX3_bitsOf_44 : decode cX3_bitsOf 44 = .ok (.f2i, 1) := by decide +kernel
theorem dX3_bitsOf_45 : decode cX3_bitsOf 45 = .ok (.ior, 1) := by decide +kernel
theorem dX3_bitsOf_46 : decode cX3_bitsOf 46 = .ok (.ireturn, 1) := by decide +kernel
theorem dX4_init_0 : decode cX4_init 0 = .ok (.aload_n 0, 1) := by decide +kernel
theorem dX4_init_1 : decode cX4_init 1 = .ok (.invokespecial 1, 3) := by decide +kernel
theorem dX4_init_4 : decode cX4_init 4 = .ok (.aload_n 0, 1) := by decide +kernel
theorem dX4_init_5 : decode cX4_init 5 = .ok (.sipush 146, 3) := by decide +kernel
theorem dX4_init_8 : decode cX4_init 8 = .ok (.newarray .int, 2) := by decide +kernel
theorem dX4_init_10 : decode cX4_init 10 = .ok (.putfield 7, 3) := by decide +kernel
theorem dX4_init_13 : decode cX4_init 13 = .ok (.aload_n 0, 1) := by decide +kernel
theorem dX4_init_14 : decode cX4_init 14 = .ok (.sipush 146, 3) := by decide +kernel
theorem dX4_init_17 : decode cX4_init 17 = .ok (.newarray .int, 2) := by decide +kernel
theorem dX4_init_19 : decode cX4_init 19 = .ok (.putfield 13, 3) := by decide +kernel
theorem dX4_init_22 : decode cX4_init 22 = .ok (.aload_n 0, 1) := by decide +kernel
theorem dX4_init_23 : decode cX4_init 23 = .ok (.sipush 146, 3) := by decide +kernel
theorem dX4_init_26 : decode cX4_init 26 = .ok (.newarray .int, 2) := by decide +kernel
theorem dX4_init_28 : decode cX4_init 28 = .ok (.putfield 16, 3) := by decide +kernel
theorem dX4_init_31 : decode cX4_init 31 = .ok (.aload_n 0, 1) := by decide +kernel
theorem dX4_init_32 : decode cX4_init 32 = .ok (.sipush 584, 3) := by decide +kernel
theorem dX4_init_35 : decode cX4_init 35 = .ok (.newarray .int, 2) := by decide +kernel
theorem dX4_init_37 : decode cX4_init 37 = .ok (.putfield 19, 3) := by decide +kernel
theorem dX4_init_40 : decode cX4_init 40 = .ok (.aload_n 0, 1) := by decide +kernel
theorem dX4_init_41 : decode cX4_init 41 = .ok (.bipush 80, 2) := by decide +kernel
theorem dX4_init_43 : decode cX4_init 43 = .ok (.newarray .int, 2) := by decide +kernel
theorem dX4_init_45 : decode cX4_init 45 = .ok (.putfield 22, 3) := by decide +kernel
theorem dX4_init_48 : decode cX4_init 48 = .ok (.aload_n 0, 1) := by decide +kernel
theorem dX4_init_49 : decode cX4_init 49 = .ok (.iconst 4, 1) := by decide +kernel
theorem dX4_init_50 : decode cX4_init 50 = .ok (.newarray .int, 2) := by decide +kernel
theorem dX4_init_52 : decode cX4_init 52 = .ok (.putfield 25, 3) := by decide +kernel
theorem dX4_init_55 : decode cX4_init 55 = .ok (.aload_n 0, 1) := by decide +kernel
theorem dX4_init_56 : decode cX4_init 56 = .ok (.getfield 7, 3) := by decide +kernel
theorem dX4_init_59 : decode cX4_init 59 = .ok (.iconst 2, 1) := by decide +kernel
theorem dX4_init_60 : decode cX4_init 60 = .ok (.bipush 56, 2) := by decide +kernel
theorem dX4_init_62 : decode cX4_init 62 = .ok (.iastore, 1) := by decide +kernel
theorem dX4_init_63 : decode cX4_init 63 = .ok (.aload_n 0, 1) := by decide +kernel
theorem dX4_init_64 : decode cX4_init 64 = .ok (.getfield 7, 3) := by decide +kernel
theorem dX4_init_67 : decode cX4_init 67 = .ok (.iconst 3, 1) := by decide +kernel
theorem dX4_init_68 : decode cX4_init 68 = .ok (.bipush 100, 2) := by decide +kernel
theorem dX4_init_70 : decode cX4_init 70 = .ok (.iastore, 1) := by decide +kernel
theorem dX4_init_71 : decode cX4_init 71 = .ok (.iconst 0, 1) := by decide +kernel
theorem dX4_init_72 : decode cX4_init 72 = .ok (.istore_n 1, 1) := by decide +kernel
theorem dX4_init_73 : decode cX4_init 73 = .ok (.iload_n 1, 1) := by decide +kernel
theorem dX4_init_74 : decode cX4_init 74 = .ok (.iconst 5, 1) := by decide +kernel
theorem dX4_init_75 : decode cX4_init 75 = .ok (.if_icmp .ge 29, 3) := by decide +kernel
theorem dX4_init_78 : decode cX4_init 78 = .ok (.aload_n 0, 1) := by decide +kernel
theorem dX4_init_79 : decode cX4_init 79 = .ok (.getfield 7, 3) := by decide +kernel
theorem dX4_init_82 : decode cX4_init 82 = .ok (.bipush 6, 2) := by decide +kernel
theorem dX4_init_84 : decode cX4_init 84 = .ok (.iload_n 1, 1) := by decide +kernel
theorem dX4_init_85 : decode cX4_init 85 = .ok (.iadd, 1) := by decide +kernel
theorem dX4_init_86 : decode cX4_init 86 = .ok (.iconst (-1), 1) := by decide +kernel
theorem dX4_init_87 : decode cX4_init 87 = .ok (.iastore, 1) := by decide +kernel
theorem dX4_init_88 : decode cX4_init 88 = .ok (.aload_n 0, 1) := by decide +kernel
theorem dX4_init_89 : decode cX4_init 89 = .ok (.getfield 7, 3) := by decide +kernel
theorem dX4_init_92 : decode cX4_init 92 = .ok (.bipush 11, 2) := by decide +kernel
theorem dX4_init_94 : decode cX4_init 94 = .ok (.iload_n 1, 1) := by decide +kernel
theorem dX4_init_95 : decode cX4_init 95 = .ok (.iadd, 1) := by decide +kernel
theorem dX4_init_96 : decode cX4_init 96 = .ok (.iconst (-1), 1) := by decide +kernel
theorem dX4_init_97 : decode cX4_init 97 = .ok (.iastore, 1) := by decide +kernel
theorem dX4_init_98 : decode cX4_init 98 = .ok (.iinc 1 1, 3) := by decide +kernel
theorem dX4_init_101 : decode cX4_init 101 = .ok (.goto (-28), 3) := by decide +kernel
theorem dX4_init_104 : decode cX4_init 104 = .ok (.return_, 1) := by decide +kernel
theorem dX4_in_0 : decode cX4_in 0 = .ok (.lload_n 0, 1) := by decide +kernel
theorem dX4_in_1 : decode cX4_in 1 = .ok (.lload_n 2, 1) := by decide +kernel
theorem dX4_in_2 : decode cX4_in 2 = .ok (.lcmp, 1) := by decide +kernel
theorem dX4_in_3 : decode cX4_in 3 = .ok (.ifCond .lt 14, 3) := by decide +kernel
theorem dX4_in_6 : decode cX4_in 6 = .ok (.lload_n 0, 1) := by decide +kernel
theorem dX4_in_7 : decode cX4_in 7 = .ok (.lload 4, 2) := by decide +kernel
theorem dX4_in_9 : decode cX4_in 9 = .ok (.lcmp, 1) := by decide +kernel
theorem dX4_in_10 : decode cX4_in 10 = .ok (.ifCond .gt 7, 3) := by decide +kernel
theorem dX4_in_13 : decode cX4_in 13 = .ok (.iconst 1, 1) := by decide +kernel
theorem dX4_in_14 : decode cX4_in 14 = .ok (.goto 4, 3) := by decide +kernel
theorem dX4_in_17 : decode cX4_in 17 = .ok (.iconst 0, 1) := by decide +kernel
theorem dX4_in_18 : decode cX4_in 18 = .ok (.ireturn, 1) := by decide +kernel
theorem dX4_copy_0 : decode cX4_copy 0 = .ok (.iconst 0, 1) := by decide +kernel
theorem dX4_copy_1 : decode cX4_copy 1 = .ok (.istore_n 2, 1) := by decide +kernel
theorem dX4_copy_2 : decode cX4_copy 2 = .ok (.iload_n 2, 1) := by decide +kernel
theorem dX4_copy_3 : decode cX4_copy 3 = .ok (.sipush 146, 3) := by decide +kernel
theorem dX4_copy_6 : decode cX4_copy 6 = .ok (.if_icmp .ge 15, 3) := by decide +kernel
theorem dX4_copy_9 : decode cX4_copy 9 = .ok (.aload_n 1, 1) := by decide +kernel
theorem dX4_copy_10 : decode cX4_copy 10 = .ok (.iload_n 2, 1) := by decide +kernel
theorem dX4_copy_11 : decode cX4_copy 11 = .ok (.aload_n 0, 1) := by decide +kernel
theorem dX4_copy_12 : decode cX4_copy 12 = .ok (.iload_n 2, 1) := by decide +kernel
theorem dX4_copy_13 : decode cX4_copy 13 = .ok (.iaload, 1) := by decide +kernel
theorem dX4_copy_14 : decode cX4_copy 14 = .ok (.iastore, 1) := by decide +kernel
theorem dX4_copy_15 : decode cX4_copy 15 = .ok (.iinc 2 1, 3) := by decide +kernel
theorem dX4_copy_18 : decode cX4_copy 18 = .ok (.goto (-16), 3) := by decide +kernel
theorem dX4_copy_21 : decode cX4_copy 21 = .ok (.return_, 1) := by decide +kernel
theorem dX4_isError_0 : decode cX4_isError 0 = .ok (.iload_n 0, 1) := by decide +kernel
theorem dX4_isError_1 : decode cX4_isError 1 = .ok (.ldc 28, 2) := by decide +kernel
theorem dX4_isError_3 : decode cX4_isError 3 = .ok (.if_icmp .ge 7, 3) := by decide +kernel
theorem dX4_isError_6 : decode cX4_isError 6 = .ok (.iconst 1, 1) := by decide +kernel
theorem dX4_isError_7 : decode cX4_isError 7 = .ok (.goto 4, 3) := by decide +kernel
theorem dX4_isError_10 : decode cX4_isError 10 = .ok (.iconst 0, 1) := by decide +kernel
theorem dX4_isError_11 : decode cX4_isError 11 = .ok (.ireturn, 1) := by decide +kernel
theorem dX4_record_0 : decode cX4_record 0 = .ok (.aload_n 0, 1) := by decide +kernel
theorem dX4_record_1 : decode cX4_record 1 = .ok (.getfield 29, 3) := by decide +kernel
theorem dX4_record_4 : decode cX4_record 4 = .ok (.iconst 4, 1) := by decide +kernel
theorem dX4_record_5 : decode cX4_record 5 = .ok (.if_icmp .ne 44, 3) := by decide +kernel
theorem dX4_record_8 : decode cX4_record 8 = .ok (.iconst 0, 1) := by decide +kernel
theorem dX4_record_9 : decode cX4_record 9 = .ok (.istore_n 1, 1) := by decide +kernel
theorem dX4_record_10 : decode cX4_record 10 = .ok (.iload_n 1, 1) := by decide +kernel
theorem dX4_record_11 : decode cX4_record 11 = .ok (.sipush 438, 3) := by decide +kernel
theorem dX4_record_14 : decode cX4_record 14 = .ok (.if_icmp .ge 25, 3) := by decide +kernel
theorem dX4_record_17 : decode cX4_record 17 = .ok (.aload_n 0, 1) := by decide +kernel
theorem dX4_record_18 : decode cX4_record 18 = .ok (.getfield 19, 3) := by decide +kernel
theorem dX4_record_21 : decode cX4_record 21 = .ok (.iload_n 1, 1) := by decide +kernel
theorem dX4_record_22 : decode cX4_record 22 = .ok (.aload_n 0, 1) := by decide +kernel
theorem dX4_record_23 : decode cX4_record 23 = .ok (.getfield 19, 3) := by decide +kernel
theorem dX4_record_26 : decode cX4_record 26 = .ok (.iload_n 1, 1) := by decide +kernel
theorem dX4_record_27 : decode cX4_record 27 = .ok (.sipush 146, 3) := by decide +kernel
theorem dX4_record_30 : decode cX4_record 30 = .ok (.iadd, 1) := by decide +kernel
theorem dX4_record_31 : decode cX4_record 31 = .ok (.iaload, 1) := by decide +kernel
theorem dX4_record_32 : decode cX4_record 32 = .ok (.iastore, 1) := by decide +kernel
theorem dX4_record_33 : decode cX4_record 33 = .ok (.iinc 1 1, 3) := by decide +kernel
theorem dX4_record_36 : decode cX4_record 36 = .ok (.goto (-26), 3) := by decide +kernel
theorem dX4_record_39 : decode cX4_record 39 = .ok (.aload_n 0, 1) := by decide +kernel
theorem dX4_record_40 : decode cX4_record 40 = .ok (.dup, 1) := by decide +kernel
theorem dX4_record_41 : decode cX4_record 41 = .ok (.getfield 29, 3) := by decide +kernel
theorem dX4_record_44 : decode cX4_record 44 = .ok (.iconst 1, 1) := by decide +kernel
theorem dX4_record_45 : decode cX4_record 45 = .ok (.isub, 1) := by decide +kernel
theorem dX4_record_46 : decode cX4_record 46 = .ok (.putfield 29, 3) := by decide +kernel
theorem dX4_record_49 : decode cX4_record 49 = .ok (.iconst 0, 1) := by decide +kernel
theorem dX4_record_50 : decode cX4_record 50 = .ok (.istore_n 1, 1) := by decide +kernel
theorem dX4_record_51 : decode cX4_record 51 = .ok (.iload_n 1, 1) := by decide +kernel
theorem dX4_record_52 : decode cX4_record 52 = .ok (.sipush 146, 3) := by decide +kernel
theorem dX4_record_55 : decode cX4_record 55 = .ok (.if_icmp .ge 30, 3) := by decide +kernel
theorem dX4_record_58 : decode cX4_record 58 = .ok (.aload_n 0, 1) := by decide +kernel
theorem dX4_record_59 : decode cX4_record 59 = .ok (.getfield 19, 3) := by decide +kernel
theorem dX4_record_62 : decode cX4_record 62 = .ok (.sipush 146, 3) := by decide +kernel
theorem dX4_record_65 : decode cX4_record 65 = .ok (.aload_n 0, 1) := by decide +kernel
theorem dX4_record_66 : decode cX4_record 66 = .ok (.getfield 29, 3) := by decide +kernel
theorem dX4_record_69 : decode cX4_record 69 = .ok (.imul, 1) := by decide +kernel
theorem dX4_record_70 : decode cX4_record 70 = .ok (.iload_n 1, 1) := by decide +kernel
theorem dX4_record_71 : decode cX4_record 71 = .ok (.iadd, 1) := by decide +kernel
theorem dX4_record_72 : decode cX4_record 72 = .ok (.aload_n 0, 1) := by decide +kernel
theorem dX4_record_73 : decode cX4_record 73 = .ok (.getfield 13, 3) := by decide +kernel
theorem dX4_record_76 : decode cX4_record 76 = .ok (.iload_n 1, 1) := by decide +kernel
theorem dX4_record_77 : decode cX4_record 77 = .ok (.iaload, 1) := by decide +kernel
theorem dX4_record_78 : decode cX4_record 78 = .ok (.iastore, 1) := by decide +kernel
theorem dX4_record_79 : decode cX4_record 79 = .ok (.iinc 1 1, 3) := by decide +kernel
theorem dX4_record_82 : decode cX4_record 82 = .ok (.goto (-31), 3) := by decide +kernel
theorem dX4_record_85 : decode cX4_record 85 = .ok (.aload_n 0, 1) := by decide +kernel
theorem dX4_record_86 : decode cX4_record 86 = .ok (.dup, 1) := by decide +kernel
theorem dX4_record_87 : decode cX4_record 87 = .ok (.getfield 29, 3) := by decide +kernel
theorem dX4_record_90 : decode cX4_record 90 = .ok (.iconst 1, 1) := by decide +kernel
theorem dX4_record_91 : decode cX4_record 91 = .ok (.iadd, 1) := by decide +kernel
theorem dX4_record_92 : decode cX4_record 92 = .ok (.putfield 29, 3) := by decide +kernel
theorem dX4_record_95 : decode cX4_record 95 = .ok (.return_, 1) := by decide +kernel
theorem dX4_changed_0 : decode cX4_changed 0 = .ok (.iload_n 1, 1) := by decide +kernel
theorem dX4_changed_1 : decode cX4_changed 1 = .ok (.invokestatic 33, 3) := by decide +kernel
theorem dX4_changed_4 : decode cX4_changed 4 = .ok (.ifCond .ne 7, 3) := by decide +kernel
theorem dX4_changed_7 : decode cX4_changed 7 = .ok (.aload_n 0, 1) := by decide +kernel
theorem dX4_changed_8 : decode cX4_changed 8 = .ok (.invokevirtual 37, 3) := by decide +kernel
theorem dX4_changed_11 : decode cX4_changed 11 = .ok (.iload_n 1, 1) := by decide +kernel
theorem dX4_changed_12 : decode cX4_changed 12 = .ok (.ireturn, 1) := by decide +kernel
theorem dX4_get_0 : decode cX4_get 0 = .ok (.aload_n 0, 1) := by decide +kernel
theorem dX4_get_1 : decode cX4_get 1 = .ok (.getfield 7, 3) := by decide +kernel
theorem dX4_get_4 : decode cX4_get 4 = .ok (.bipush 16, 2) := by decide +kernel
theorem dX4_get_6 : decode cX4_get 6 = .ok (.bipush 13, 2) := by decide +kernel
theorem dX4_get_8 : decode cX4_get 8 = .ok (.iload_n 1, 1) := by decide +kernel
theorem dX4_get_9 : decode cX4_get 9 = .ok (.imul, 1) := by decide +kernel
theorem dX4_get_10 : decode cX4_get 10 = .ok (.iadd, 1) := by decide +kernel
theorem dX4_get_11 : decode cX4_get 11 = .ok (.iload_n 2, 1) := by decide +kernel
theorem dX4_get_12 : decode cX4_get 12 = .ok (.iadd, 1) := by decide +kernel
theorem dX4_get_13 : decode cX4_get 13 = .ok (.iaload, 1) := by decide +kernel
theorem dX4_get_14 : decode cX4_get 14 = .ok (.ireturn, 1) := by decide +kernel
theorem dX4_put_0 : decode cX4_put 0 = .ok (.aload_n 0, 1) := by decide +kernel
theorem dX4_put_1 : decode cX4_put 1 = .ok (.getfield 7, 3) := by decide +kernel
theorem dX4_put_4 : decode cX4_put 4 = .ok (.bipush 16, 2) := by decide +kernel
theorem dX4_put_6 : decode cX4_put 6 = .ok (.bipush 13, 2) := by decide +kernel
theorem dX4_put_8 : decode cX4_put 8 = .ok (.iload_n 1, 1) := by decide +kernel
theorem dX4_put_9 : decode cX4_put 9 = .ok (.imul, 1) := by decide +kernel
theorem dX4_put_10 : decode cX4_put 10 = .ok (.iadd, 1) := by decide +kernel
theorem dX4_put_11 : decode cX4_put 11 = .ok (.iload_n 2, 1) := by decide +kernel
theorem dX4_put_12 : decode cX4_put 12 = .ok (.iadd, 1) := by decide +kernel
theorem dX4_put_13 : decode cX4_put 13 = .ok (.iload_n 3, 1) := by decide +kernel
theorem dX4_put_14 : decode cX4_put 14 = .ok (.iastore, 1) := by decide +kernel
theorem dX4_put_15 : decode cX4_put 15 = .ok (.return_, 1) := by decide +kernel
theorem dX4_bits_0 : decode cX4_bits 0 = .ok (.iconst 0, 1) := by decide +kernel
theorem dX4_bits_1 : decode cX4_bits 1 = .ok (.istore_n 1, 1) := by decide +kernel
theorem dX4_bits_2 : decode cX4_bits 2 = .ok (.iload_n 0, 1) := by decide +kernel
theorem dX4_bits_3 : decode cX4_bits 3 = .ok (.istore_n 2, 1) := by decide +kernel
theorem dX4_bits_4 : decode cX4_bits 4 = .ok (.iload_n 2, 1) := by decide +kernel
theorem dX4_bits_5 : decode cX4_bits 5 = .ok (.ifCond .le 16, 3) := by decide +kernel
theorem dX4_bits_8 : decode cX4_bits 8 = .ok (.iload_n 1, 1) := by decide +kernel
theorem dX4_bits_9 : decode cX4_bits 9 = .ok (.iload_n 2, 1) := by decide +kernel
theorem dX4_bits_10 : decode cX4_bits 10 = .ok (.iconst 1, 1) := by decide +kernel
theorem dX4_bits_11 : decode cX4_bits 11 = .ok (.iand, 1) := by decide +kernel
theorem dX4_bits_12 : decode cX4_bits 12 = .ok (.iadd, 1) := by decide +kernel
theorem dX4_bits_13 : decode cX4_bits 13 = .ok (.istore_n 1, 1) := by decide +kernel
theorem dX4_bits_14 : decode cX4_bits 14 = .ok (.iload_n 2, 1) := by decide +kernel
theorem dX4_bits_15 : decode cX4_bits 15 = .ok (.iconst 1, 1) := by decide +kernel
theorem dX4_bits_16 : decode cX4_bits 16 = .ok (.ishr, 1) := by decide +kernel
theorem dX4_bits_17 : decode cX4_bits 17 = .ok (.istore_n 2, 1) := by decide +kernel
theorem dX4_bits_18 : decode cX4_bits 18 = .ok (.goto (-14), 3) := by decide +kernel
theorem dX4_bits_21 : decode cX4_bits 21 = .ok (.iload_n 1, 1) := by decide +kernel
theorem dX4_bits_22 : decode cX4_bits 22 = .ok (.ireturn, 1) := by decide +kernel
theorem dX4_isCondition_0 : decode cX4_isCondition 0 = .ok (.iload_n 1, 1) := by decide +kernel
theorem dX4_isCondition_1 : decode cX4_isCondition 1 = .ok (.i2l, 1) := by decide +kernel
theorem dX4_isCondition_2 : decode cX4_isCondition 2 = .ok (.lconst 0, 1) := by decide +kernel
theorem dX4_isCondition_3 : decode cX4_isCondition 3 = .ok (.aload_n 0, 1) := by decide +kernel
theorem dX4_isCondition_4 : decode cX4_isCondition 4 = .ok (.getfield 7, 3) := by decide +kernel
theorem dX4_isCondition_7 : decode cX4_isCondition 7 = .ok (.iconst 1, 1) := by decide +kernel
theorem dX4_isCondition_8 : decode cX4_isCondition 8 = .ok (.iaload, 1) := by decide +kernel
theorem dX4_isCondition_9 : decode cX4_isCondition 9 = .ok (.i2l, 1) := by decide +kernel
theorem dX4_isCondition_10 : decode cX4_isCondition 10 = .ok (.lconst 1, 1) := by decide +kernel
theorem dX4_isCondition_11 : decode cX4_isCondition 11 = .ok (.lsub, 1) := by decide +kernel
theorem dX4_isCondition_12 : decode cX4_isCondition 12 = .ok (.invokestatic 40, 3) := by decide +kernel
theorem dX4_isCondition_15 : decode cX4_isCondition 15 = .ok (.ireturn, 1) := by decide +kernel
theorem dX4_isStage_0 : decode cX4_isStage 0 = .ok (.iload_n 0, 1) := by decide +kernel
theorem dX4_isStage_1 : decode cX4_isStage 1 = .ok (.i2l, 1) := by decide +kernel
theorem dX4_isStage_2 : decode cX4_isStage 2 = .ok (.lconst 0, 1) := by decide +kernel
theorem dX4_isStage_3 : decode cX4_isStage 3 = .ok (.ldc2_w 44, 3) := by decide +kernel
theorem dX4_isStage_6 : decode cX4_isStage 6 = .ok (.invokestatic 40, 3) := by decide +kernel
theorem dX4_isStage_9 : decode cX4_isStage 9 = .ok (.ireturn, 1) := by decide +kernel
theorem dX4_allParts_0 : decode cX4_allParts 0 = .ok (.iconst 1, 1) := by decide +kernel
theorem dX4_allParts_1 : decode cX4_allParts 1 = .ok (.aload_n 0, 1) := by decide +kernel
theorem dX4_allParts_2 : decode cX4_allParts 2 = .ok (.iload_n 1, 1) := by decide +kernel
theorem dX4_allParts_3 : decode cX4_allParts 3 = .ok (.iconst 3, 1) := by decide +kernel
theorem dX4_allParts_4 : decode cX4_allParts 4 = .ok (.invokevirtual 46, 3) := by decide +kernel
theorem dX4_allParts_7 : decode cX4_allParts 7 = .ok (.ishl, 1) := by decide +kernel
theorem dX4_allParts_8 : decode cX4_allParts 8 = .ok (.iconst 1, 1) := by decide +kernel
theorem dX4_allParts_9 : decode cX4_allParts 9 = .ok (.isub, 1) := by decide +kernel
theorem dX4_allParts_10 : decode cX4_allParts 10 = .ok (.ireturn, 1) := by decide +kernel
theorem dX4_hasBegun_0 : decode cX4_hasBegun 0 = .ok (.aload_n 0, 1) := by decide +kernel
theorem dX4_hasBegun_1 : decode cX4_hasBegun 1 = .ok (.getfield 7, 3) := by decide +kernel
theorem dX4_hasBegun_4 : decode cX4_hasBegun 4 = .ok (.bipush 6, 2) := by decide +kernel
theorem dX4_hasBegun_6 : decode cX4_hasBegun 6 = .ok (.iload_n 1, 1) := by decide +kernel
theorem dX4_hasBegun_7 : decode cX4_hasBegun 7 = .ok (.iadd, 1) := by decide +kernel
theorem dX4_hasBegun_8 : decode cX4_hasBegun 8 = .ok (.iaload, 1) := by decide +kernel
theorem dX4_hasBegun_9 : decode cX4_hasBegun 9 = .ok (.iconst (-1), 1) := by decide +kernel
theorem dX4_hasBegun_10 : decode cX4_hasBegun 10 = .ok (.if_icmp .eq 7, 3) := by decide +kernel
theorem dX4_hasBegun_13 : decode cX4_hasBegun 13 = .ok (.iconst 1, 1) := by decide +kernel
theorem dX4_hasBegun_14 : decode cX4_hasBegun 14 = .ok (.goto 4, 3) := by decide +kernel
theorem dX4_hasBegun_17 : decode cX4_hasBegun 17 = .ok (.iconst 0, 1) := by decide +kernel
theorem dX4_hasBegun_18 : decode cX4_hasBegun 18 = .ok (.ireturn, 1) := by decide +kernel
theorem dX4_isFinished_0 : decode cX4_isFinished 0 = .ok (.aload_n 0, 1) := by decide +kernel
theorem dX4_isFinished_1 : decode cX4_isFinished 1 = .ok (.getfield 7, 3) := by decide +kernel
theorem dX4_isFinished_4 : decode cX4_isFinished 4 = .ok (.bipush 11, 2) := by decide +kernel
theorem dX4_isFinished_6 : decode cX4_isFinished 6 = .ok (.iload_n 1, 1) := by decide +kernel
theorem dX4_isFinished_7 : decode cX4_isFinished 7 = .ok (.iadd, 1) := by decide +kernel
theorem dX4_isFinished_8 : decode cX4_isFinished 8 = .ok (.iaload, 1) := by decide +kernel
theorem dX4_isFinished_9 : decode cX4_isFinished 9 = .ok (.iconst (-1), 1) := by decide +kernel
theorem dX4_isFinished_10 : decode cX4_isFinished 10 = .ok (.if_icmp .eq 7, 3) := by decide +kernel
theorem dX4_isFinished_13 : decode cX4_isFinished 13 = .ok (.iconst 1, 1) := by decide +kernel
theorem dX4_isFinished_14 : decode cX4_isFinished 14 = .ok (.goto 4, 3) := by decide +kernel
theorem dX4_isFinished_17 : decode cX4_isFinished 17 = .ok (.iconst 0, 1) := by decide +kernel
theorem dX4_isFinished_18 : decode cX4_isFinished 18 = .ok (.ireturn, 1) := by decide +kernel
theorem dX4_isMet_0 : decode cX4_isMet 0 = .ok (.aload_n 0, 1) := by decide +kernel
theorem dX4_isMet_1 : decode cX4_isMet 1 = .ok (.iload_n 1, 1) := by decide +kernel
theorem dX4_isMet_2 : decode cX4_isMet 2 = .ok (.iconst 0, 1) := by decide +kernel
theorem dX4_isMet_3 : decode cX4_isMet 3 = .ok (.invokevirtual 46, 3) := by decide +kernel
theorem dX4_isMet_6 : decode cX4_isMet 6 = .ok (.iconst 2, 1) := by decide +kernel
theorem dX4_isMet_7 : decode cX4_isMet 7 = .ok (.if_icmp .ne 27, 3) := by decide +kernel
theorem dX4_isMet_10 : decode cX4_isMet 10 = .ok (.aload_n 0, 1) := by decide +kernel
theorem dX4_isMet_11 : decode cX4_isMet 11 = .ok (.iload_n 1, 1) := by decide +kernel
theorem dX4_isMet_12 : decode cX4_isMet 12 = .ok (.bipush 7, 2) := by decide +kernel
theorem dX4_isMet_14 : decode cX4_isMet 14 = .ok (.invokevirtual 46, 3) := by decide +kernel
theorem dX4_isMet_17 : decode cX4_isMet 17 = .ok (.aload_n 0, 1) := by decide +kernel
theorem dX4_isMet_18 : decode cX4_isMet 18 = .ok (.iload_n 1, 1) := by decide +kernel
theorem dX4_isMet_19 : decode cX4_isMet 19 = .ok (.iconst 2, 1) := by decide +kernel
theorem dX4_isMet_20 : decode cX4_isMet 20 = .ok (.invokevirtual 46, 3) := by decide +kernel
theorem dX4_isMet_23 : decode cX4_isMet 23 = .ok (.if_icmp .lt 7, 3) := by decide +kernel
theorem dX4_isMet_26 : decode cX4_isMet 26 = .ok (.iconst 1, 1) := by decide +kernel
theorem dX4_isMet_27 : decode cX4_isMet 27 = .ok (.goto 26, 3) := by decide +kernel
theorem dX4_isMet_30 : decode cX4_isMet 30 = .ok (.iconst 0, 1) := by decide +kernel
theorem dX4_isMet_31 : decode cX4_isMet 31 = .ok (.goto 22, 3) := by decide +kernel
theorem dX4_isMet_34 : decode cX4_isMet 34 = .ok (.aload_n 0, 1) := by decide +kernel
theorem dX4_isMet_35 : decode cX4_isMet 35 = .ok (.iload_n 1, 1) := by decide +kernel
theorem dX4_isMet_36 : decode cX4_isMet 36 = .ok (.iconst 4, 1) := by decide +kernel
theorem dX4_isMet_37 : decode cX4_isMet 37 = .ok (.invokevirtual 46, 3) := by decide +kernel
theorem dX4_isMet_40 : decode cX4_isMet 40 = .ok (.aload_n 0, 1) := by decide +kernel
theorem dX4_isMet_41 : decode cX4_isMet 41 = .ok (.iload_n 1, 1) := by decide +kernel
theorem dX4_isMet_42 : decode cX4_isMet 42 = .ok (.invokevirtual 50, 3) := by decide +kernel
theorem dX4_isMet_45 : decode cX4_isMet 45 = .ok (.if_icmp .ne 7, 3) := by decide +kernel
theorem dX4_isMet_48 : decode cX4_isMet 48 = .ok (.iconst 1, 1) := by decide +kernel
theorem dX4_isMet_49 : decode cX4_isMet 49 = .ok (.goto 4, 3) := by decide +kernel
theorem dX4_isMet_52 : decode cX4_isMet 52 = .ok (.iconst 0, 1) := by decide +kernel
theorem dX4_isMet_53 : decode cX4_isMet 53 = .ok (.ireturn, 1) := by decide +kernel
theorem dX4_isAsleep_0 : decode cX4_isAsleep 0 = .ok (.aload_n 0, 1) := by decide +kernel
theorem dX4_isAsleep_1 : decode cX4_isAsleep 1 = .ok (.iload_n 1, 1) := by decide +kernel
theorem dX4_isAsleep_2 : decode cX4_isAsleep 2 = .ok (.iconst 0, 1) := by decide +kernel
theorem dX4_isAsleep_3 : decode cX4_isAsleep 3 = .ok (.invokevirtual 46, 3) := by decide +kernel
theorem dX4_isAsleep_6 : decode cX4_isAsleep 6 = .ok (.istore_n 2, 1) := by decide +kernel
theorem dX4_isAsleep_7 : decode cX4_isAsleep 7 = .ok (.aload_n 0, 1) := by decide +kernel
theorem dX4_isAsleep_8 : decode cX4_isAsleep 8 = .ok (.iload_n 1, 1) := by decide +kernel
theorem dX4_isAsleep_9 : decode cX4_isAsleep 9 = .ok (.iconst 1, 1) := by decide +kernel
theorem dX4_isAsleep_10 : decode cX4_isAsleep 10 = .ok (.invokevirtual 46, 3) := by decide +kernel
theorem dX4_isAsleep_13 : decode cX4_isAsleep 13 = .ok (.istore_n 3, 1) := by decide +kernel
theorem dX4_isAsleep_14 : decode cX4_isAsleep 14 = .ok (.iload_n 2, 1) := by decide +kernel
theorem dX4_isAsleep_15 : decode cX4_isAsleep 15 = .ok (.iconst 1, 1) := by decide +kernel
theorem dX4_isAsleep_16 : decode cX4_isAsleep 16 = .ok (.if_icmp .ne 11, 3) := by decide +kernel
theorem dX4_isAsleep_19 : decode cX4_isAsleep 19 = .ok (.aload_n 0, 1) := by decide +kernel
theorem dX4_isAsleep_20 : decode cX4_isAsleep 20 = .ok (.iload_n 3, 1) := by decide +kernel
theorem dX4_isAsleep_21 : decode cX4_isAsleep 21 = .ok (.invokevirtual 54, 3) := by decide +kernel
theorem dX4_isAsleep_24 : decode cX4_isAsleep 24 = .ok (.ifCond .eq 16, 3) := by decide +kernel
theorem dX4_isAsleep_27 : decode cX4_isAsleep 27 = .ok (.iload_n 2, 1) := by decide +kernel
theorem dX4_isAsleep_28 : decode cX4_isAsleep 28 = .ok (.iconst 2, 1) := by decide +kernel
theorem dX4_isAsleep_29 : decode cX4_isAsleep 29 = .ok (.if_icmp .ne 15, 3) := by decide +kernel
theorem dX4_isAsleep_32 : decode cX4_isAsleep 32 = .ok (.aload_n 0, 1) := by decide +kernel
theorem dX4_isAsleep_33 : decode cX4_isAsleep 33 = .ok (.iload_n 3, 1) := by decide +kernel
theorem dX4_isAsleep_34 : decode cX4_isAsleep 34 = .ok (.invokevirtual 57, 3) := by decide +kernel
theorem dX4_isAsleep_37 : decode cX4_isAsleep 37 = .ok (.ifCond .ne 7, 3) := by decide +kernel
theorem dX4_isAsleep_40 : decode cX4_isAsleep 40 = .ok (.iconst 1, 1) := by decide +kernel
theorem dX4_isAsleep_41 : decode cX4_isAsleep 41 = .ok (.goto 4, 3) := by decide +kernel
theorem dX4_isAsleep_44 : decode cX4_isAsleep 44 = .ok (.iconst 0, 1) := by decide +kernel
theorem dX4_isAsleep_45 : decode cX4_isAsleep 45 = .ok (.ireturn, 1) := by decide +kernel
theorem dX4_stateOf_0 : decode cX4_stateOf 0 = .ok (.aload_n 0, 1) := by decide +kernel
theorem dX4_stateOf_1 : decode cX4_stateOf 1 = .ok (.iload_n 1, 1) := by decide +kernel
theorem dX4_stateOf_2 : decode cX4_stateOf 2 = .ok (.bipush 12, 2) := by decide +kernel
theorem dX4_stateOf_4 : decode cX4_stateOf 4 = .ok (.invokevirtual 46, 3) := by decide +kernel
theorem dX4_stateOf_7 : decode cX4_stateOf 7 = .ok (.iconst 1, 1) := by decide +kernel
theorem dX4_stateOf_8 : decode cX4_stateOf 8 = .ok (.if_icmp .ne 5, 3) := by decide +kernel
theorem dX4_stateOf_11 : decode cX4_stateOf 11 = .ok (.iconst 4, 1) := by decide +kernel
theorem dX4_stateOf_12 : decode cX4_stateOf 12 = .ok (.ireturn, 1) := by decide +kernel
theorem dX4_stateOf_13 : decode cX4_stateOf 13 = .ok (.aload_n 0, 1) := by decide +kernel
theorem dX4_stateOf_14 : decode cX4_stateOf 14 = .ok (.iload_n 1, 1) := by decide +kernel
theorem dX4_stateOf_15 : decode cX4_stateOf 15 = .ok (.bipush 8, 2) := by decide +kernel
theorem dX4_stateOf_17 : decode cX4_stateOf 17 = .ok (.invokevirtual 46, 3) := by decide +kernel
theorem dX4_stateOf_20 : decode cX4_stateOf 20 = .ok (.iconst 1, 1) := by decide +kernel
theorem dX4_stateOf_21 : decode cX4_stateOf 21 = .ok (.if_icmp .ne 5, 3) := by decide +kernel
theorem dX4_stateOf_24 : decode cX4_stateOf 24 = .ok (.iconst 3, 1) := by decide +kernel
theorem dX4_stateOf_25 : decode cX4_stateOf 25 = .ok (.ireturn, 1) := by decide +kernel
theorem dX4_stateOf_26 : decode cX4_stateOf 26 = .ok (.aload_n 0, 1) := by decide +kernel
theorem dX4_stateOf_27 : decode cX4_stateOf 27 = .ok (.iload_n 1, 1) := by decide +kernel
theorem dX4_stateOf_28 : decode cX4_stateOf 28 = .ok (.invokevirtual 60, 3) := by decide +kernel
theorem dX4_stateOf_31 : decode cX4_stateOf 31 = .ok (.ifCond .eq 7, 3) := by decide +kernel
theorem dX4_stateOf_34 : decode cX4_stateOf 34 = .ok (.iconst 2, 1) := by decide +kernel
theorem dX4_stateOf_35 : decode cX4_stateOf 35 = .ok (.goto 16, 3) := by decide +kernel
theorem dX4_stateOf_38 : decode cX4_stateOf 38 = .ok (.aload_n 0, 1) := by decide +kernel
theorem dX4_stateOf_39 : decode cX4_stateOf 39 = .ok (.iload_n 1, 1) := by decide +kernel
theorem dX4_stateOf_40 : decode cX4_stateOf 40 = .ok (.invokevirtual 63, 3) := by decide +kernel
theorem dX4_stateOf_43 : decode cX4_stateOf 43 = .ok (.ifCond .eq 7, 3) := by decide +kernel
theorem dX4_stateOf_46 : decode cX4_stateOf 46 = .ok (.iconst 0, 1) := by decide +kernel
theorem dX4_stateOf_47 : decode cX4_stateOf 47 = .ok (.goto 4, 3) := by decide +kernel
theorem dX4_stateOf_50 : decode cX4_stateOf 50 = .ok (.iconst 1, 1) := by decide +kernel
theorem dX4_stateOf_51 : decode cX4_stateOf 51 = .ok (.ireturn, 1) := by decide +kernel
theorem dX4_breaks_0 : decode cX4_breaks 0 = .ok (.aload_n 0, 1) := by decide +kernel
theorem dX4_breaks_1 : decode cX4_breaks 1 = .ok (.iload_n 1, 1) := by decide +kernel
theorem dX4_breaks_2 : decode cX4_breaks 2 = .ok (.bipush 8, 2) := by decide +kernel
theorem dX4_breaks_4 : decode cX4_breaks 4 = .ok (.iconst 1, 1) := by decide +kernel
theorem dX4_breaks_5 : decode cX4_breaks 5 = .ok (.invokevirtual 66, 3) := by decide +kernel
theorem dX4_breaks_8 : decode cX4_breaks 8 = .ok (.aload_n 0, 1) := by decide +kernel
theorem dX4_breaks_9 : decode cX4_breaks 9 = .ok (.iload_n 1, 1) := by decide +kernel
theorem dX4_breaks_10 : decode cX4_breaks 10 = .ok (.bipush 9, 2) := by decide +kernel
theorem dX4_breaks_12 : decode cX4_breaks 12 = .ok (.iconst 0, 1) := by decide +kernel
theorem dX4_breaks_13 : decode cX4_breaks 13 = .ok (.invokevirtual 66, 3) := by decide +kernel
theorem dX4_breaks_16 : decode cX4_breaks 16 = .ok (.aload_n 0, 1) := by decide +kernel
theorem dX4_breaks_17 : decode cX4_breaks 17 = .ok (.iload_n 1, 1) := by decide +kernel
theorem dX4_breaks_18 : decode cX4_breaks 18 = .ok (.bipush 10, 2) := by decide +kernel
theorem dX4_breaks_20 : decode cX4_breaks 20 = .ok (.iconst (-1), 1) := by decide +kernel
theorem dX4_breaks_21 : decode cX4_breaks 21 = .ok (.invokevirtual 66, 3) := by decide +kernel
theorem dX4_breaks_24 : decode cX4_breaks 24 = .ok (.aload_n 0, 1) := by decide +kernel
theorem dX4_breaks_25 : decode cX4_breaks 25 = .ok (.getfield 7, 3) := by decide +kernel
theorem dX4_breaks_28 : decode cX4_breaks 28 = .ok (.iconst 4, 1) := by decide +kernel
theorem dX4_breaks_29 : decode cX4_breaks 29 = .ok (.dup2, 1) := by decide +kernel
theorem dX4_breaks_30 : decode cX4_breaks 30 = .ok (.iaload, 1) := by decide +kernel
theorem dX4_breaks_31 : decode cX4_breaks 31 = .ok (.iconst 1, 1) := by decide +kernel
theorem dX4_breaks_32 : decode cX4_breaks 32 = .ok (.iadd, 1) := by decide +kernel
theorem dX4_breaks_33 : decode cX4_breaks 33 = .ok (.iastore, 1) := by decide +kernel
theorem dX4_breaks_34 : decode cX4_breaks 34 = .ok (.return_, 1) := by decide +kernel
theorem dX4_mends_0 : decode cX4_mends 0 = .ok (.aload_n 0, 1) := by decide +kernel
theorem dX4_mends_1 : decode cX4_mends 1 = .ok (.iload_n 1, 1) := by decide +kernel
theorem dX4_mends_2 : decode cX4_mends 2 = .ok (.bipush 8, 2) := by decide +kernel
theorem dX4_mends_4 : decode cX4_mends 4 = .ok (.iconst 0, 1) := by decide +kernel
theorem dX4_mends_5 : decode cX4_mends 5 = .ok (.invokevirtual 66, 3) := by decide +kernel
theorem dX4_mends_8 : decode cX4_mends 8 = .ok (.aload_n 0, 1) := by decide +kernel
theorem dX4_mends_9 : decode cX4_mends 9 = .ok (.iload_n 1, 1) := by decide +kernel
theorem dX4_mends_10 : decode cX4_mends 10 = .ok (.bipush 9, 2) := by decide +kernel
theorem dX4_mends_12 : decode cX4_mends 12 = .ok (.iconst 0, 1) := by decide +kernel
theorem dX4_mends_13 : decode cX4_mends 13 = .ok (.invokevirtual 66, 3) := by decide +kernel
theorem dX4_mends_16 : decode cX4_mends 16 = .ok (.aload_n 0, 1) := by decide +kernel
theorem dX4_mends_17 : decode cX4_mends 17 = .ok (.iload_n 1, 1) := by decide +kernel
theorem dX4_mends_18 : decode cX4_mends 18 = .ok (.bipush 10, 2) := by decide +kernel
theorem dX4_mends_20 : decode cX4_mends 20 = .ok (.iconst (-1), 1) := by decide +kernel
theorem dX4_mends_21 : decode cX4_mends 21 = .ok (.invokevirtual 66, 3) := by decide +kernel
theorem dX4_mends_24 : decode cX4_mends 24 = .ok (.return_, 1) := by decide +kernel
theorem dX4_approves_0 : decode cX4_approves 0 = .ok (.aload_n 0, 1) := by decide +kernel
theorem dX4_approves_1 : decode cX4_approves 1 = .ok (.iload_n 1, 1) := by decide +kernel
theorem dX4_approves_2 : decode cX4_approves 2 = .ok (.iconst 4, 1) := by decide +kernel
theorem dX4_approves_3 : decode cX4_approves 3 = .ok (.aload_n 0, 1) := by decide +kernel
theorem dX4_approves_4 : decode cX4_approves 4 = .ok (.iload_n 1, 1) := by decide +kernel
theorem dX4_approves_5 : decode cX4_approves 5 = .ok (.iconst 4, 1) := by decide +kernel
theorem dX4_approves_6 : decode cX4_approves 6 = .ok (.invokevirtual 46, 3) := by decide +kernel
theorem dX4_approves_9 : decode cX4_approves 9 = .ok (.iload_n 2, 1) := by decide +kernel
theorem dX4_approves_10 : decode cX4_approves 10 = .ok (.ior, 1) := by decide +kernel
theorem dX4_approves_11 : decode cX4_approves 11 = .ok (.invokevirtual 66, 3) := by decide +kernel
theorem dX4_approves_14 : decode cX4_approves 14 = .ok (.aload_n 0, 1) := by decide +kernel
theorem dX4_approves_15 : decode cX4_approves 15 = .ok (.iload_n 1, 1) := by decide +kernel
theorem dX4_approves_16 : decode cX4_approves 16 = .ok (.iconst 5, 1) := by decide +kernel
theorem dX4_approves_17 : decode cX4_approves 17 = .ok (.iconst 0, 1) := by decide +kernel
theorem dX4_approves_18 : decode cX4_approves 18 = .ok (.invokevirtual 66, 3) := by decide +kernel
theorem dX4_approves_21 : decode cX4_approves 21 = .ok (.aload_n 0, 1) := by decide +kernel
theorem dX4_approves_22 : decode cX4_approves 22 = .ok (.iload_n 1, 1) := by decide +kernel
theorem dX4_approves_23 : decode cX4_approves 23 = .ok (.bipush 6, 2) := by decide +kernel
theorem dX4_approves_25 : decode cX4_approves 25 = .ok (.iconst 0, 1) := by decide +kernel
theorem dX4_approves_26 : decode cX4_approves 26 = .ok (.invokevirtual 66, 3) := by decide +kernel
theorem dX4_approves_29 : decode cX4_approves 29 = .ok (.aload_n 0, 1) := by decide +kernel
theorem dX4_approves_30 : decode cX4_approves 30 = .ok (.iload_n 1, 1) := by decide +kernel
theorem dX4_approves_31 : decode cX4_approves 31 = .ok (.invokevirtual 60, 3) := by decide +kernel
theorem dX4_approves_34 : decode cX4_approves 34 = .ok (.ifCond .eq 19, 3) := by decide +kernel
theorem dX4_approves_37 : decode cX4_approves 37 = .ok (.aload_n 0, 1) := by decide +kernel
theorem dX4_approves_38 : decode cX4_approves 38 = .ok (.iload_n 1, 1) := by decide +kernel
theorem dX4_approves_39 : decode cX4_approves 39 = .ok (.bipush 8, 2) := by decide +kernel
theorem dX4_approves_41 : decode cX4_approves 41 = .ok (.invokevirtual 46, 3) := by decide +kernel
theorem dX4_approves_44 : decode cX4_approves 44 = .ok (.iconst 1, 1) := by decide +kernel
theorem dX4_approves_45 : decode cX4_approves 45 = .ok (.if_icmp .ne 8, 3) := by decide +kernel
theorem dX4_approves_48 : decode cX4_approves 48 = .ok (.aload_n 0, 1) := by decide +kernel
theorem dX4_approves_49 : decode cX4_approves 49 = .ok (.iload_n 1, 1) := by decide +kernel
theorem dX4_approves_50 : decode cX4_approves 50 = .ok (.invokevirtual 70, 3) := by decide +kernel
theorem dX4_approves_53 : decode cX4_approves 53 = .ok (.return_, 1) := by decide +kernel
theorem dX4_areDays_0 : decode cX4_areDays 0 = .ok (.iload_n 1, 1) := by decide +kernel
theorem dX4_areDays_1 : decode cX4_areDays 1 = .ok (.i2l, 1) := by decide +kernel
theorem dX4_areDays_2 : decode cX4_areDays 2 = .ok (.iload_n 0, 1) := by decide +kernel
theorem dX4_areDays_3 : decode cX4_areDays 3 = .ok (.iconst 2, 1) := by decide +kernel
theorem dX4_areDays_4 : decode cX4_areDays 4 = .ok (.if_icmp .ne 7, 3) := by decide +kernel
theorem dX4_areDays_7 : decode cX4_areDays 7 = .ok (.lconst 1, 1) := by decide +kernel
theorem dX4_areDays_8 : decode cX4_areDays 8 = .ok (.goto 4, 3) := by decide +kernel
theorem dX4_areDays_11 : decode cX4_areDays 11 = .ok (.lconst 0, 1) := by decide +kernel
theorem dX4_areDays_12 : decode cX4_areDays 12 = .ok (.ldc2_w 74, 3) := by decide +kernel
theorem dX4_areDays_15 : decode cX4_areDays 15 = .ok (.invokestatic 40, 3) := by decide +kernel
theorem dX4_areDays_18 : decode cX4_areDays 18 = .ok (.ireturn, 1) := by decide +kernel
theorem dX4_doCondition_0 : decode cX4_doCondition 0 = .ok (.iload_n 1, 1) := by decide +kernel
theorem dX4_doCondition_1 : decode cX4_doCondition 1 = .ok (.i2l, 1) := by decide +kernel
theorem dX4_doCondition_2 : decode cX4_doCondition 2 = .ok (.lconst 0, 1) := by decide +kernel
theorem dX4_doCondition_3 : decode cX4_doCondition 3 = .ok (.ldc2_w 76, 3) := by decide +kernel
theorem dX4_doCondition_6 : decode cX4_doCondition 6 = .ok (.invokestatic 40, 3) := by decide +kernel
theorem dX4_doCondition_9 : decode cX4_doCondition 9 = .ok (.ifCond .eq 31, 3) := by decide +kernel
theorem dX4_doCondition_12 : decode cX4_doCondition 12 = .ok (.iload_n 2, 1) := by decide +kernel
theorem dX4_doCondition_13 : decode cX4_doCondition 13 = .ok (.invokestatic 78, 3) := by decide +kernel
theorem dX4_doCondition_16 : decode cX4_doCondition 16 = .ok (.ifCond .eq 24, 3) := by decide +kernel
theorem dX4_doCondition_19 : decode cX4_doCondition 19 = .ok (.iload_n 1, 1) := by decide +kernel
theorem dX4_doCondition_20 : decode cX4_doCondition 20 = .ok (.iload_n 3, 1) := by decide +kernel
theorem dX4_doCondition_21 : decode cX4_doCondition 21 = .ok (.invokestatic 81, 3) := by decide +kernel
theorem dX4_doCondition_24 : decode cX4_doCondition 24 = .ok (.ifCond .eq 16, 3) := by decide +kernel
theorem dX4_doCondition_27 : decode cX4_doCondition 27 = .ok (.iload 4, 2) := by decide +kernel
theorem dX4_doCondition_29 : decode cX4_doCondition 29 = .ok (.i2l, 1) := by decide +kernel
theorem dX4_doCondition_30 : decode cX4_doCondition 30 = .ok (.lconst 1, 1) := by decide +kernel
theorem dX4_doCondition_31 : decode cX4_doCondition 31 = .ok (.ldc2_w 85, 3) := by decide +kernel
theorem dX4_doCondition_34 : decode cX4_doCondition 34 = .ok (.invokestatic 40, 3) := by decide +kernel
theorem dX4_doCondition_37 : decode cX4_doCondition 37 = .ok (.ifCond .ne 6, 3) := by decide +kernel
theorem dX4_doCondition_40 : decode cX4_doCondition 40 = .ok (.ldc 87, 2) := by decide +kernel
theorem dX4_doCondition_42 : decode cX4_doCondition 42 = .ok (.ireturn, 1) := by decide +kernel
theorem dX4_doCondition_43 : decode cX4_doCondition 43 = .ok (.aload_n 0, 1) := by decide +kernel
theorem dX4_doCondition_44 : decode cX4_doCondition 44 = .ok (.iload_n 2, 1) := by decide +kernel
theorem dX4_doCondition_45 : decode cX4_doCondition 45 = .ok (.invokevirtual 54, 3) := by decide +kernel
theorem dX4_doCondition_48 : decode cX4_doCondition 48 = .ok (.ifCond .eq 6, 3) := by decide +kernel
theorem dX4_doCondition_51 : decode cX4_doCondition 51 = .ok (.ldc 88, 2) := by decide +kernel
theorem dX4_doCondition_53 : decode cX4_doCondition 53 = .ok (.ireturn, 1) := by decide +kernel
theorem dX4_doCondition_54 : decode cX4_doCondition 54 = .ok (.aload_n 0, 1) := by decide +kernel
theorem dX4_doCondition_55 : decode cX4_doCondition 55 = .ok (.getfield 7, 3) := by decide +kernel
theorem dX4_doCondition_58 : decode cX4_doCondition 58 = .ok (.iconst 1, 1) := by decide +kernel
theorem dX4_doCondition_59 : decode cX4_doCondition 59 = .ok (.iaload, 1) := by decide +kernel
theorem dX4_doCondition_60 : decode cX4_doCondition 60 = .ok (.bipush 10, 2) := by decide +kernel
theorem dX4_doCondition_62 : decode cX4_doCondition 62 = .ok (.if_icmp .ne 6, 3) := by decide +kernel
theorem dX4_doCondition_65 : decode cX4_doCondition 65 = .ok (.ldc 89, 2) := by decide +kernel
theorem dX4_doCondition_67 : decode cX4_doCondition 67 = .ok (.ireturn, 1) := by decide +kernel
theorem dX4_doCondition_68 : decode cX4_doCondition 68 = .ok (.aload_n 0, 1) := by decide +kernel
theorem dX4_doCondition_69 : decode cX4_doCondition 69 = .ok (.getfield 7, 3) := by decide +kernel
theorem dX4_doCondition_72 : decode cX4_doCondition 72 = .ok (.iconst 1, 1) := by decide +kernel
theorem dX4_doCondition_73 : decode cX4_doCondition 73 = .ok (.iaload, 1) := by decide +kernel
theorem dX4_doCondition_74 : decode cX4_doCondition 74 = .ok (.istore 5, 2) := by decide +kernel
theorem dX4_doCondition_76 : decode cX4_doCondition 76 = .ok (.aload_n 0, 1) := by decide +kernel
theorem dX4_doCondition_77 : decode cX4_doCondition 77 = .ok (.getfield 7, 3) := by decide +kernel
theorem dX4_doCondition_80 : decode cX4_doCondition 80 = .ok (.iconst 1, 1) := by decide +kernel
theorem dX4_doCondition_81 : decode cX4_doCondition 81 = .ok (.dup2, 1) := by decide +kernel
theorem dX4_doCondition_82 : decode cX4_doCondition 82 = .ok (.iaload, 1) := by decide +kernel
theorem dX4_doCondition_83 : decode cX4_doCondition 83 = .ok (.iconst 1, 1) := by decide +kernel
theorem dX4_doCondition_84 : decode cX4_doCondition 84 = .ok (.iadd, 1) := by decide +kernel
theorem dX4_doCondition_85 : decode cX4_doCondition 85 = .ok (.iastore, 1) := by decide +kernel
theorem dX4_doCondition_86 : decode cX4_doCondition 86 = .ok (.iconst 0, 1) := by decide +kernel
theorem dX4_doCondition_87 : decode cX4_doCondition 87 = .ok (.istore 6, 2) := by decide +kernel
theorem dX4_doCondition_89 : decode cX4_doCondition 89 = .ok (.iload 6, 2) := by decide +kernel
theorem dX4_doCondition_91 : decode cX4_doCondition 91 = .ok (.bipush 13, 2) := by decide +kernel
theorem dX4_doCondition_93 : decode cX4_doCondition 93 = .ok (.if_icmp .ge 18, 3) := by decide +kernel
theorem dX4_doCondition_96 : decode cX4_doCondition 96 = .ok (.aload_n 0, 1) := by decide +kernel
theorem dX4_doCondition_97 : decode cX4_doCondition 97 = .ok (.iload 5, 2) := by decide +kernel
theorem dX4_doCondition_99 : decode cX4_doCondition 99 = .ok (.iload 6, 2) := by decide +kernel
theorem dX4_doCondition_101 : decode cX4_doCondition 101 = .ok (.iconst 0, 1) := by decide +kernel
theorem dX4_doCondition_102 : decode cX4_doCondition 102 = .ok (.invokevirtual 66, 3) := by decide +kernel
theorem dX4_doCondition_105 : decode cX4_doCondition 105 = .ok (.iinc 6 1, 3) := by decide +kernel
theorem dX4_doCondition_108 : decode cX4_doCondition 108 = .ok (.goto (-19), 3) := by decide +kernel
theorem dX4_doCondition_111 : decode cX4_doCondition 111 = .ok (.aload_n 0, 1) := by decide +kernel
theorem dX4_doCondition_112 : decode cX4_doCondition 112 = .ok (.iload 5, 2) := by decide +kernel
theorem dX4_doCondition_114 : decode cX4_doCondition 114 = .ok (.iconst 0, 1) := by decide +kernel
theorem dX4_doCondition_115 : decode cX4_doCondition 115 = .ok (.iload_n 1, 1) := by decide +kernel
theorem dX4_doCondition_116 : decode cX4_doCondition 116 = .ok (.invokevirtual 66, 3) := by decide +kernel
theorem dX4_doCondition_119 : decode cX4_doCondition 119 = .ok (.aload_n 0, 1) := by decide +kernel
theorem dX4_doCondition_120 : decode cX4_doCondition 120 = .ok (.iload 5, 2) := by decide +kernel
theorem dX4_doCondition_122 : decode cX4_doCondition 122 = .ok (.iconst 1, 1) := by decide +kernel
theorem dX4_doCondition_123 : decode cX4_doCondition 123 = .ok (.iload_n 2, 1) := by decide +kernel
theorem dX4_doCondition_124 : decode cX4_doCondition 124 = .ok (.invokevirtual 66, 3) := by decide +kernel
theorem dX4_doCondition_127 : decode cX4_doCondition 127 = .ok (.aload_n 0, 1) := by decide +kernel
theorem dX4_doCondition_128 : decode cX4_doCondition 128 = .ok (.iload 5, 2) := by decide +kernel
theorem dX4_doCondition_130 : decode cX4_doCondition 130 = .ok (.iconst 2, 1) := by decide +kernel
theorem dX4_doCondition_131 : decode cX4_doCondition 131 = .ok (.iload_n 3, 1) := by decide +kernel
theorem dX4_doCondition_132 : decode cX4_doCondition 132 = .ok (.invokevirtual 66, 3) := by decide +kernel
theorem dX4_doCondition_135 : decode cX4_doCondition 135 = .ok (.aload_n 0, 1) := by decide +kernel
theorem dX4_doCondition_136 : decode cX4_doCondition 136 = .ok (.iload 5, 2) := by decide +kernel
theorem dX4_doCondition_138 : decode cX4_doCondition 138 = .ok (.iconst 3, 1) := by decide +kernel
theorem dX4_doCondition_139 : decode cX4_doCondition 139 = .ok (.iload 4, 2) := by decide +kernel
theorem dX4_doCondition_141 : decode cX4_doCondition 141 = .ok (.invokevirtual 66, 3) := by decide +kernel
theorem dX4_doCondition_144 : decode cX4_doCondition 144 = .ok (.aload_n 0, 1) := by decide +kernel
theorem dX4_doCondition_145 : decode cX4_doCondition 145 = .ok (.iload 5, 2) := by decide +kernel
theorem dX4_doCondition_147 : decode cX4_doCondition 147 = .ok (.bipush 10, 2) := by decide +kernel
theorem dX4_doCondition_149 : decode cX4_doCondition 149 = .ok (.iconst (-1), 1) := by decide +kernel
theorem dX4_doCondition_150 : decode cX4_doCondition 150 = .ok (.invokevirtual 66, 3) := by decide +kernel
theorem dX4_doCondition_153 : decode cX4_doCondition 153 = .ok (.iload 5, 2) := by decide +kernel
theorem dX4_doCondition_155 : decode cX4_doCondition 155 = .ok (.ireturn, 1) := by decide +kernel
theorem dX4_mayBegin_0 : decode cX4_mayBegin 0 = .ok (.aload_n 0, 1) := by decide +kernel
theorem dX4_mayBegin_1 : decode cX4_mayBegin 1 = .ok (.iload_n 1, 1) := by decide +kernel
theorem dX4_mayBegin_2 : decode cX4_mayBegin 2 = .ok (.invokevirtual 54, 3) := by decide +kernel
theorem dX4_mayBegin_5 : decode cX4_mayBegin 5 = .ok (.ifCond .ne 21, 3) := by decide +kernel
theorem dX4_mayBegin_8 : decode cX4_mayBegin 8 = .ok (.iload_n 1, 1) := by decide +kernel
theorem dX4_mayBegin_9 : decode cX4_mayBegin 9 = .ok (.ifCond .eq 13, 3) := by decide +kernel
theorem dX4_mayBegin_12 : decode cX4_mayBegin 12 = .ok (.aload_n 0, 1) := by decide +kernel
theorem dX4_mayBegin_13 : decode cX4_mayBegin 13 = .ok (.iload_n 1, 1) := by decide +kernel
theorem dX4_mayBegin_14 : decode cX4_mayBegin 14 = .ok (.iconst 1, 1) := by decide +kernel
theorem dX4_mayBegin_15 : decode cX4_mayBegin 15 = .ok (.isub, 1) := by decide +kernel
theorem dX4_mayBegin_16 : decode cX4_mayBegin 16 = .ok (.invokevirtual 54, 3) := by decide +kernel
theorem dX4_mayBegin_19 : decode cX4_mayBegin 19 = .ok (.ifCond .eq 7, 3) := by decide +kernel
theorem dX4_mayBegin_22 : decode cX4_mayBegin 22 = .ok (.iconst 1, 1) := by decide +kernel
theorem dX4_mayBegin_23 : decode cX4_mayBegin 23 = .ok (.goto 4, 3) := by decide +kernel
theorem dX4_mayBegin_26 : decode cX4_mayBegin 26 = .ok (.iconst 0, 1) := by decide +kernel
theorem dX4_mayBegin_27 : decode cX4_mayBegin 27 = .ok (.ireturn, 1) := by decide +kernel
theorem dX4_unmetAhead_0 : decode cX4_unmetAhead 0 = .ok (.iconst 0, 1) := by decide +kernel
theorem dX4_unmetAhead_1 : decode cX4_unmetAhead 1 = .ok (.istore_n 2, 1) := by decide +kernel
theorem dX4_unmetAhead_2 : decode cX4_unmetAhead 2 = .ok (.iconst 0, 1) := by decide +kernel
theorem dX4_unmetAhead_3 : decode cX4_unmetAhead 3 = .ok (.istore_n 3, 1) := by decide +kernel
theorem dX4_unmetAhead_4 : decode cX4_unmetAhead 4 = .ok (.iload_n 3, 1) := by decide +kernel
theorem dX4_unmetAhead_5 : decode cX4_unmetAhead 5 = .ok (.aload_n 0, 1) := by decide +kernel
theorem dX4_unmetAhead_6 : decode cX4_unmetAhead 6 = .ok (.getfield 7, 3) := by decide +kernel
theorem dX4_unmetAhead_9 : decode cX4_unmetAhead 9 = .ok (.iconst 1, 1) := by decide +kernel
theorem dX4_unmetAhead_10 : decode cX4_unmetAhead 10 = .ok (.iaload, 1) := by decide +kernel
theorem dX4_unmetAhead_11 : decode cX4_unmetAhead 11 = .ok (.if_icmp .ge 46, 3) := by decide +kernel
theorem dX4_unmetAhead_14 : decode cX4_unmetAhead 14 = .ok (.iload_n 2, 1) := by decide +kernel
theorem dX4_unmetAhead_15 : decode cX4_unmetAhead 15 = .ok (.aload_n 0, 1) := by decide +kernel
theorem dX4_unmetAhead_16 : decode cX4_unmetAhead 16 = .ok (.iload_n 3, 1) := by decide +kernel
theorem dX4_unmetAhead_17 : decode cX4_unmetAhead 17 = .ok (.iconst 0, 1) := by decide +kernel
theorem dX4_unmetAhead_18 : decode cX4_unmetAhead 18 = .ok (.invokevirtual 46, 3) := by decide +kernel
theorem dX4_unmetAhead_21 : decode cX4_unmetAhead 21 = .ok (.ifCond .ne 27, 3) := by decide +kernel
theorem dX4_unmetAhead_24 : decode cX4_unmetAhead 24 = .ok (.aload_n 0, 1) := by decide +kernel
theorem dX4_unmetAhead_25 : decode cX4_unmetAhead 25 = .ok (.iload_n 3, 1) := by decide +kernel
theorem dX4_unmetAhead_26 : decode cX4_unmetAhead 26 = .ok (.iconst 1, 1) := by decide +kernel
theorem dX4_unmetAhead_27 : decode cX4_unmetAhead 27 = .ok (.invokevirtual 46, 3) := by decide +kernel
theorem dX4_unmetAhead_30 : decode cX4_unmetAhead 30 = .ok (.iload_n 1, 1) := by decide +kernel
theorem dX4_unmetAhead_31 : decode cX4_unmetAhead 31 = .ok (.if_icmp .ne 17, 3) := by decide +kernel
theorem dX4_unmetAhead_34 : decode cX4_unmetAhead 34 = .ok (.aload_n 0, 1) := by decide +kernel
theorem dX4_unmetAhead_35 : decode cX4_unmetAhead 35 = .ok (.iload_n 3, 1) := by decide +kernel
theorem dX4_unmetAhead_36 : decode cX4_unmetAhead 36 = .ok (.invokevirtual 60, 3) := by decide +kernel
theorem dX4_unmetAhead_39 : decode cX4_unmetAhead 39 = .ok (.ifCond .ne 9, 3) := by decide +kernel
theorem dX4_unmetAhead_42 : decode cX4_unmetAhead 42 = .ok (.iconst 1, 1) := by decide +kernel
theorem dX4_unmetAhead_43 : decode cX4_unmetAhead 43 = .ok (.iload_n 3, 1) := by decide +kernel
theorem dX4_unmetAhead_44 : decode cX4_unmetAhead 44 = .ok (.ishl, 1) := by decide +kernel
theorem dX4_unmetAhead_45 : decode cX4_unmetAhead 45 = .ok (.goto 4, 3) := by decide +kernel
theorem dX4_unmetAhead_48 : decode cX4_unmetAhead 48 = .ok (.iconst 0, 1) := by decide +kernel
theorem dX4_unmetAhead_49 : decode cX4_unmetAhead 49 = .ok (.ior, 1) := by decide +kernel
theorem dX4_unmetAhead_50 : decode cX4_unmetAhead 50 = .ok (.istore_n 2, 1) := by decide +kernel
theorem dX4_unmetAhead_51 : decode cX4_unmetAhead 51 = .ok (.iinc 3 1, 3) := by decide +kernel
theorem dX4_unmetAhead_54 : decode cX4_unmetAhead 54 = .ok (.goto (-50), 3) := by decide +kernel
theorem dX4_unmetAhead_57 : decode cX4_unmetAhead 57 = .ok (.iload_n 2, 1) := by decide +kernel
theorem dX4_unmetAhead_58 : decode cX4_unmetAhead 58 = .ok (.ireturn, 1) := by decide +kernel
theorem dX4_doBegin_0 : decode cX4_doBegin 0 = .ok (.iload_n 1, 1) := by decide +kernel
theorem dX4_doBegin_1 : decode cX4_doBegin 1 = .ok (.invokestatic 78, 3) := by decide +kernel
theorem dX4_doBegin_4 : decode cX4_doBegin 4 = .ok (.ifCond .ne 6, 3) := by decide +kernel
theorem dX4_doBegin_7 : decode cX4_doBegin 7 = .ok (.ldc 87, 2) := by decide +kernel
theorem dX4_doBegin_9 : decode cX4_doBegin 9 = .ok (.ireturn, 1) := by decide +kernel
theorem dX4_doBegin_10 : decode cX4_doBegin 10 = .ok (.aload_n 0, 1) := by decide +kernel
theorem dX4_doBegin_11 : decode cX4_doBegin 11 = .ok (.iload_n 1, 1) := by decide +kernel
theorem dX4_doBegin_12 : decode cX4_doBegin 12 = .ok (.invokevirtual 90, 3) := by decide +kernel
theorem dX4_doBegin_15 : decode cX4_doBegin 15 = .ok (.ifCond .ne 6, 3) := by decide +kernel
theorem dX4_doBegin_18 : decode cX4_doBegin 18 = .ok (.ldc 88, 2) := by decide +kernel
theorem dX4_doBegin_20 : decode cX4_doBegin 20 = .ok (.ireturn, 1) := by decide +kernel
theorem dX4_doBegin_21 : decode cX4_doBegin 21 = .ok (.aload_n 0, 1) := by decide +kernel
theorem dX4_doBegin_22 : decode cX4_doBegin 22 = .ok (.getfield 7, 3) := by decide +kernel
theorem dX4_doBegin_25 : decode cX4_doBegin 25 = .ok (.bipush 6, 2) := by decide +kernel
theorem dX4_doBegin_27 : decode cX4_doBegin 27 = .ok (.iload_n 1, 1) := by decide +kernel
theorem dX4_doBegin_28 : decode cX4_doBegin 28 = .ok (.iadd, 1) := by decide +kernel
theorem dX4_doBegin_29 : decode cX4_doBegin 29 = .ok (.aload_n 0, 1) := by decide +kernel
theorem dX4_doBegin_30 : decode cX4_doBegin 30 = .ok (.getfield 7, 3) := by decide +kernel
theorem dX4_doBegin_33 : decode cX4_doBegin 33 = .ok (.iconst 0, 1) := by decide +kernel
theorem dX4_doBegin_34 : decode cX4_doBegin 34 = .ok (.iaload, 1) := by decide +kernel
theorem dX4_doBegin_35 : decode cX4_doBegin 35 = .ok (.iastore, 1) := by decide +kernel
theorem dX4_doBegin_36 : decode cX4_doBegin 36 = .ok (.aload_n 0, 1) := by decide +kernel
theorem dX4_doBegin_37 : decode cX4_doBegin 37 = .ok (.iload_n 1, 1) := by decide +kernel
theorem dX4_doBegin_38 : decode cX4_doBegin 38 = .ok (.invokevirtual 93, 3) := by decide +kernel
theorem dX4_doBegin_41 : decode cX4_doBegin 41 = .ok (.istore_n 2, 1) := by decide +kernel
theorem dX4_doBegin_42 : decode cX4_doBegin 42 = .ok (.iconst 0, 1) := by decide +kernel
theorem dX4_doBegin_43 : decode cX4_doBegin 43 = .ok (.istore_n 3, 1) := by decide +kernel
theorem dX4_doBegin_44 : decode cX4_doBegin 44 = .ok (.iload_n 3, 1) := by decide +kernel
theorem dX4_doBegin_45 : decode cX4_doBegin 45 = .ok (.aload_n 0, 1) := by decide +kernel
theorem dX4_doBegin_46 : decode cX4_doBegin 46 = .ok (.getfield 7, 3) := by decide +kernel
theorem dX4_doBegin_49 : decode cX4_doBegin 49 = .ok (.iconst 1, 1) := by decide +kernel
theorem dX4_doBegin_50 : decode cX4_doBegin 50 = .ok (.iaload, 1) := by decide +kernel
theorem dX4_doBegin_51 : decode cX4_doBegin 51 = .ok (.if_icmp .ge 23, 3) := by decide +kernel
theorem dX4_doBegin_54 : decode cX4_doBegin 54 = .ok (.iload_n 2, 1) := by decide +kernel
theorem dX4_doBegin_55 : decode cX4_doBegin 55 = .ok (.iload_n 3, 1) := by decide +kernel
theorem dX4_doBegin_56 : decode cX4_doBegin 56 = .ok (.ishr, 1) := by decide +kernel
theorem dX4_doBegin_57 : decode cX4_doBegin 57 = .ok (.iconst 1, 1) := by decide +kernel
theorem dX4_doBegin_58 : decode cX4_doBegin 58 = .ok (.iand, 1) := by decide +kernel
theorem dX4_doBegin_59 : decode cX4_doBegin 59 = .ok (.iconst 1, 1) := by decide +kernel
theorem dX4_doBegin_60 : decode cX4_doBegin 60 = .ok (.if_icmp .ne 8, 3) := by decide +kernel
theorem dX4_doBegin_63 : decode cX4_doBegin 63 = .ok (.aload_n 0, 1) := by decide +kernel
theorem dX4_doBegin_64 : decode cX4_doBegin 64 = .ok (.iload_n 3, 1) := by decide +kernel
theorem dX4_doBegin_65 : decode cX4_doBegin 65 = .ok (.invokevirtual 96, 3) := by decide +kernel
theorem dX4_doBegin_68 : decode cX4_doBegin 68 = .ok (.iinc 3 1, 3) := by decide +kernel
theorem dX4_doBegin_71 : decode cX4_doBegin 71 = .ok (.goto (-27), 3) := by decide +kernel
theorem dX4_doBegin_74 : decode cX4_doBegin 74 = .ok (.iload_n 2, 1) := by decide +kernel
theorem dX4_doBegin_75 : decode cX4_doBegin 75 = .ok (.ireturn, 1) := by decide +kernel
theorem dX4_doFinish_0 : decode cX4_doFinish 0 = .ok (.iload_n 1, 1) := by decide +kernel
theorem dX4_doFinish_1 : decode cX4_doFinish 1 = .ok (.invokestatic 78, 3) := by decide +kernel
theorem dX4_doFinish_4 : decode cX4_doFinish 4 = .ok (.ifCond .ne 6, 3) := by decide +kernel
theorem dX4_doFinish_7 : decode cX4_doFinish 7 = .ok (.ldc 87, 2) := by decide +kernel
theorem dX4_doFinish_9 : decode cX4_doFinish 9 = .ok (.ireturn, 1) := by decide +kernel
theorem dX4_doFinish_10 : decode cX4_doFinish 10 = .ok (.aload_n 0, 1) := by decide +kernel
theorem dX4_doFinish_11 : decode cX4_doFinish 11 = .ok (.iload_n 1, 1) := by decide +kernel
theorem dX4_doFinish_12 : decode cX4_doFinish 12 = .ok (.invokevirtual 54, 3) := by decide +kernel
theorem dX4_doFinish_15 : decode cX4_doFinish 15 = .ok (.ifCond .eq 11, 3) := by decide +kernel
theorem dX4_doFinish_18 : decode cX4_doFinish 18 = .ok (.aload_n 0, 1) := by decide +kernel
theorem dX4_doFinish_19 : decode cX4_doFinish 19 = .ok (.iload_n 1, 1) := by decide +kernel
theorem dX4_doFinish_20 : decode cX4_doFinish 20 = .ok (.invokevirtual 57, 3) := by decide +kernel
theorem dX4_doFinish_23 : decode cX4_doFinish 23 = .ok (.ifCond .eq 6, 3) := by decide +kernel
theorem dX4_doFinish_26 : decode cX4_doFinish 26 = .ok (.ldc 88, 2) := by decide +kernel
theorem dX4_doFinish_28 : decode cX4_doFinish 28 = .ok (.ireturn, 1) := by decide +kernel
theorem dX4_doFinish_29 : decode cX4_doFinish 29 = .ok (.aload_n 0, 1) := by decide +kernel
theorem dX4_doFinish_30 : decode cX4_doFinish 30 = .ok (.getfield 7, 3) := by decide +kernel
theorem dX4_doFinish_33 : decode cX4_doFinish 33 = .ok (.bipush 11, 2) := by decide +kernel
theorem dX4_doFinish_35 : decode cX4_doFinish 35 = .ok (.iload_n 1, 1) := by decide +kernel
theorem dX4_doFinish_36 : decode cX4_doFinish 36 = .ok (.iadd, 1) := by decide +kernel
theorem dX4_doFinish_37 : decode cX4_doFinish 37 = .ok (.aload_n 0, 1) := by decide +kernel
theorem dX4_doFinish_38 : decode cX4_doFinish 38 = .ok (.getfield 7, 3) := by decide +kernel
theorem dX4_doFinish_41 : decode cX4_doFinish 41 = .ok (.iconst 0, 1) := by decide +kernel
theorem dX4_doFinish_42 : decode cX4_doFinish 42 = .ok (.iaload, 1) := by decide +kernel
theorem dX4_doFinish_43 : decode cX4_doFinish 43 = .ok (.iastore, 1) := by decide +kernel
theorem dX4_doFinish_44 : decode cX4_doFinish 44 = .ok (.aload_n 0, 1) := by decide +kernel
theorem dX4_doFinish_45 : decode cX4_doFinish 45 = .ok (.getfield 7, 3) := by decide +kernel
theorem dX4_doFinish_48 : decode cX4_doFinish 48 = .ok (.iconst 0, 1) := by decide +kernel
theorem dX4_doFinish_49 : decode cX4_doFinish 49 = .ok (.iaload, 1) := by decide +kernel
theorem dX4_doFinish_50 : decode cX4_doFinish 50 = .ok (.aload_n 0, 1) := by decide +kernel
theorem dX4_doFinish_51 : decode cX4_doFinish 51 = .ok (.getfield 7, 3) := by decide +kernel
theorem dX4_doFinish_54 : decode cX4_doFinish 54 = .ok (.bipush 6, 2) := by decide +kernel
theorem dX4_doFinish_56 : decode cX4_doFinish 56 = .ok (.iload_n 1, 1) := by decide +kernel
theorem dX4_doFinish_57 : decode cX4_doFinish 57 = .ok (.iadd, 1) := by decide +kernel
theorem dX4_doFinish_58 : decode cX4_doFinish 58 = .ok (.iaload, 1) := by decide +kernel
theorem dX4_doFinish_59 : decode cX4_doFinish 59 = .ok (.isub, 1) := by decide +kernel
theorem dX4_doFinish_60 : decode cX4_doFinish 60 = .ok (.ireturn, 1) := by decide +kernel
theorem dX4_doApply_0 : decode cX4_doApply 0 = .ok (.aload_n 0, 1) := by decide +kernel
theorem dX4_doApply_1 : decode cX4_doApply 1 = .ok (.iload_n 1, 1) := by decide +kernel
theorem dX4_doApply_2 : decode cX4_doApply 2 = .ok (.invokevirtual 99, 3) := by decide +kernel
theorem dX4_doApply_5 : decode cX4_doApply 5 = .ok (.ifCond .eq 18, 3) := by decide +kernel
theorem dX4_doApply_8 : decode cX4_doApply 8 = .ok (.iload_n 2, 1) := by decide +kernel
theorem dX4_doApply_9 : decode cX4_doApply 9 = .ok (.i2l, 1) := by decide +kernel
theorem dX4_doApply_10 : decode cX4_doApply 10 = .ok (.lconst 1, 1) := by decide +kernel
theorem dX4_doApply_11 : decode cX4_doApply 11 = .ok (.aload_n 0, 1) := by decide +kernel
theorem dX4_doApply_12 : decode cX4_doApply 12 = .ok (.iload_n 1, 1) := by decide +kernel
theorem dX4_doApply_13 : decode cX4_doApply 13 = .ok (.invokevirtual 50, 3) := by decide +kernel
theorem dX4_doApply_16 : decode cX4_doApply 16 = .ok (.i2l, 1) := by decide +kernel
theorem dX4_doApply_17 : decode cX4_doApply 17 = .ok (.invokestatic 40, 3) := by decide +kernel
theorem dX4_doApply_20 : decode cX4_doApply 20 = .ok (.ifCond .ne 6, 3) := by decide +kernel
theorem dX4_doApply_23 : decode cX4_doApply 23 = .ok (.ldc 87, 2) := by decide +kernel
theorem dX4_doApply_25 : decode cX4_doApply 25 = .ok (.ireturn, 1) := by decide +kernel
theorem dX4_doApply_26 : decode cX4_doApply 26 = .ok (.aload_n 0, 1) := by decide +kernel
theorem dX4_doApply_27 : decode cX4_doApply 27 = .ok (.iload_n 1, 1) := by decide +kernel
theorem dX4_doApply_28 : decode cX4_doApply 28 = .ok (.iconst 0, 1) := by decide +kernel
theorem dX4_doApply_29 : decode cX4_doApply 29 = .ok (.invokevirtual 46, 3) := by decide +kernel
theorem dX4_doApply_32 : decode cX4_doApply 32 = .ok (.iconst 2, 1) := by decide +kernel
theorem dX4_doApply_33 : decode cX4_doApply 33 = .ok (.if_icmp .eq 23, 3) := by decide +kernel
theorem dX4_doApply_36 : decode cX4_doApply 36 = .ok (.aload_n 0, 1) := by decide +kernel
theorem dX4_doApply_37 : decode cX4_doApply 37 = .ok (.iload_n 1, 1) := by decide +kernel
theorem dX4_doApply_38 : decode cX4_doApply 38 = .ok (.iconst 5, 1) := by decide +kernel
theorem dX4_doApply_39 : decode cX4_doApply 39 = .ok (.invokevirtual 46, 3) := by decide +kernel
theorem dX4_doApply_42 : decode cX4_doApply 42 = .ok (.ifCond .ne 14, 3) := by decide +kernel
theorem dX4_doApply_45 : decode cX4_doApply 45 = .ok (.aload_n 0, 1) := by decide +kernel
theorem dX4_doApply_46 : decode cX4_doApply 46 = .ok (.iload_n 1, 1) := by decide +kernel
theorem dX4_doApply_47 : decode cX4_doApply 47 = .ok (.iconst 4, 1) := by decide +kernel
theorem dX4_doApply_48 : decode cX4_doApply 48 = .ok (.invokevirtual 46, 3) := by decide +kernel
theorem dX4_doApply_51 : decode cX4_doApply 51 = .ok (.iload_n 2, 1) := by decide +kernel
theorem dX4_doApply_52 : decode cX4_doApply 52 = .ok (.iand, 1) := by decide +kernel
theorem dX4_doApply_53 : decode cX4_doApply 53 = .ok (.ifCond .eq 6, 3) := by decide +kernel
theorem dX4_doApply_56 : decode cX4_doApply 56 = .ok (.ldc 88, 2) := by decide +kernel
theorem dX4_doApply_58 : decode cX4_doApply 58 = .ok (.ireturn, 1) := by decide +kernel
theorem dX4_doApply_59 : decode cX4_doApply 59 = .ok (.aload_n 0, 1) := by decide +kernel
theorem dX4_doApply_60 : decode cX4_doApply 60 = .ok (.iload_n 1, 1) := by decide +kernel
theorem dX4_doApply_61 : decode cX4_doApply 61 = .ok (.iconst 5, 1) := by decide +kernel
theorem dX4_doApply_62 : decode cX4_doApply 62 = .ok (.iload_n 2, 1) := by decide +kernel
theorem dX4_doApply_63 : decode cX4_doApply 63 = .ok (.invokevirtual 66, 3) := by decide +kernel
theorem dX4_doApply_66 : decode cX4_doApply 66 = .ok (.aload_n 0, 1) := by decide +kernel
theorem dX4_doApply_67 : decode cX4_doApply 67 = .ok (.iload_n 1, 1) := by decide +kernel
theorem dX4_doApply_68 : decode cX4_doApply 68 = .ok (.bipush 6, 2) := by decide +kernel
theorem dX4_doApply_70 : decode cX4_doApply 70 = .ok (.iconst 0, 1) := by decide +kernel
theorem dX4_doApply_71 : decode cX4_doApply 71 = .ok (.invokevirtual 66, 3) := by decide +kernel
theorem dX4_doApply_74 : decode cX4_doApply 74 = .ok (.aload_n 0, 1) := by decide +kernel
theorem dX4_doApply_75 : decode cX4_doApply 75 = .ok (.getfield 7, 3) := by decide +kernel
theorem dX4_doApply_78 : decode cX4_doApply 78 = .ok (.iconst 2, 1) := by decide +kernel
theorem dX4_doApply_79 : decode cX4_doApply 79 = .ok (.iaload, 1) := by decide +kernel
theorem dX4_doApply_80 : decode cX4_doApply 80 = .ok (.ireturn, 1) := by decide +kernel
theorem dX4_doDecide_0 : decode cX4_doDecide 0 = .ok (.aload_n 0, 1) := by decide +kernel
theorem dX4_doDecide_1 : decode cX4_doDecide 1 = .ok (.iload_n 1, 1) := by decide +kernel
theorem dX4_doDecide_2 : decode cX4_doDecide 2 = .ok (.invokevirtual 99, 3) := by decide +kernel
theorem dX4_doDecide_5 : decode cX4_doDecide 5 = .ok (.ifCond .eq 18, 3) := by decide +kernel
theorem dX4_doDecide_8 : decode cX4_doDecide 8 = .ok (.iload_n 2, 1) := by decide +kernel
theorem dX4_doDecide_9 : decode cX4_doDecide 9 = .ok (.i2l, 1) := by decide +kernel
theorem dX4_doDecide_10 : decode cX4_doDecide 10 = .ok (.lconst 0, 1) := by decide +kernel
theorem dX4_doDecide_11 : decode cX4_doDecide 11 = .ok (.aload_n 0, 1) := by decide +kernel
theorem dX4_doDecide_12 : decode cX4_doDecide 12 = .ok (.iload_n 1, 1) := by decide +kernel
theorem dX4_doDecide_13 : decode cX4_doDecide 13 = .ok (.invokevirtual 50, 3) := by decide +kernel
theorem dX4_doDecide_16 : decode cX4_doDecide 16 = .ok (.i2l, 1) := by decide +kernel
theorem dX4_doDecide_17 : decode cX4_doDecide 17 = .ok (.invokestatic 40, 3) := by decide +kernel
theorem dX4_doDecide_20 : decode cX4_doDecide 20 = .ok (.ifCond .ne 6, 3) := by decide +kernel
theorem dX4_doDecide_23 : decode cX4_doDecide 23 = .ok (.ldc 87, 2) := by decide +kernel
theorem dX4_doDecide_25 : decode cX4_doDecide 25 = .ok (.ireturn, 1) := by decide +kernel
theorem dX4_doDecide_26 : decode cX4_doDecide 26 = .ok (.aload_n 0, 1) := by decide +kernel
theorem dX4_doDecide_27 : decode cX4_doDecide 27 = .ok (.iload_n 1, 1) := by decide +kernel
theorem dX4_doDecide_28 : decode cX4_doDecide 28 = .ok (.iconst 5, 1) := by decide +kernel
theorem dX4_doDecide_29 : decode cX4_doDecide 29 = .ok (.invokevirtual 46, 3) := by decide +kernel
theorem dX4_doDecide_32 : decode cX4_doDecide 32 = .ok (.ifCond .eq 16, 3) := by decide +kernel
theorem dX4_doDecide_35 : decode cX4_doDecide 35 = .ok (.iload_n 2, 1) := by decide +kernel
theorem dX4_doDecide_36 : decode cX4_doDecide 36 = .ok (.aload_n 0, 1) := by decide +kernel
theorem dX4_doDecide_37 : decode cX4_doDecide 37 = .ok (.iload_n 1, 1) := by decide +kernel
theorem dX4_doDecide_38 : decode cX4_doDecide 38 = .ok (.iconst 5, 1) := by decide +kernel
theorem dX4_doDecide_39 : decode cX4_doDecide 39 = .ok (.invokevirtual 46, 3) := by decide +kernel
theorem dX4_doDecide_42 : decode cX4_doDecide 42 = .ok (.iconst (-1), 1) := by decide +kernel
theorem dX4_doDecide_43 : decode cX4_doDecide 43 = .ok (.ixor, 1) := by decide +kernel
theorem dX4_doDecide_44 : decode cX4_doDecide 44 = .ok (.iand, 1) := by decide +kernel
theorem dX4_doDecide_45 : decode cX4_doDecide 45 = .ok (.ifCond .eq 6, 3) := by decide +kernel
theorem dX4_doDecide_48 : decode cX4_doDecide 48 = .ok (.ldc 88, 2) := by decide +kernel
theorem dX4_doDecide_50 : decode cX4_doDecide 50 = .ok (.ireturn, 1) := by decide +kernel
theorem dX4_doDecide_51 : decode cX4_doDecide 51 = .ok (.aload_n 0, 1) := by decide +kernel
theorem dX4_doDecide_52 : decode cX4_doDecide 52 = .ok (.iload_n 1, 1) := by decide +kernel
theorem dX4_doDecide_53 : decode cX4_doDecide 53 = .ok (.iload_n 2, 1) := by decide +kernel
theorem dX4_doDecide_54 : decode cX4_doDecide 54 = .ok (.invokevirtual 102, 3) := by decide +kernel
theorem dX4_doDecide_57 : decode cX4_doDecide 57 = .ok (.aload_n 0, 1) := by decide +kernel
theorem dX4_doDecide_58 : decode cX4_doDecide 58 = .ok (.iload_n 1, 1) := by decide +kernel
theorem dX4_doDecide_59 : decode cX4_doDecide 59 = .ok (.iconst 3, 1) := by decide +kernel
theorem dX4_doDecide_60 : decode cX4_doDecide 60 = .ok (.invokevirtual 46, 3) := by decide +kernel
theorem dX4_doDecide_63 : decode cX4_doDecide 63 = .ok (.aload_n 0, 1) := by decide +kernel
theorem dX4_doDecide_64 : decode cX4_doDecide 64 = .ok (.iload_n 1, 1) := by decide +kernel
theorem dX4_doDecide_65 : decode cX4_doDecide 65 = .ok (.iconst 4, 1) := by decide +kernel
theorem dX4_doDecide_66 : decode cX4_doDecide 66 = .ok (.invokevirtual 46, 3) := by decide +kernel
theorem dX4_doDecide_69 : decode cX4_doDecide 69 = .ok (.invokestatic 106, 3) := by decide +kernel
theorem dX4_doDecide_72 : decode cX4_doDecide 72 = .ok (.isub, 1) := by decide +kernel
theorem dX4_doDecide_73 : decode cX4_doDecide 73 = .ok (.ireturn, 1) := by decide +kernel
theorem dX4_doLapse_0 : decode cX4_doLapse 0 = .ok (.aload_n 0, 1) := by decide +kernel
theorem dX4_doLapse_1 : decode cX4_doLapse 1 = .ok (.iload_n 1, 1) := by decide +kernel
theorem dX4_doLapse_2 : decode cX4_doLapse 2 = .ok (.invokevirtual 99, 3) := by decide +kernel
theorem dX4_doLapse_5 : decode cX4_doLapse 5 = .ok (.ifCond .ne 6, 3) := by decide +kernel
theorem dX4_doLapse_8 : decode cX4_doLapse 8 = .ok (.ldc 87, 2) := by decide +kernel
theorem dX4_doLapse_10 : decode cX4_doLapse 10 = .ok (.ireturn, 1) := by decide +kernel
theorem dX4_doLapse_11 : decode cX4_doLapse 11 = .ok (.aload_n 0, 1) := by decide +kernel
theorem dX4_doLapse_12 : decode cX4_doLapse 12 = .ok (.iload_n 1, 1) := by decide +kernel
theorem dX4_doLapse_13 : decode cX4_doLapse 13 = .ok (.iconst 0, 1) := by decide +kernel
theorem dX4_doLapse_14 : decode cX4_doLapse 14 = .ok (.invokevirtual 46, 3) := by decide +kernel
theorem dX4_doLapse_17 : decode cX4_doLapse 17 = .ok (.iconst 2, 1) := by decide +kernel
theorem dX4_doLapse_18 : decode cX4_doLapse 18 = .ok (.if_icmp .ne 12, 3) := by decide +kernel
theorem dX4_doLapse_21 : decode cX4_doLapse 21 = .ok (.aload_n 0, 1) := by decide +kernel
theorem dX4_doLapse_22 : decode cX4_doLapse 22 = .ok (.iload_n 1, 1) := by decide +kernel
theorem dX4_doLapse_23 : decode cX4_doLapse 23 = .ok (.invokevirtual 109, 3) := by decide +kernel
theorem dX4_doLapse_26 : decode cX4_doLapse 26 = .ok (.iconst 1, 1) := by decide +kernel
theorem dX4_doLapse_27 : decode cX4_doLapse 27 = .ok (.if_icmp .eq 6, 3) := by decide +kernel
theorem dX4_doLapse_30 : decode cX4_doLapse 30 = .ok (.ldc 88, 2) := by decide +kernel
theorem dX4_doLapse_32 : decode cX4_doLapse 32 = .ok (.ireturn, 1) := by decide +kernel
theorem dX4_doLapse_33 : decode cX4_doLapse 33 = .ok (.aload_n 0, 1) := by decide +kernel
theorem dX4_doLapse_34 : decode cX4_doLapse 34 = .ok (.iload_n 1, 1) := by decide +kernel
theorem dX4_doLapse_35 : decode cX4_doLapse 35 = .ok (.invokevirtual 96, 3) := by decide +kernel
theorem dX4_doLapse_38 : decode cX4_doLapse 38 = .ok (.aload_n 0, 1) := by decide +kernel
theorem dX4_doLapse_39 : decode cX4_doLapse 39 = .ok (.iload_n 1, 1) := by decide +kernel
theorem dX4_doLapse_40 : decode cX4_doLapse 40 = .ok (.bipush 7, 2) := by decide +kernel
theorem dX4_doLapse_42 : decode cX4_doLapse 42 = .ok (.invokevirtual 46, 3) := by decide +kernel
theorem dX4_doLapse_45 : decode cX4_doLapse 45 = .ok (.ireturn, 1) := by decide +kernel
theorem dX4_doCure_0 : decode cX4_doCure 0 = .ok (.aload_n 0, 1) := by decide +kernel
theorem dX4_doCure_1 : decode cX4_doCure 1 = .ok (.iload_n 1, 1) := by decide +kernel
theorem dX4_doCure_2 : decode cX4_doCure 2 = .ok (.invokevirtual 99, 3) := by decide +kernel
theorem dX4_doCure_5 : decode cX4_doCure 5 = .ok (.ifCond .ne 6, 3) := by decide +kernel
theorem dX4_doCure_8 : decode cX4_doCure 8 = .ok (.ldc 87, 2) := by decide +kernel
theorem dX4_doCure_10 : decode cX4_doCure 10 = .ok (.ireturn, 1) := by decide +kernel
theorem dX4_doCure_11 : decode cX4_doCure 11 = .ok (.aload_n 0, 1) := by decide +kernel
theorem dX4_doCure_12 : decode cX4_doCure 12 = .ok (.iload_n 1, 1) := by decide +kernel
theorem dX4_doCure_13 : decode cX4_doCure 13 = .ok (.iconst 0, 1) := by decide +kernel
theorem dX4_doCure_14 : decode cX4_doCure 14 = .ok (.invokevirtual 46, 3) := by decide +kernel
theorem dX4_doCure_17 : decode cX4_doCure 17 = .ok (.iconst 2, 1) := by decide +kernel
theorem dX4_doCure_18 : decode cX4_doCure 18 = .ok (.if_icmp .ne 12, 3) := by decide +kernel
theorem dX4_doCure_21 : decode cX4_doCure 21 = .ok (.aload_n 0, 1) := by decide +kernel
theorem dX4_doCure_22 : decode cX4_doCure 22 = .ok (.iload_n 1, 1) := by decide +kernel
theorem dX4_doCure_23 : decode cX4_doCure 23 = .ok (.invokevirtual 109, 3) := by decide +kernel
theorem dX4_doCure_26 : decode cX4_doCure 26 = .ok (.iconst 3, 1) := by decide +kernel
theorem dX4_doCure_27 : decode cX4_doCure 27 = .ok (.if_icmp .eq 6, 3) := by decide +kernel
theorem dX4_doCure_30 : decode cX4_doCure 30 = .ok (.ldc 88, 2) := by decide +kernel
theorem dX4_doCure_32 : decode cX4_doCure 32 = .ok (.ireturn, 1) := by decide +kernel
theorem dX4_doCure_33 : decode cX4_doCure 33 = .ok (.aload_n 0, 1) := by decide +kernel
theorem dX4_doCure_34 : decode cX4_doCure 34 = .ok (.iload_n 1, 1) := by decide +kernel
theorem dX4_doCure_35 : decode cX4_doCure 35 = .ok (.bipush 9, 2) := by decide +kernel
theorem dX4_doCure_37 : decode cX4_doCure 37 = .ok (.invokevirtual 46, 3) := by decide +kernel
theorem dX4_doCure_40 : decode cX4_doCure 40 = .ok (.istore_n 2, 1) := by decide +kernel
theorem dX4_doCure_41 : decode cX4_doCure 41 = .ok (.aload_n 0, 1) := by decide +kernel
theorem dX4_doCure_42 : decode cX4_doCure 42 = .ok (.iload_n 1, 1) := by decide +kernel
theorem dX4_doCure_43 : decode cX4_doCure 43 = .ok (.invokevirtual 70, 3) := by decide +kernel
theorem dX4_doCure_46 : decode cX4_doCure 46 = .ok (.iload_n 2, 1) := by decide +kernel
theorem dX4_doCure_47 : decode cX4_doCure 47 = .ok (.ireturn, 1) := by decide +kernel
theorem dX4_doServe_0 : decode cX4_doServe 0 = .ok (.aload_n 0, 1) := by decide +kernel
theorem dX4_doServe_1 : decode cX4_doServe 1 = .ok (.iload_n 1, 1) := by decide +kernel
theorem dX4_doServe_2 : decode cX4_doServe 2 = .ok (.invokevirtual 99, 3) := by decide +kernel
theorem dX4_doServe_5 : decode cX4_doServe 5 = .ok (.ifCond .eq 15, 3) := by decide +kernel
theorem dX4_doServe_8 : decode cX4_doServe 8 = .ok (.iload_n 2, 1) := by decide +kernel
theorem dX4_doServe_9 : decode cX4_doServe 9 = .ok (.i2l, 1) := by decide +kernel
theorem dX4_doServe_10 : decode cX4_doServe 10 = .ok (.lconst 1, 1) := by decide +kernel
theorem dX4_doServe_11 : decode cX4_doServe 11 = .ok (.ldc2_w 112, 3) := by decide +kernel
theorem dX4_doServe_14 : decode cX4_doServe 14 = .ok (.invokestatic 40, 3) := by decide +kernel
theorem dX4_doServe_17 : decode cX4_doServe 17 = .ok (.ifCond .ne 6, 3) := by decide +kernel
theorem dX4_doServe_20 : decode cX4_doServe 20 = .ok (.ldc 87, 2) := by decide +kernel
theorem dX4_doServe_22 : decode cX4_doServe 22 = .ok (.ireturn, 1) := by decide +kernel
theorem dX4_doServe_23 : decode cX4_doServe 23 = .ok (.aload_n 0, 1) := by decide +kernel
theorem dX4_doServe_24 : decode cX4_doServe 24 = .ok (.iload_n 1, 1) := by decide +kernel
theorem dX4_doServe_25 : decode cX4_doServe 25 = .ok (.invokevirtual 109, 3) := by decide +kernel
theorem dX4_doServe_28 : decode cX4_doServe 28 = .ok (.iconst 3, 1) := by decide +kernel
theorem dX4_doServe_29 : decode cX4_doServe 29 = .ok (.if_icmp .eq 6, 3) := by decide +kernel
theorem dX4_doServe_32 : decode cX4_doServe 32 = .ok (.ldc 88, 2) := by decide +kernel
theorem dX4_doServe_34 : decode cX4_doServe 34 = .ok (.ireturn, 1) := by decide +kernel
theorem dX4_doServe_35 : decode cX4_doServe 35 = .ok (.aload_n 0, 1) := by decide +kernel
theorem dX4_doServe_36 : decode cX4_doServe 36 = .ok (.iload_n 1, 1) := by decide +kernel
theorem dX4_doServe_37 : decode cX4_doServe 37 = .ok (.bipush 10, 2) := by decide +kernel
theorem dX4_doServe_39 : decode cX4_doServe 39 = .ok (.iload_n 2, 1) := by decide +kernel
theorem dX4_doServe_40 : decode cX4_doServe 40 = .ok (.invokevirtual 66, 3) := by decide +kernel
theorem dX4_doServe_43 : decode cX4_doServe 43 = .ok (.aload_n 0, 1) := by decide +kernel
