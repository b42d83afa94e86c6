-- decode rows out of the printed list of the task
theorem dX3_lawful_27 : decode cX3_lawful 27 = .ok (.getfield 16, 3) := by decide +kernel
theorem dX3_lawful_30 : decode cX3_lawful 30 = .ok (.aload_n 0, 1) := by decide +kernel
theorem dX3_lawful_31 : decode cX3_lawful 31 = .ok (.getfield 10, 3) := by decide +kernel
theorem dX3_lawful_34 : decode cX3_lawful 34 = .ok (.invokevirtual 37, 3) := by decide +kernel
theorem dX3_lawful_37 : decode cX3_lawful 37 = .ok (.aload_n 0, 1) := by decide +kernel
theorem dX3_lawful_38 : decode cX3_lawful 38 = .ok (.getfield 16, 3) := by decide +kernel
theorem dX3_lawful_41 : decode cX3_lawful 41 = .ok (.iload_n 1, 1) := by decide +kernel
theorem dX3_lawful_42 : decode cX3_lawful 42 = .ok (.invokevirtual 170, 3) := by decide +kernel
theorem dX3_lawful_45 : decode cX3_lawful 45 = .ok (.ireturn, 1) := by decide +kernel
theorem dX3_fine_0 : decode cX3_fine 0 = .ok (.aload_n 0, 1) := by decide +kernel
theorem dX3_fine_1 : decode cX3_fine 1 = .ok (.getfield 10, 3) := by decide +kernel
theorem dX3_fine_4 : decode cX3_fine 4 = .ok (.iload_n 1, 1) := by decide +kernel
theorem dX3_fine_5 : decode cX3_fine 5 = .ok (.invokevirtual 81, 3) := by decide +kernel
theorem dX3_fine_8 : decode cX3_fine 8 = .ok (.ifCond .eq 17, 3) := by decide +kernel
theorem dX3_fine_11 : decode cX3_fine 11 = .ok (.lload_n 2, 1) := by decide +kernel
theorem dX3_fine_12 : decode cX3_fine 12 = .ok (.lconst 1, 1) := by decide +kernel
theorem dX3_fine_13 : decode cX3_fine 13 = .ok (.lcmp, 1) := by decide +kernel
theorem dX3_fine_14 : decode cX3_fine 14 = .ok (.ifCond .lt 11, 3) := by decide +kernel
theorem dX3_fine_17 : decode cX3_fine 17 = .ok (.lload_n 2, 1) := by decide +kernel
theorem dX3_fine_18 : decode cX3_fine 18 = .ok (.ldc2_w 173, 3) := by decide +kernel
theorem dX3_fine_21 : decode cX3_fine 21 = .ok (.lcmp, 1) := by decide +kernel
theorem dX3_fine_22 : decode cX3_fine 22 = .ok (.ifCond .le 7, 3) := by decide +kernel
theorem dX3_fine_25 : decode cX3_fine 25 = .ok (.ldc2_w 175, 3) := by decide +kernel
theorem dX3_fine_28 : decode cX3_fine 28 = .ok (.lreturn, 1) := by decide +kernel
theorem dX3_fine_29 : decode cX3_fine 29 = .ok (.aload_n 0, 1) := by decide +kernel
theorem dX3_fine_30 : decode cX3_fine 30 = .ok (.getfield 10, 3) := by decide +kernel
theorem dX3_fine_33 : decode cX3_fine 33 = .ok (.getfield 86, 3) := by decide +kernel
theorem dX3_fine_36 : decode cX3_fine 36 = .ok (.iload_n 1, 1) := by decide +kernel
theorem dX3_fine_37 : decode cX3_fine 37 = .ok (.aaload, 1) := by decide +kernel
theorem dX3_fine_38 : decode cX3_fine 38 = .ok (.getfield 134, 3) := by decide +kernel
theorem dX3_fine_41 : decode cX3_fine 41 = .ok (.i2l, 1) := by decide +kernel
theorem dX3_fine_42 : decode cX3_fine 42 = .ok (.lstore 4, 2) := by decide +kernel
theorem dX3_fine_44 : decode cX3_fine 44 = .ok (.lload 4, 2) := by decide +kernel
theorem dX3_fine_46 : decode cX3_fine 46 = .ok (.lload 4, 2) := by decide +kernel
theorem dX3_fine_48 : decode cX3_fine 48 = .ok (.lmul, 1) := by decide +kernel
theorem dX3_fine_49 : decode cX3_fine 49 = .ok (.lstore 6, 2) := by decide +kernel
theorem dX3_fine_51 : decode cX3_fine 51 = .ok (.lload 6, 2) := by decide +kernel
theorem dX3_fine_53 : decode cX3_fine 53 = .ok (.lconst 0, 1) := by decide +kernel
theorem dX3_fine_54 : decode cX3_fine 54 = .ok (.lcmp, 1) := by decide +kernel
theorem dX3_fine_55 : decode cX3_fine 55 = .ok (.ifCond .le 18, 3) := by decide +kernel
theorem dX3_fine_58 : decode cX3_fine 58 = .ok (.lload_n 2, 1) := by decide +kernel
theorem dX3_fine_59 : decode cX3_fine 59 = .ok (.ldc2_w 177, 3) := by decide +kernel
theorem dX3_fine_62 : decode cX3_fine 62 = .ok (.lload 6, 2) := by decide +kernel
theorem dX3_fine_64 : decode cX3_fine 64 = .ok (.ldiv, 1) := by decide +kernel
theorem dX3_fine_65 : decode cX3_fine 65 = .ok (.lcmp, 1) := by decide +kernel
theorem dX3_fine_66 : decode cX3_fine 66 = .ok (.ifCond .le 7, 3) := by decide +kernel
theorem dX3_fine_69 : decode cX3_fine 69 = .ok (.ldc2_w 179, 3) := by decide +kernel
theorem dX3_fine_72 : decode cX3_fine 72 = .ok (.lreturn, 1) := by decide +kernel
theorem dX3_fine_73 : decode cX3_fine 73 = .ok (.lload_n 2, 1) := by decide +kernel
theorem dX3_fine_74 : decode cX3_fine 74 = .ok (.lload 6, 2) := by decide +kernel
theorem dX3_fine_76 : decode cX3_fine 76 = .ok (.lmul, 1) := by decide +kernel
theorem dX3_fine_77 : decode cX3_fine 77 = .ok (.lreturn, 1) := by decide +kernel
theorem dX3_share_0 : decode cX3_share 0 = .ok (.aload_n 0, 1) := by decide +kernel
theorem dX3_share_1 : decode cX3_share 1 = .ok (.getfield 10, 3) := by decide +kernel
theorem dX3_share_4 : decode cX3_share 4 = .ok (.getfield 181, 3) := by decide +kernel
theorem dX3_share_7 : decode cX3_share 7 = .ok (.istore_n 1, 1) := by decide +kernel
theorem dX3_share_8 : decode cX3_share 8 = .ok (.iload_n 1, 1) := by decide +kernel
theorem dX3_share_9 : decode cX3_share 9 = .ok (.ifCond .gt 6, 3) := by decide +kernel
theorem dX3_share_12 : decode cX3_share 12 = .ok (.ldc 117, 2) := by decide +kernel
theorem dX3_share_14 : decode cX3_share 14 = .ok (.ireturn, 1) := by decide +kernel
theorem dX3_share_15 : decode cX3_share 15 = .ok (.aload_n 0, 1) := by decide +kernel
theorem dX3_share_16 : decode cX3_share 16 = .ok (.getfield 10, 3) := by decide +kernel
theorem dX3_share_19 : decode cX3_share 19 = .ok (.iconst 2, 1) := by decide +kernel
theorem dX3_share_20 : decode cX3_share 20 = .ok (.invokevirtual 160, 3) := by decide +kernel
theorem dX3_share_23 : decode cX3_share 23 = .ok (.invokestatic 184, 3) := by decide +kernel
theorem dX3_share_26 : decode cX3_share 26 = .ok (.istore_n 2, 1) := by decide +kernel
theorem dX3_share_27 : decode cX3_share 27 = .ok (.iload_n 2, 1) := by decide +kernel
theorem dX3_share_28 : decode cX3_share 28 = .ok (.i2f, 1) := by decide +kernel
theorem dX3_share_29 : decode cX3_share 29 = .ok (.iload_n 1, 1) := by decide +kernel
theorem dX3_share_30 : decode cX3_share 30 = .ok (.i2f, 1) := by decide +kernel
theorem dX3_share_31 : decode cX3_share 31 = .ok (.fdiv, 1) := by decide +kernel
theorem dX3_share_32 : decode cX3_share 32 = .ok (.invokestatic 189, 3) := by decide +kernel
theorem dX3_share_35 : decode cX3_share 35 = .ok (.ireturn, 1) := by decide +kernel
theorem dX3_count_0 : decode cX3_count 0 = .ok (.iload_n 1, 1) := by decide +kernel
theorem dX3_count_1 : decode cX3_count 1 = .ok (.tableswitch 180 0 21 #[103, 111, 119, 127, 135, 143, 151, 156, 180, 180, 180, 180, 180, 180, 180, 180, 180, 180, 180, 180, 164, 172], 103) := by decide +kernel
theorem dX3_count_104 : decode cX3_count 104 = .ok (.aload_n 0, 1) := by decide +kernel
theorem dX3_count_105 : decode cX3_count 105 = .ok (.getfield 10, 3) := by decide +kernel
theorem dX3_count_108 : decode cX3_count 108 = .ok (.getfield 181, 3) := by decide +kernel
theorem dX3_count_111 : decode cX3_count 111 = .ok (.ireturn, 1) := by decide +kernel
theorem dX3_count_112 : decode cX3_count 112 = .ok (.aload_n 0, 1) := by decide +kernel
theorem dX3_count_113 : decode cX3_count 113 = .ok (.getfield 10, 3) := by decide +kernel
theorem dX3_count_116 : decode cX3_count 116 = .ok (.getfield 193, 3) := by decide +kernel
theorem dX3_count_119 : decode cX3_count 119 = .ok (.ireturn, 1) := by decide +kernel
theorem dX3_count_120 : decode cX3_count 120 = .ok (.aload_n 0, 1) := by decide +kernel
theorem dX3_count_121 : decode cX3_count 121 = .ok (.getfield 10, 3) := by decide +kernel
theorem dX3_count_124 : decode cX3_count 124 = .ok (.invokevirtual 196, 3) := by decide +kernel
theorem dX3_count_127 : decode cX3_count 127 = .ok (.ireturn, 1) := by decide +kernel
theorem dX3_count_128 : decode cX3_count 128 = .ok (.aload_n 0, 1) := by decide +kernel
theorem dX3_count_129 : decode cX3_count 129 = .ok (.getfield 10, 3) := by decide +kernel
theorem dX3_count_132 : decode cX3_count 132 = .ok (.invokevirtual 200, 3) := by decide +kernel
theorem dX3_count_135 : decode cX3_count 135 = .ok (.ireturn, 1) := by decide +kernel
theorem dX3_count_136 : decode cX3_count 136 = .ok (.aload_n 0, 1) := by decide +kernel
theorem dX3_count_137 : decode cX3_count 137 = .ok (.getfield 10, 3) := by decide +kernel
theorem dX3_count_140 : decode cX3_count 140 = .ok (.getfield 203, 3) := by decide +kernel
theorem dX3_count_143 : decode cX3_count 143 = .ok (.ireturn, 1) := by decide +kernel
theorem dX3_count_144 : decode cX3_count 144 = .ok (.aload_n 0, 1) := by decide +kernel
theorem dX3_count_145 : decode cX3_count 145 = .ok (.getfield 10, 3) := by decide +kernel
theorem dX3_count_148 : decode cX3_count 148 = .ok (.getfield 206, 3) := by decide +kernel
theorem dX3_count_151 : decode cX3_count 151 = .ok (.ireturn, 1) := by decide +kernel
theorem dX3_count_152 : decode cX3_count 152 = .ok (.aload_n 0, 1) := by decide +kernel
theorem dX3_count_153 : decode cX3_count 153 = .ok (.getfield 33, 3) := by decide +kernel
theorem dX3_count_156 : decode cX3_count 156 = .ok (.ireturn, 1) := by decide +kernel
theorem dX3_count_157 : decode cX3_count 157 = .ok (.aload_n 0, 1) := by decide +kernel
theorem dX3_count_158 : decode cX3_count 158 = .ok (.getfield 26, 3) := by decide +kernel
theorem dX3_count_161 : decode cX3_count 161 = .ok (.getfield 209, 3) := by decide +kernel
theorem dX3_count_164 : decode cX3_count 164 = .ok (.ireturn, 1) := by decide +kernel
theorem dX3_count_165 : decode cX3_count 165 = .ok (.aload_n 0, 1) := by decide +kernel
theorem dX3_count_166 : decode cX3_count 166 = .ok (.getfield 10, 3) := by decide +kernel
theorem dX3_count_169 : decode cX3_count 169 = .ok (.getfield 212, 3) := by decide +kernel
theorem dX3_count_172 : decode cX3_count 172 = .ok (.ireturn, 1) := by decide +kernel
theorem dX3_count_173 : decode cX3_count 173 = .ok (.aload_n 0, 1) := by decide +kernel
theorem dX3_count_174 : decode cX3_count 174 = .ok (.getfield 10, 3) := by decide +kernel
theorem dX3_count_177 : decode cX3_count 177 = .ok (.getfield 215, 3) := by decide +kernel
theorem dX3_count_180 : decode cX3_count 180 = .ok (.ireturn, 1) := by decide +kernel
theorem dX3_count_181 : decode cX3_count 181 = .ok (.ldc 85, 2) := by decide +kernel
theorem dX3_count_183 : decode cX3_count 183 = .ok (.ireturn, 1) := by decide +kernel
theorem dX3_undo_0 : decode cX3_undo 0 = .ok (.aload_n 0, 1) := by decide +kernel
theorem dX3_undo_1 : decode cX3_undo 1 = .ok (.getfield 33, 3) := by decide +kernel
theorem dX3_undo_4 : decode cX3_undo 4 = .ok (.ifCond .gt 6, 3) := by decide +kernel
theorem dX3_undo_7 : decode cX3_undo 7 = .ok (.ldc 169, 2) := by decide +kernel
theorem dX3_undo_9 : decode cX3_undo 9 = .ok (.ireturn, 1) := by decide +kernel
theorem dX3_undo_10 : decode cX3_undo 10 = .ok (.aload_n 0, 1) := by decide +kernel
theorem dX3_undo_11 : decode cX3_undo 11 = .ok (.dup, 1) := by decide +kernel
theorem dX3_undo_12 : decode cX3_undo 12 = .ok (.getfield 33, 3) := by decide +kernel
theorem dX3_undo_15 : decode cX3_undo 15 = .ok (.iconst 1, 1) := by decide +kernel
theorem dX3_undo_16 : decode cX3_undo 16 = .ok (.isub, 1) := by decide +kernel
theorem dX3_undo_17 : decode cX3_undo 17 = .ok (.putfield 33, 3) := by decide +kernel
theorem dX3_undo_20 : decode cX3_undo 20 = .ok (.aload_n 0, 1) := by decide +kernel
theorem dX3_undo_21 : decode cX3_undo 21 = .ok (.getfield 10, 3) := by decide +kernel
theorem dX3_undo_24 : decode cX3_undo 24 = .ok (.aload_n 0, 1) := by decide +kernel
theorem dX3_undo_25 : decode cX3_undo 25 = .ok (.getfield 19, 3) := by decide +kernel
theorem dX3_undo_28 : decode cX3_undo 28 = .ok (.aload_n 0, 1) := by decide +kernel
theorem dX3_undo_29 : decode cX3_undo 29 = .ok (.getfield 33, 3) := by decide +kernel
theorem dX3_undo_32 : decode cX3_undo 32 = .ok (.aaload, 1) := by decide +kernel
theorem dX3_undo_33 : decode cX3_undo 33 = .ok (.invokevirtual 37, 3) := by decide +kernel
theorem dX3_undo_36 : decode cX3_undo 36 = .ok (.aload_n 0, 1) := by decide +kernel
theorem dX3_undo_37 : decode cX3_undo 37 = .ok (.getfield 33, 3) := by decide +kernel
theorem dX3_undo_40 : decode cX3_undo 40 = .ok (.ireturn, 1) := by decide +kernel
theorem dX3_recorded_0 : decode cX3_recorded 0 = .ok (.iload_n 1, 1) := by decide +kernel
theorem dX3_recorded_1 : decode cX3_recorded 1 = .ok (.ifCond .ge 5, 3) := by decide +kernel
theorem dX3_recorded_4 : decode cX3_recorded 4 = .ok (.iload_n 1, 1) := by decide +kernel
theorem dX3_recorded_5 : decode cX3_recorded 5 = .ok (.ireturn, 1) := by decide +kernel
theorem dX3_recorded_6 : decode cX3_recorded 6 = .ok (.aload_n 0, 1) := by decide +kernel
theorem dX3_recorded_7 : decode cX3_recorded 7 = .ok (.getfield 33, 3) := by decide +kernel
theorem dX3_recorded_10 : decode cX3_recorded 10 = .ok (.iconst 4, 1) := by decide +kernel
theorem dX3_recorded_11 : decode cX3_recorded 11 = .ok (.if_icmp .lt 12, 3) := by decide +kernel
theorem dX3_recorded_14 : decode cX3_recorded 14 = .ok (.aload_n 0, 1) := by decide +kernel
theorem dX3_recorded_15 : decode cX3_recorded 15 = .ok (.invokevirtual 238, 3) := by decide +kernel
theorem dX3_recorded_18 : decode cX3_recorded 18 = .ok (.aload_n 0, 1) := by decide +kernel
theorem dX3_recorded_19 : decode cX3_recorded 19 = .ok (.iconst 3, 1) := by decide +kernel
theorem dX3_recorded_20 : decode cX3_recorded 20 = .ok (.putfield 33, 3) := by decide +kernel
theorem dX3_recorded_23 : decode cX3_recorded 23 = .ok (.aload_n 0, 1) := by decide +kernel
theorem dX3_recorded_24 : decode cX3_recorded 24 = .ok (.getfield 19, 3) := by decide +kernel
theorem dX3_recorded_27 : decode cX3_recorded 27 = .ok (.aload_n 0, 1) := by decide +kernel
theorem dX3_recorded_28 : decode cX3_recorded 28 = .ok (.getfield 33, 3) := by decide +kernel
theorem dX3_recorded_31 : decode cX3_recorded 31 = .ok (.aaload, 1) := by decide +kernel
theorem dX3_recorded_32 : decode cX3_recorded 32 = .ok (.astore_n 2, 1) := by decide +kernel
theorem dX3_recorded_33 : decode cX3_recorded 33 = .ok (.aload_n 0, 1) := by decide +kernel
theorem dX3_recorded_34 : decode cX3_recorded 34 = .ok (.getfield 19, 3) := by decide +kernel
theorem dX3_recorded_37 : decode cX3_recorded 37 = .ok (.aload_n 0, 1) := by decide +kernel
theorem dX3_recorded_38 : decode cX3_recorded 38 = .ok (.getfield 33, 3) := by decide +kernel
theorem dX3_recorded_41 : decode cX3_recorded 41 = .ok (.aload_n 0, 1) := by decide +kernel
theorem dX3_recorded_42 : decode cX3_recorded 42 = .ok (.getfield 30, 3) := by decide +kernel
theorem dX3_recorded_45 : decode cX3_recorded 45 = .ok (.aastore, 1) := by decide +kernel
theorem dX3_recorded_46 : decode cX3_recorded 46 = .ok (.aload_n 0, 1) := by decide +kernel
theorem dX3_recorded_47 : decode cX3_recorded 47 = .ok (.aload_n 2, 1) := by decide +kernel
theorem dX3_recorded_48 : decode cX3_recorded 48 = .ok (.putfield 30, 3) := by decide +kernel
theorem dX3_recorded_51 : decode cX3_recorded 51 = .ok (.aload_n 0, 1) := by decide +kernel
theorem dX3_recorded_52 : decode cX3_recorded 52 = .ok (.dup, 1) := by decide +kernel
theorem dX3_recorded_53 : decode cX3_recorded 53 = .ok (.getfield 33, 3) := by decide +kernel
theorem dX3_recorded_56 : decode cX3_recorded 56 = .ok (.iconst 1, 1) := by decide +kernel
theorem dX3_recorded_57 : decode cX3_recorded 57 = .ok (.iadd, 1) := by decide +kernel
theorem dX3_recorded_58 : decode cX3_recorded 58 = .ok (.putfield 33, 3) := by decide +kernel
theorem dX3_recorded_61 : decode cX3_recorded 61 = .ok (.iload_n 1, 1) := by decide +kernel
theorem dX3_recorded_62 : decode cX3_recorded 62 = .ok (.ireturn, 1) := by decide +kernel
theorem dX3_rotateHistory_0 : decode cX3_rotateHistory 0 = .ok (.aload_n 0, 1) := by decide +kernel
theorem dX3_rotateHistory_1 : decode cX3_rotateHistory 1 = .ok (.getfield 19, 3) := by decide +kernel
theorem dX3_rotateHistory_4 : decode cX3_rotateHistory 4 = .ok (.iconst 0, 1) := by decide +kernel
theorem dX3_rotateHistory_5 : decode cX3_rotateHistory 5 = .ok (.aaload, 1) := by decide +kernel
theorem dX3_rotateHistory_6 : decode cX3_rotateHistory 6 = .ok (.astore_n 1, 1) := by decide +kernel
theorem dX3_rotateHistory_7 : decode cX3_rotateHistory 7 = .ok (.iconst 1, 1) := by decide +kernel
theorem dX3_rotateHistory_8 : decode cX3_rotateHistory 8 = .ok (.istore_n 2, 1) := by decide +kernel
theorem dX3_rotateHistory_9 : decode cX3_rotateHistory 9 = .ok (.iload_n 2, 1) := by decide +kernel
theorem dX3_rotateHistory_10 : decode cX3_rotateHistory 10 = .ok (.iconst 4, 1) := by decide +kernel
theorem dX3_rotateHistory_11 : decode cX3_rotateHistory 11 = .ok (.if_icmp .ge 23, 3) := by decide +kernel
theorem dX3_rotateHistory_14 : decode cX3_rotateHistory 14 = .ok (.aload_n 0, 1) := by decide +kernel
theorem dX3_rotateHistory_15 : decode cX3_rotateHistory 15 = .ok (.getfield 19, 3) := by decide +kernel
theorem dX3_rotateHistory_18 : decode cX3_rotateHistory 18 = .ok (.iload_n 2, 1) := by decide +kernel
theorem dX3_rotateHistory_19 : decode cX3_rotateHistory 19 = .ok (.iconst 1, 1) := by decide +kernel
theorem dX3_rotateHistory_20 : decode cX3_rotateHistory 20 = .ok (.isub, 1) := by decide +kernel
theorem dX3_rotateHistory_21 : decode cX3_rotateHistory 21 = .ok (.aload_n 0, 1) := by decide +kernel
theorem dX3_rotateHistory_22 : decode cX3_rotateHistory 22 = .ok (.getfield 19, 3) := by decide +kernel
theorem dX3_rotateHistory_25 : decode cX3_rotateHistory 25 = .ok (.iload_n 2, 1) := by decide +kernel
theorem dX3_rotateHistory_26 : decode cX3_rotateHistory 26 = .ok (.aaload, 1) := by decide +kernel
theorem dX3_rotateHistory_27 : decode cX3_rotateHistory 27 = .ok (.aastore, 1) := by decide +kernel
theorem dX3_rotateHistory_28 : decode cX3_rotateHistory 28 = .ok (.iinc 2 1, 3) := by decide +kernel
theorem dX3_rotateHistory_31 : decode cX3_rotateHistory 31 = .ok (.goto (-22), 3) := by decide +kernel
theorem dX3_rotateHistory_34 : decode cX3_rotateHistory 34 = .ok (.aload_n 0, 1) := by decide +kernel
theorem dX3_rotateHistory_35 : decode cX3_rotateHistory 35 = .ok (.getfield 19, 3) := by decide +kernel
theorem dX3_rotateHistory_38 : decode cX3_rotateHistory 38 = .ok (.iconst 3, 1) := by decide +kernel
theorem dX3_rotateHistory_39 : decode cX3_rotateHistory 39 = .ok (.aload_n 1, 1) := by decide +kernel
theorem dX3_rotateHistory_40 : decode cX3_rotateHistory 40 = .ok (.aastore, 1) := by decide +kernel
theorem dX3_rotateHistory_41 : decode cX3_rotateHistory 41 = .ok (.return_, 1) := by decide +kernel
theorem dX3_isWithin_0 : decode cX3_isWithin 0 = .ok (.iload_n 0, 1) := by decide +kernel
theorem dX3_isWithin_1 : decode cX3_isWithin 1 = .ok (.iload_n 1, 1) := by decide +kernel
theorem dX3_isWithin_2 : decode cX3_isWithin 2 = .ok (.if_icmp .lt 12, 3) := by decide +kernel
theorem dX3_isWithin_5 : decode cX3_isWithin 5 = .ok (.iload_n 0, 1) := by decide +kernel
theorem dX3_isWithin_6 : decode cX3_isWithin 6 = .ok (.iload_n 2, 1) := by decide +kernel
theorem dX3_isWithin_7 : decode cX3_isWithin 7 = .ok (.if_icmp .gt 7, 3) := by decide +kernel
theorem dX3_isWithin_10 : decode cX3_isWithin 10 = .ok (.iconst 1, 1) := by decide +kernel
theorem dX3_isWithin_11 : decode cX3_isWithin 11 = .ok (.goto 4, 3) := by decide +kernel
theorem dX3_isWithin_14 : decode cX3_isWithin 14 = .ok (.iconst 0, 1) := by decide +kernel
theorem dX3_isWithin_15 : decode cX3_isWithin 15 = .ok (.ireturn, 1) := by decide +kernel
theorem dX3_bitsOf_0 : decode cX3_bitsOf 0 = .ok (.fload_n 0, 1) := by decide +kernel
theorem dX3_bitsOf_1 : decode cX3_bitsOf 1 = .ok (.fconst 0, 1) := by decide +kernel
theorem dX3_bitsOf_2 : decode cX3_bitsOf 2 = .ok (.fcmp .l, 1) := by decide +kernel
theorem dX3_bitsOf_3 : decode cX3_bitsOf 3 = .ok (.ifCond .gt 5, 3) := by decide +kernel
theorem dX3_bitsOf_6 : decode cX3_bitsOf 6 = .ok (.iconst 0, 1) := by decide +kernel
theorem dX3_bitsOf_7 : decode cX3_bitsOf 7 = .ok (.ireturn, 1) := by decide +kernel
theorem dX3_bitsOf_8 : decode cX3_bitsOf 8 = .ok (.fload_n 0, 1) := by decide +kernel
theorem dX3_bitsOf_9 : decode cX3_bitsOf 9 = .ok (.fstore_n 1, 1) := by decide +kernel
theorem dX3_bitsOf_10 : decode cX3_bitsOf 10 = .ok (.bipush 127, 2) := by decide +kernel
theorem dX3_bitsOf_12 : decode cX3_bitsOf 12 = .ok (.istore_n 2, 1) := by decide +kernel
theorem dX3_bitsOf_13 : decode cX3_bitsOf 13 = .ok (.fload_n 1, 1) := by decide +kernel
theorem dX3_bitsOf_14 : decode cX3_bitsOf 14 = .ok (.fconst 1, 1) := by decide +kernel
theorem dX3_bitsOf_15 : decode cX3_bitsOf 15 = .ok (.fcmp .g, 1) := by decide +kernel
theorem dX3_bitsOf_16 : decode cX3_bitsOf 16 = .ok (.ifCond .ge 18, 3) := by decide +kernel
theorem dX3_bitsOf_19 : decode cX3_bitsOf 19 = .ok (.iload_n 2, 1) := by decide +kernel
theorem dX3_bitsOf_20 : decode cX3_bitsOf 20 = .ok (.iconst 1, 1) := by decide +kernel
theorem dX3_bitsOf_21 : decode cX3_bitsOf 21 = .ok (.if_icmp .le 13, 3) := by decide +kernel
theorem dX3_bitsOf_24 : decode cX3_bitsOf 24 = .ok (.fload_n 1, 1) := by decide +kernel
theorem dX3_bitsOf_25 : decode cX3_bitsOf 25 = .ok (.fconst 2, 1) := by decide +kernel
theorem dX3_bitsOf_26 : decode cX3_bitsOf 26 = .ok (.fmul, 1) := by decide +kernel
theorem dX3_bitsOf_27 : decode cX3_bitsOf 27 = .ok (.fstore_n 1, 1) := by decide +kernel
theorem dX3_bitsOf_28 : decode cX3_bitsOf 28 = .ok (.iinc 2 (-1), 3) := by decide +kernel
theorem dX3_bitsOf_31 : decode cX3_bitsOf 31 = .ok (.goto (-18), 3) := by decide +kernel
theorem dX3_bitsOf_34 : decode cX3_bitsOf 34 = .ok (.iload_n 2, 1) := by decide +kernel
theorem dX3_bitsOf_35 : decode cX3_bitsOf 35 = .ok (.bipush 23, 2) := by decide +kernel
theorem dX3_bitsOf_37 : decode cX3_bitsOf 37 = .ok (.ishl, 1) := by decide +kernel
theorem dX3_bitsOf_38 : decode cX3_bitsOf 38 = .ok (.fload_n 1, 1) := by decide +kernel
theorem dX3_bitsOf_39 : decode cX3_bitsOf 39 = .ok (.fconst 1, 1) := by decide +kernel
theorem dX3_bitsOf_40 : decode cX3_bitsOf 40 = .ok (.fsub, 1) := by decide +kernel
theorem dX3_bitsOf_41 : decode cX3_bitsOf 41 = .ok (.ldc 241, 2) := by decide +kernel
theorem dX3_bitsOf_43 : decode cX3_bitsOf 43 = .ok (.fmul, 1) := by decide +kernel
theorem dX3_bitsOf_44 : decode cX3_bitsOf 44 = .ok (.f2i, 1) := by decide +kernel
theorem dX3_bitsOf_45 : decode cX3_bitsOf 45 = .ok (.ior, 1) := by decide +kernel
theorem dX3_bitsOf_46 : decode cX3_bitsOf 46 = .ok (.ireturn, 1) := by decide +kernel
theorem dJ6_bitCount_0f7a4_0 : decode cJ6_bitCount_0f7a4 0 = .ok (.iload_n 0, 1) := by decide +kernel
theorem dJ6_bitCount_0f7a4_1 : decode cJ6_bitCount_0f7a4 1 = .ok (.iload_n 0, 1) := by decide +kernel
theorem dJ6_bitCount_0f7a4_2 : decode cJ6_bitCount_0f7a4 2 = .ok (.iconst 1, 1) := by decide +kernel
theorem dJ6_bitCount_0f7a4_3 : decode cJ6_bitCount_0f7a4 3 = .ok (.iushr, 1) := by decide +kernel
theorem dJ6_bitCount_0f7a4_4 : decode cJ6_bitCount_0f7a4 4 = .ok (.ldc_w 265, 3) := by decide +kernel
theorem dJ6_bitCount_0f7a4_7 : decode cJ6_bitCount_0f7a4 7 = .ok (.iand, 1) := by decide +kernel
theorem dJ6_bitCount_0f7a4_8 : decode cJ6_bitCount_0f7a4 8 = .ok (.isub, 1) := by decide +kernel
theorem dJ6_bitCount_0f7a4_9 : decode cJ6_bitCount_0f7a4 9 = .ok (.istore_n 0, 1) := by decide +kernel
theorem dJ6_bitCount_0f7a4_10 : decode cJ6_bitCount_0f7a4 10 = .ok (.iload_n 0, 1) := by decide +kernel
theorem dJ6_bitCount_0f7a4_11 : decode cJ6_bitCount_0f7a4 11 = .ok (.ldc_w 266, 3) := by decide +kernel
theorem dJ6_bitCount_0f7a4_14 : decode cJ6_bitCount_0f7a4 14 = .ok (.iand, 1) := by decide +kernel
theorem dJ6_bitCount_0f7a4_15 : decode cJ6_bitCount_0f7a4 15 = .ok (.iload_n 0, 1) := by decide +kernel
theorem dJ6_bitCount_0f7a4_16 : decode cJ6_bitCount_0f7a4 16 = .ok (.iconst 2, 1) := by decide +kernel
theorem dJ6_bitCount_0f7a4_17 : decode cJ6_bitCount_0f7a4 17 = .ok (.iushr, 1) := by decide +kernel
theorem dJ6_bitCount_0f7a4_18 : decode cJ6_bitCount_0f7a4 18 = .ok (.ldc_w 266, 3) := by decide +kernel
theorem dJ6_bitCount_0f7a4_21 : decode cJ6_bitCount_0f7a4 21 = .ok (.iand, 1) := by decide +kernel
theorem dJ6_bitCount_0f7a4_22 : decode cJ6_bitCount_0f7a4 22 = .ok (.iadd, 1) := by decide +kernel
theorem dJ6_bitCount_0f7a4_23 : decode cJ6_bitCount_0f7a4 23 = .ok (.istore_n 0, 1) := by decide +kernel
theorem dJ6_bitCount_0f7a4_24 : decode cJ6_bitCount_0f7a4 24 = .ok (.iload_n 0, 1) := by decide +kernel
theorem dJ6_bitCount_0f7a4_25 : decode cJ6_bitCount_0f7a4 25 = .ok (.iload_n 0, 1) := by decide +kernel
theorem dJ6_bitCount_0f7a4_26 : decode cJ6_bitCount_0f7a4 26 = .ok (.iconst 4, 1) := by decide +kernel
theorem dJ6_bitCount_0f7a4_27 : decode cJ6_bitCount_0f7a4 27 = .ok (.iushr, 1) := by decide +kernel
theorem dJ6_bitCount_0f7a4_28 : decode cJ6_bitCount_0f7a4 28 = .ok (.iadd, 1) := by decide +kernel
theorem dJ6_bitCount_0f7a4_29 : decode cJ6_bitCount_0f7a4 29 = .ok (.ldc_w 267, 3) := by decide +kernel
theorem dJ6_bitCount_0f7a4_32 : decode cJ6_bitCount_0f7a4 32 = .ok (.iand, 1) := by decide +kernel
theorem dJ6_bitCount_0f7a4_33 : decode cJ6_bitCount_0f7a4 33 = .ok (.istore_n 0, 1) := by decide +kernel
theorem dJ6_bitCount_0f7a4_34 : decode cJ6_bitCount_0f7a4 34 = .ok (.iload_n 0, 1) := by decide +kernel
theorem dJ6_bitCount_0f7a4_35 : decode cJ6_bitCount_0f7a4 35 = .ok (.iload_n 0, 1) := by decide +kernel
theorem dJ6_bitCount_0f7a4_36 : decode cJ6_bitCount_0f7a4 36 = .ok (.bipush 8, 2) := by decide +kernel
theorem dJ6_bitCount_0f7a4_38 : decode cJ6_bitCount_0f7a4 38 = .ok (.iushr, 1) := by decide +kernel
theorem dJ6_bitCount_0f7a4_39 : decode cJ6_bitCount_0f7a4 39 = .ok (.iadd, 1) := by decide +kernel
theorem dJ6_bitCount_0f7a4_40 : decode cJ6_bitCount_0f7a4 40 = .ok (.istore_n 0, 1) := by decide +kernel
theorem dJ6_bitCount_0f7a4_41 : decode cJ6_bitCount_0f7a4 41 = .ok (.iload_n 0, 1) := by decide +kernel
theorem dJ6_bitCount_0f7a4_42 : decode cJ6_bitCount_0f7a4 42 = .ok (.iload_n 0, 1) := by decide +kernel
theorem dJ6_bitCount_0f7a4_43 : decode cJ6_bitCount_0f7a4 43 = .ok (.bipush 16, 2) := by decide +kernel
theorem dJ6_bitCount_0f7a4_45 : decode cJ6_bitCount_0f7a4 45 = .ok (.iushr, 1) := by decide +kernel
theorem dJ6_bitCount_0f7a4_46 : decode cJ6_bitCount_0f7a4 46 = .ok (.iadd, 1) := by decide +kernel
theorem dJ6_bitCount_0f7a4_47 : decode cJ6_bitCount_0f7a4 47 = .ok (.istore_n 0, 1) := by decide +kernel
theorem dJ6_bitCount_0f7a4_48 : decode cJ6_bitCount_0f7a4 48 = .ok (.iload_n 0, 1) := by decide +kernel
theorem dJ6_bitCount_0f7a4_49 : decode cJ6_bitCount_0f7a4 49 = .ok (.bipush 63, 2) := by decide +kernel
theorem dJ6_bitCount_0f7a4_51 : decode cJ6_bitCount_0f7a4 51 = .ok (.iand, 1) := by decide +kernel
theorem dJ6_bitCount_0f7a4_52 : decode cJ6_bitCount_0f7a4 52 = .ok (.ireturn, 1) := by decide +kernel
theorem dJ9_max_7cf53_0 : decode cJ9_max_7cf53 0 = .ok (.iload_n 0, 1) := by decide +kernel
theorem dJ9_max_7cf53_1 : decode cJ9_max_7cf53 1 = .ok (.iload_n 1, 1) := by decide +kernel
theorem dJ9_max_7cf53_2 : decode cJ9_max_7cf53 2 = .ok (.if_icmp .lt 7, 3) := by decide +kernel
theorem dJ9_max_7cf53_5 : decode cJ9_max_7cf53 5 = .ok (.iload_n 0, 1) := by decide +kernel
theorem dJ9_max_7cf53_6 : decode cJ9_max_7cf53 6 = .ok (.goto 4, 3) := by decide +kernel
theorem dJ9_max_7cf53_9 : decode cJ9_max_7cf53 9 = .ok (.iload_n 1, 1) := by decide +kernel
theorem dJ9_max_7cf53_10 : decode cJ9_max_7cf53 10 = .ok (.ireturn, 1) := by decide +kernel
theorem dL_cell_0 : decode cL_cell 0 = .ok (.iload_n 1, 1) := by decide +kernel
theorem dL_cell_1 : decode cL_cell 1 = .ok (.aload_n 0, 1) := by decide +kernel
theorem dL_cell_2 : decode cL_cell 2 = .ok (.arraylength, 1) := by decide +kernel
theorem dL_cell_3 : decode cL_cell 3 = .ok (.if_icmp .ge 9, 3) := by decide +kernel
theorem dL_cell_6 : decode cL_cell 6 = .ok (.aload_n 0, 1) := by decide +kernel
theorem dL_cell_7 : decode cL_cell 7 = .ok (.iload_n 1, 1) := by decide +kernel
theorem dL_cell_8 : decode cL_cell 8 = .ok (.iaload, 1) := by decide +kernel
theorem dL_cell_9 : decode cL_cell 9 = .ok (.goto 11, 3) := by decide +kernel
theorem dL_cell_12 : decode cL_cell 12 = .ok (.ldc 7, 2) := by decide +kernel
theorem dL_cell_14 : decode cL_cell 14 = .ok (.iload_n 1, 1) := by decide +kernel
theorem dL_cell_15 : decode cL_cell 15 = .ok (.sipush 829, 3) := by decide +kernel
theorem dL_cell_18 : decode cL_cell 18 = .ok (.iadd, 1) := by decide +kernel
theorem dL_cell_19 : decode cL_cell 19 = .ok (.imul, 1) := by decide +kernel
theorem dL_cell_20 : decode cL_cell 20 = .ok (.ireturn, 1) := by decide +kernel
theorem dL_up_0 : decode cL_up 0 = .ok (.iload_n 0, 1) := by decide +kernel
theorem dL_up_1 : decode cL_up 1 = .ok (.ldc 8, 2) := by decide +kernel
theorem dL_up_3 : decode cL_up 3 = .ok (.iand, 1) := by decide +kernel
theorem dL_up_4 : decode cL_up 4 = .ok (.iload_n 1, 1) := by decide +kernel
theorem dL_up_5 : decode cL_up 5 = .ok (.irem, 1) := by decide +kernel
theorem dL_up_6 : decode cL_up 6 = .ok (.ireturn, 1) := by decide +kernel
theorem dL_there_0 : decode cL_there 0 = .ok (.aload_n 0, 1) := by decide +kernel
theorem dL_there_1 : decode cL_there 1 = .ok (.iconst 0, 1) := by decide +kernel
theorem dL_there_2 : decode cL_there 2 = .ok (.invokevirtual 9, 3) := by decide +kernel
theorem dL_there_5 : decode cL_there 5 = .ok (.iconst 1, 1) := by decide +kernel
theorem dL_there_6 : decode cL_there 6 = .ok (.isub, 1) := by decide +kernel
theorem dL_there_7 : decode cL_there 7 = .ok (.iload_n 1, 1) := by decide +kernel
theorem dL_there_8 : decode cL_there 8 = .ok (.isub, 1) := by decide +kernel
theorem dL_there_9 : decode cL_there 9 = .ok (.ireturn, 1) := by decide +kernel
theorem dL_turned_0 : decode cL_turned 0 = .ok (.iconst 0, 1) := by decide +kernel
theorem dL_turned_1 : decode cL_turned 1 = .ok (.istore_n 2, 1) := by decide +kernel
theorem dL_turned_2 : decode cL_turned 2 = .ok (.iconst 0, 1) := by decide +kernel
theorem dL_turned_3 : decode cL_turned 3 = .ok (.istore_n 3, 1) := by decide +kernel
theorem dL_turned_4 : decode cL_turned 4 = .ok (.iload_n 3, 1) := by decide +kernel
theorem dL_turned_5 : decode cL_turned 5 = .ok (.iload_n 1, 1) := by decide +kernel
theorem dL_turned_6 : decode cL_turned 6 = .ok (.if_icmp .ge 31, 3) := by decide +kernel
theorem dL_turned_9 : decode cL_turned 9 = .ok (.iload_n 2, 1) := by decide +kernel
theorem dL_turned_10 : decode cL_turned 10 = .ok (.iload_n 0, 1) := by decide +kernel
theorem dL_turned_11 : decode cL_turned 11 = .ok (.ifCond .ge 7, 3) := by decide +kernel
theorem dL_turned_14 : decode cL_turned 14 = .ok (.iconst 0, 1) := by decide +kernel
theorem dL_turned_15 : decode cL_turned 15 = .ok (.goto 14, 3) := by decide +kernel
theorem dL_turned_18 : decode cL_turned 18 = .ok (.iload_n 0, 1) := by decide +kernel
theorem dL_turned_19 : decode cL_turned 19 = .ok (.iload_n 3, 1) := by decide +kernel
theorem dL_turned_20 : decode cL_turned 20 = .ok (.ishr, 1) := by decide +kernel
theorem dL_turned_21 : decode cL_turned 21 = .ok (.iconst 1, 1) := by decide +kernel
theorem dL_turned_22 : decode cL_turned 22 = .ok (.iand, 1) := by decide +kernel
theorem dL_turned_23 : decode cL_turned 23 = .ok (.iload_n 1, 1) := by decide +kernel
theorem dL_turned_24 : decode cL_turned 24 = .ok (.iconst 1, 1) := by decide +kernel
theorem dL_turned_25 : decode cL_turned 25 = .ok (.isub, 1) := by decide +kernel
theorem dL_turned_26 : decode cL_turned 26 = .ok (.iload_n 3, 1) := by decide +kernel
theorem dL_turned_27 : decode cL_turned 27 = .ok (.isub, 1) := by decide +kernel
theorem dL_turned_28 : decode cL_turned 28 = .ok (.ishl, 1) := by decide +kernel
theorem dL_turned_29 : decode cL_turned 29 = .ok (.ior, 1) := by decide +kernel
theorem dL_turned_30 : decode cL_turned 30 = .ok (.istore_n 2, 1) := by decide +kernel
theorem dL_turned_31 : decode cL_turned 31 = .ok (.iinc 3 1, 3) := by decide +kernel
theorem dL_turned_34 : decode cL_turned 34 = .ok (.goto (-30), 3) := by decide +kernel
theorem dL_turned_37 : decode cL_turned 37 = .ok (.iload_n 0, 1) := by decide +kernel
theorem dL_turned_38 : decode cL_turned 38 = .ok (.ifCond .ge 7, 3) := by decide +kernel
theorem dL_turned_41 : decode cL_turned 41 = .ok (.iload_n 0, 1) := by decide +kernel
theorem dL_turned_42 : decode cL_turned 42 = .ok (.goto 4, 3) := by decide +kernel
theorem dL_turned_45 : decode cL_turned 45 = .ok (.iload_n 2, 1) := by decide +kernel
theorem dL_turned_46 : decode cL_turned 46 = .ok (.ireturn, 1) := by decide +kernel
theorem dL_passes_0 : decode cL_passes 0 = .ok (.aload_n 0, 1) := by decide +kernel
theorem dL_passes_1 : decode cL_passes 1 = .ok (.iload_n 2, 1) := by decide +kernel
theorem dL_passes_2 : decode cL_passes 2 = .ok (.invokevirtual 15, 3) := by decide +kernel
theorem dL_passes_5 : decode cL_passes 5 = .ok (.istore_n 3, 1) := by decide +kernel
theorem dL_passes_6 : decode cL_passes 6 = .ok (.iconst 1, 1) := by decide +kernel
theorem dL_passes_7 : decode cL_passes 7 = .ok (.istore 4, 2) := by decide +kernel
theorem dL_passes_9 : decode cL_passes 9 = .ok (.iconst 0, 1) := by decide +kernel
theorem dL_passes_10 : decode cL_passes 10 = .ok (.istore 5, 2) := by decide +kernel
theorem dL_passes_12 : decode cL_passes 12 = .ok (.iload 5, 2) := by decide +kernel
theorem dL_passes_14 : decode cL_passes 14 = .ok (.iload_n 2, 1) := by decide +kernel
theorem dL_passes_15 : decode cL_passes 15 = .ok (.if_icmp .ge 29, 3) := by decide +kernel
theorem dL_passes_18 : decode cL_passes 18 = .ok (.iload 4, 2) := by decide +kernel
theorem dL_passes_20 : decode cL_passes 20 = .ok (.ifCond .eq 15, 3) := by decide +kernel
theorem dL_passes_23 : decode cL_passes 23 = .ok (.aload_n 1, 1) := by decide +kernel
theorem dL_passes_24 : decode cL_passes 24 = .ok (.iconst 1, 1) := by decide +kernel
theorem dL_passes_25 : decode cL_passes 25 = .ok (.invokevirtual 15, 3) := by decide +kernel
theorem dL_passes_28 : decode cL_passes 28 = .ok (.ifCond .le 7, 3) := by decide +kernel
theorem dL_passes_31 : decode cL_passes 31 = .ok (.iconst 1, 1) := by decide +kernel
theorem dL_passes_32 : decode cL_passes 32 = .ok (.goto 4, 3) := by decide +kernel
theorem dL_passes_35 : decode cL_passes 35 = .ok (.iconst 0, 1) := by decide +kernel
theorem dL_passes_36 : decode cL_passes 36 = .ok (.istore 4, 2) := by decide +kernel
theorem dL_passes_38 : decode cL_passes 38 = .ok (.iinc 5 1, 3) := by decide +kernel
theorem dL_passes_41 : decode cL_passes 41 = .ok (.goto (-29), 3) := by decide +kernel
theorem dL_passes_44 : decode cL_passes 44 = .ok (.iload 4, 2) := by decide +kernel
theorem dL_passes_46 : decode cL_passes 46 = .ok (.ifCond .eq 25, 3) := by decide +kernel
theorem dL_passes_49 : decode cL_passes 49 = .ok (.iload_n 3, 1) := by decide +kernel
theorem dL_passes_50 : decode cL_passes 50 = .ok (.aload_n 0, 1) := by decide +kernel
theorem dL_passes_51 : decode cL_passes 51 = .ok (.iconst 1, 1) := by decide +kernel
theorem dL_passes_52 : decode cL_passes 52 = .ok (.invokevirtual 9, 3) := by decide +kernel
theorem dL_passes_55 : decode cL_passes 55 = .ok (.if_icmp .ne 16, 3) := by decide +kernel
theorem dL_passes_58 : decode cL_passes 58 = .ok (.iload_n 3, 1) := by decide +kernel
theorem dL_passes_59 : decode cL_passes 59 = .ok (.aload_n 1, 1) := by decide +kernel
theorem dL_passes_60 : decode cL_passes 60 = .ok (.iconst 1, 1) := by decide +kernel
theorem dL_passes_61 : decode cL_passes 61 = .ok (.invokevirtual 9, 3) := by decide +kernel
theorem dL_passes_64 : decode cL_passes 64 = .ok (.if_icmp .ne 7, 3) := by decide +kernel
theorem dL_passes_67 : decode cL_passes 67 = .ok (.iconst 1, 1) := by decide +kernel
theorem dL_passes_68 : decode cL_passes 68 = .ok (.goto 4, 3) := by decide +kernel
theorem dL_passes_71 : decode cL_passes 71 = .ok (.iconst 0, 1) := by decide +kernel
theorem dL_passes_72 : decode cL_passes 72 = .ok (.ireturn, 1) := by decide +kernel
theorem dL_isStep_0 : decode cL_isStep 0 = .ok (.iload_n 2, 1) := by decide +kernel
theorem dL_isStep_1 : decode cL_isStep 1 = .ok (.iconst 4, 1) := by decide +kernel
theorem dL_isStep_2 : decode cL_isStep 2 = .ok (.ishr, 1) := by decide +kernel
theorem dL_isStep_3 : decode cL_isStep 3 = .ok (.istore_n 3, 1) := by decide +kernel
theorem dL_isStep_4 : decode cL_isStep 4 = .ok (.aload_n 0, 1) := by decide +kernel
theorem dL_isStep_5 : decode cL_isStep 5 = .ok (.iconst 0, 1) := by decide +kernel
theorem dL_isStep_6 : decode cL_isStep 6 = .ok (.invokevirtual 9, 3) := by decide +kernel
theorem dL_isStep_9 : decode cL_isStep 9 = .ok (.istore 4, 2) := by decide +kernel
theorem dL_isStep_11 : decode cL_isStep 11 = .ok (.iload_n 3, 1) := by decide +kernel
theorem dL_isStep_12 : decode cL_isStep 12 = .ok (.iload 4, 2) := by decide +kernel
theorem dL_isStep_14 : decode cL_isStep 14 = .ok (.invokestatic 18, 3) := by decide +kernel
theorem dL_isStep_17 : decode cL_isStep 17 = .ok (.istore 5, 2) := by decide +kernel
theorem dL_isStep_19 : decode cL_isStep 19 = .ok (.aload_n 0, 1) := by decide +kernel
theorem dL_isStep_20 : decode cL_isStep 20 = .ok (.iload 5, 2) := by decide +kernel
theorem dL_isStep_22 : decode cL_isStep 22 = .ok (.invokestatic 24, 3) := by decide +kernel
theorem dL_isStep_25 : decode cL_isStep 25 = .ok (.istore 6, 2) := by decide +kernel
theorem dL_isStep_27 : decode cL_isStep 27 = .ok (.iload_n 3, 1) := by decide +kernel
theorem dL_isStep_28 : decode cL_isStep 28 = .ok (.iconst 4, 1) := by decide +kernel
theorem dL_isStep_29 : decode cL_isStep 29 = .ok (.ishr, 1) := by decide +kernel
theorem dL_isStep_30 : decode cL_isStep 30 = .ok (.bipush 8, 2) := by decide +kernel
theorem dL_isStep_32 : decode cL_isStep 32 = .ok (.invokestatic 18, 3) := by decide +kernel
theorem dL_isStep_35 : decode cL_isStep 35 = .ok (.istore 7, 2) := by decide +kernel
theorem dL_isStep_37 : decode cL_isStep 37 = .ok (.iload_n 2, 1) := by decide +kernel
theorem dL_isStep_38 : decode cL_isStep 38 = .ok (.bipush 12, 2) := by decide +kernel
theorem dL_isStep_40 : decode cL_isStep 40 = .ok (.invokestatic 18, 3) := by decide +kernel
theorem dL_isStep_43 : decode cL_isStep 43 = .ok (.tableswitch 346 0 9 #[53, 86, 114, 114, 139, 164, 185, 206, 247, 298], 53) := by decide +kernel
theorem dL_isStep_96 : decode cL_isStep 96 = .ok (.iload_n 3, 1) := by decide +kernel
theorem dL_isStep_97 : decode cL_isStep 97 = .ok (.iconst 3, 1) := by decide +kernel
theorem dL_isStep_98 : decode cL_isStep 98 = .ok (.invokestatic 18, 3) := by decide +kernel
theorem dL_isStep_101 : decode cL_isStep 101 = .ok (.istore 8, 2) := by decide +kernel
theorem dL_isStep_103 : decode cL_isStep 103 = .ok (.aload_n 0, 1) := by decide +kernel
theorem dL_isStep_104 : decode cL_isStep 104 = .ok (.iload 8, 2) := by decide +kernel
theorem dL_isStep_106 : decode cL_isStep 106 = .ok (.invokevirtual 28, 3) := by decide +kernel
theorem dL_isStep_109 : decode cL_isStep 109 = .ok (.aload_n 1, 1) := by decide +kernel
theorem dL_isStep_110 : decode cL_isStep 110 = .ok (.iload 8, 2) := by decide +kernel
theorem dL_isStep_112 : decode cL_isStep 112 = .ok (.invokevirtual 28, 3) := by decide +kernel
theorem dL_isStep_115 : decode cL_isStep 115 = .ok (.iload 4, 2) := by decide +kernel
theorem dL_isStep_117 : decode cL_isStep 117 = .ok (.invokestatic 31, 3) := by decide +kernel
theorem dL_isStep_120 : decode cL_isStep 120 = .ok (.if_icmp .ne 7, 3) := by decide +kernel
theorem dL_isStep_123 : decode cL_isStep 123 = .ok (.iconst 1, 1) := by decide +kernel
theorem dL_isStep_124 : decode cL_isStep 124 = .ok (.goto 4, 3) := by decide +kernel
theorem dL_isStep_127 : decode cL_isStep 127 = .ok (.iconst 0, 1) := by decide +kernel
theorem dL_isStep_128 : decode cL_isStep 128 = .ok (.ireturn, 1) := by decide +kernel
theorem dL_isStep_129 : decode cL_isStep 129 = .ok (.iload_n 3, 1) := by decide +kernel
theorem dL_isStep_130 : decode cL_isStep 130 = .ok (.iconst 3, 1) := by decide +kernel
theorem dL_isStep_131 : decode cL_isStep 131 = .ok (.invokestatic 18, 3) := by decide +kernel
theorem dL_isStep_134 : decode cL_isStep 134 = .ok (.istore 8, 2) := by decide +kernel
theorem dL_isStep_136 : decode cL_isStep 136 = .ok (.aload_n 0, 1) := by decide +kernel
theorem dL_isStep_137 : decode cL_isStep 137 = .ok (.iload 8, 2) := by decide +kernel
theorem dL_isStep_139 : decode cL_isStep 139 = .ok (.invokevirtual 34, 3) := by decide +kernel
theorem dL_isStep_142 : decode cL_isStep 142 = .ok (.aload_n 1, 1) := by decide +kernel
theorem dL_isStep_143 : decode cL_isStep 143 = .ok (.iload 8, 2) := by decide +kernel
theorem dL_isStep_145 : decode cL_isStep 145 = .ok (.invokevirtual 34, 3) := by decide +kernel
theorem dL_isStep_148 : decode cL_isStep 148 = .ok (.if_icmp .ne 7, 3) := by decide +kernel
theorem dL_isStep_151 : decode cL_isStep 151 = .ok (.iconst 1, 1) := by decide +kernel
theorem dL_isStep_152 : decode cL_isStep 152 = .ok (.goto 4, 3) := by decide +kernel
theorem dL_isStep_155 : decode cL_isStep 155 = .ok (.iconst 0, 1) := by decide +kernel
theorem dL_isStep_156 : decode cL_isStep 156 = .ok (.ireturn, 1) := by decide +kernel
theorem dL_isStep_157 : decode cL_isStep 157 = .ok (.aload_n 0, 1) := by decide +kernel
theorem dL_isStep_158 : decode cL_isStep 158 = .ok (.iload 5, 2) := by decide +kernel
theorem dL_isStep_160 : decode cL_isStep 160 = .ok (.iload 7, 2) := by decide +kernel
theorem dL_isStep_162 : decode cL_isStep 162 = .ok (.invokevirtual 37, 3) := by decide +kernel
theorem dL_isStep_165 : decode cL_isStep 165 = .ok (.aload_n 1, 1) := by decide +kernel
theorem dL_isStep_166 : decode cL_isStep 166 = .ok (.iload 6, 2) := by decide +kernel
theorem dL_isStep_168 : decode cL_isStep 168 = .ok (.iload 7, 2) := by decide +kernel
theorem dL_isStep_170 : decode cL_isStep 170 = .ok (.invokevirtual 37, 3) := by decide +kernel
theorem dL_isStep_173 : decode cL_isStep 173 = .ok (.if_icmp .ne 7, 3) := by decide +kernel
theorem dL_isStep_176 : decode cL_isStep 176 = .ok (.iconst 1, 1) := by decide +kernel
theorem dL_isStep_177 : decode cL_isStep 177 = .ok (.goto 4, 3) := by decide +kernel
theorem dL_isStep_180 : decode cL_isStep 180 = .ok (.iconst 0, 1) := by decide +kernel
theorem dL_isStep_181 : decode cL_isStep 181 = .ok (.ireturn, 1) := by decide +kernel
theorem dL_isStep_182 : decode cL_isStep 182 = .ok (.aload_n 0, 1) := by decide +kernel
theorem dL_isStep_183 : decode cL_isStep 183 = .ok (.iload 5, 2) := by decide +kernel
theorem dL_isStep_185 : decode cL_isStep 185 = .ok (.iload 7, 2) := by decide +kernel
theorem dL_isStep_187 : decode cL_isStep 187 = .ok (.invokevirtual 40, 3) := by decide +kernel
theorem dL_isStep_190 : decode cL_isStep 190 = .ok (.aload_n 1, 1) := by decide +kernel
theorem dL_isStep_191 : decode cL_isStep 191 = .ok (.iload 6, 2) := by decide +kernel
theorem dL_isStep_193 : decode cL_isStep 193 = .ok (.iload 7, 2) := by decide +kernel
theorem dL_isStep_195 : decode cL_isStep 195 = .ok (.invokevirtual 40, 3) := by decide +kernel
theorem dL_isStep_198 : decode cL_isStep 198 = .ok (.if_icmp .ne 7, 3) := by decide +kernel
theorem dL_isStep_201 : decode cL_isStep 201 = .ok (.iconst 1, 1) := by decide +kernel
theorem dL_isStep_202 : decode cL_isStep 202 = .ok (.goto 4, 3) := by decide +kernel
theorem dL_isStep_205 : decode cL_isStep 205 = .ok (.iconst 0, 1) := by decide +kernel
theorem dL_isStep_206 : decode cL_isStep 206 = .ok (.ireturn, 1) := by decide +kernel
theorem dL_isStep_207 : decode cL_isStep 207 = .ok (.aload_n 0, 1) := by decide +kernel
theorem dL_isStep_208 : decode cL_isStep 208 = .ok (.iload 5, 2) := by decide +kernel
theorem dL_isStep_210 : decode cL_isStep 210 = .ok (.invokevirtual 43, 3) := by decide +kernel
theorem dL_isStep_213 : decode cL_isStep 213 = .ok (.aload_n 1, 1) := by decide +kernel
theorem dL_isStep_214 : decode cL_isStep 214 = .ok (.iload 6, 2) := by decide +kernel
theorem dL_isStep_216 : decode cL_isStep 216 = .ok (.invokevirtual 43, 3) := by decide +kernel
theorem dL_isStep_219 : decode cL_isStep 219 = .ok (.if_icmp .ne 7, 3) := by decide +kernel
theorem dL_isStep_222 : decode cL_isStep 222 = .ok (.iconst 1, 1) := by decide +kernel
theorem dL_isStep_223 : decode cL_isStep 223 = .ok (.goto 4, 3) := by decide +kernel
theorem dL_isStep_226 : decode cL_isStep 226 = .ok (.iconst 0, 1) := by decide +kernel
theorem dL_isStep_227 : decode cL_isStep 227 = .ok (.ireturn, 1) := by decide +kernel
theorem dL_isStep_228 : decode cL_isStep 228 = .ok (.aload_n 0, 1) := by decide +kernel
theorem dL_isStep_229 : decode cL_isStep 229 = .ok (.iload 5, 2) := by decide +kernel
theorem dL_isStep_231 : decode cL_isStep 231 = .ok (.invokevirtual 46, 3) := by decide +kernel
theorem dL_isStep_234 : decode cL_isStep 234 = .ok (.aload_n 1, 1) := by decide +kernel
theorem dL_isStep_235 : decode cL_isStep 235 = .ok (.iload 6, 2) := by decide +kernel
theorem dL_isStep_237 : decode cL_isStep 237 = .ok (.invokevirtual 46, 3) := by decide +kernel
theorem dL_isStep_240 : decode cL_isStep 240 = .ok (.if_icmp .ne 7, 3) := by decide +kernel
theorem dL_isStep_243 : decode cL_isStep 243 = .ok (.iconst 1, 1) := by decide +kernel
theorem dL_isStep_244 : decode cL_isStep 244 = .ok (.goto 4, 3) := by decide +kernel
theorem dL_isStep_247 : decode cL_isStep 247 = .ok (.iconst 0, 1) := by decide +kernel
theorem dL_isStep_248 : decode cL_isStep 248 = .ok (.ireturn, 1) := by decide +kernel
theorem dL_isStep_249 : decode cL_isStep 249 = .ok (.aload_n 0, 1) := by decide +kernel
theorem dL_isStep_250 : decode cL_isStep 250 = .ok (.iload 5, 2) := by decide +kernel
theorem dL_isStep_252 : decode cL_isStep 252 = .ok (.iconst 1, 1) := by decide +kernel
theorem dL_isStep_253 : decode cL_isStep 253 = .ok (.iload_n 3, 1) := by decide +kernel
theorem dL_isStep_254 : decode cL_isStep 254 = .ok (.iconst 4, 1) := by decide +kernel
theorem dL_isStep_255 : decode cL_isStep 255 = .ok (.ishr, 1) := by decide +kernel
theorem dL_isStep_256 : decode cL_isStep 256 = .ok (.bipush 9, 2) := by decide +kernel
theorem dL_isStep_258 : decode cL_isStep 258 = .ok (.invokestatic 18, 3) := by decide +kernel
theorem dL_isStep_261 : decode cL_isStep 261 = .ok (.iadd, 1) := by decide +kernel
theorem dL_isStep_262 : decode cL_isStep 262 = .ok (.invokevirtual 49, 3) := by decide +kernel
theorem dL_isStep_265 : decode cL_isStep 265 = .ok (.aload_n 1, 1) := by decide +kernel
theorem dL_isStep_266 : decode cL_isStep 266 = .ok (.iload 6, 2) := by decide +kernel
theorem dL_isStep_268 : decode cL_isStep 268 = .ok (.iconst 1, 1) := by decide +kernel
theorem dL_isStep_269 : decode cL_isStep 269 = .ok (.iload_n 3, 1) := by decide +kernel
theorem dL_isStep_270 : decode cL_isStep 270 = .ok (.iconst 4, 1) := by decide +kernel
theorem dL_isStep_271 : decode cL_isStep 271 = .ok (.ishr, 1) := by decide +kernel
theorem dL_isStep_272 : decode cL_isStep 272 = .ok (.bipush 9, 2) := by decide +kernel
theorem dL_isStep_274 : decode cL_isStep 274 = .ok (.invokestatic 18, 3) := by decide +kernel
theorem dL_isStep_277 : decode cL_isStep 277 = .ok (.iadd, 1) := by decide +kernel
theorem dL_isStep_278 : decode cL_isStep 278 = .ok (.invokevirtual 49, 3) := by decide +kernel
theorem dL_isStep_281 : decode cL_isStep 281 = .ok (.if_icmp .ne 7, 3) := by decide +kernel
theorem dL_isStep_284 : decode cL_isStep 284 = .ok (.iconst 1, 1) := by decide +kernel
theorem dL_isStep_285 : decode cL_isStep 285 = .ok (.goto 4, 3) := by decide +kernel
theorem dL_isStep_288 : decode cL_isStep 288 = .ok (.iconst 0, 1) := by decide +kernel
theorem dL_isStep_289 : decode cL_isStep 289 = .ok (.ireturn, 1) := by decide +kernel
theorem dL_isStep_290 : decode cL_isStep 290 = .ok (.aload_n 0, 1) := by decide +kernel
theorem dL_isStep_291 : decode cL_isStep 291 = .ok (.iload 5, 2) := by decide +kernel
theorem dL_isStep_293 : decode cL_isStep 293 = .ok (.iload_n 3, 1) := by decide +kernel
theorem dL_isStep_294 : decode cL_isStep 294 = .ok (.iconst 3, 1) := by decide +kernel
theorem dL_isStep_295 : decode cL_isStep 295 = .ok (.ishr, 1) := by decide +kernel
theorem dL_isStep_296 : decode cL_isStep 296 = .ok (.iconst 3, 1) := by decide +kernel
theorem dL_isStep_297 : decode cL_isStep 297 = .ok (.invokestatic 18, 3) := by decide +kernel
theorem dL_isStep_300 : decode cL_isStep 300 = .ok (.iload_n 3, 1) := by decide +kernel
theorem dL_isStep_301 : decode cL_isStep 301 = .ok (.iconst 5, 1) := by decide +kernel
theorem dL_isStep_302 : decode cL_isStep 302 = .ok (.ishr, 1) := by decide +kernel
theorem dL_isStep_303 : decode cL_isStep 303 = .ok (.bipush 12, 2) := by decide +kernel
theorem dL_isStep_305 : decode cL_isStep 305 = .ok (.invokestatic 18, 3) := by decide +kernel
theorem dL_isStep_308 : decode cL_isStep 308 = .ok (.invokevirtual 52, 3) := by decide +kernel
theorem dL_isStep_311 : decode cL_isStep 311 = .ok (.aload_n 1, 1) := by decide +kernel
theorem dL_isStep_312 : decode cL_isStep 312 = .ok (.iload 6, 2) := by decide +kernel
theorem dL_isStep_314 : decode cL_isStep 314 = .ok (.iload_n 3, 1) := by decide +kernel
theorem dL_isStep_315 : decode cL_isStep 315 = .ok (.iconst 3, 1) := by decide +kernel
theorem dL_isStep_316 : decode cL_isStep 316 = .ok (.ishr, 1) := by decide +kernel
theorem dL_isStep_317 : decode cL_isStep 317 = .ok (.iconst 3, 1) := by decide +kernel
