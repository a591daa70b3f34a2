theorem dX0_init_0 : decode cX0_init 0 = .ok (.aload_n 0, 1) := by decide +kernel
theorem dX0_init_1 : decode cX0_init 1 = .ok (.invokespecial 1, 3) := by decide +kernel
theorem dX0_init_4 : decode cX0_init 4 = .ok (.aload_n 0, 1) := by decide +kernel
theorem dX0_init_5 : decode cX0_init 5 = .ok (.new 7, 3) := by decide +kernel
theorem dX0_init_8 : decode cX0_init 8 = .ok (.dup, 1) := by decide +kernel
theorem dX0_init_9 : decode cX0_init 9 = .ok (.invokespecial 9, 3) := by decide +kernel
theorem dX0_init_12 : decode cX0_init 12 = .ok (.putfield 10, 3) := by decide +kernel
theorem dX0_init_15 : decode cX0_init 15 = .ok (.return_, 1) := by decide +kernel
theorem dX0_correct_0 : decode cX0_correct 0 = .ok (.lload_n 2, 1) := by decide +kernel
theorem dX0_correct_1 : decode cX0_correct 1 = .ok (.lstore 6, 2) := by decide +kernel
theorem dX0_correct_3 : decode cX0_correct 3 = .ok (.lload 4, 2) := by decide +kernel
theorem dX0_correct_5 : decode cX0_correct 5 = .ok (.lstore 8, 2) := by decide +kernel
theorem dX0_correct_7 : decode cX0_correct 7 = .ok (.aload_n 1, 1) := by decide +kernel
theorem dX0_correct_8 : decode cX0_correct 8 = .ok (.getfield 16, 3) := by decide +kernel
theorem dX0_correct_11 : decode cX0_correct 11 = .ok (.iconst 2, 1) := by decide +kernel
theorem dX0_correct_12 : decode cX0_correct 12 = .ok (.invokevirtual 24, 3) := by decide +kernel
theorem dX0_correct_15 : decode cX0_correct 15 = .ok (.istore 10, 2) := by decide +kernel
theorem dX0_correct_17 : decode cX0_correct 17 = .ok (.iconst 1, 1) := by decide +kernel
theorem dX0_correct_18 : decode cX0_correct 18 = .ok (.istore 11, 2) := by decide +kernel
theorem dX0_correct_20 : decode cX0_correct 20 = .ok (.iload 11, 2) := by decide +kernel
theorem dX0_correct_22 : decode cX0_correct 22 = .ok (.iload 10, 2) := by decide +kernel
theorem dX0_correct_24 : decode cX0_correct 24 = .ok (.if_icmp .gt 144, 3) := by decide +kernel
theorem dX0_correct_27 : decode cX0_correct 27 = .ok (.lload 6, 2) := by decide +kernel
theorem dX0_correct_29 : decode cX0_correct 29 = .ok (.lload 8, 2) := by decide +kernel
theorem dX0_correct_31 : decode cX0_correct 31 = .ok (.invokestatic 28, 3) := by decide +kernel
theorem dX0_correct_34 : decode cX0_correct 34 = .ok (.ifCond .ne 5, 3) := by decide +kernel
theorem dX0_correct_37 : decode cX0_correct 37 = .ok (.iconst 0, 1) := by decide +kernel
theorem dX0_correct_38 : decode cX0_correct 38 = .ok (.ireturn, 1) := by decide +kernel
theorem dX0_correct_39 : decode cX0_correct 39 = .ok (.aload_n 0, 1) := by decide +kernel
theorem dX0_correct_40 : decode cX0_correct 40 = .ok (.getfield 10, 3) := by decide +kernel
theorem dX0_correct_43 : decode cX0_correct 43 = .ok (.aload_n 1, 1) := by decide +kernel
theorem dX0_correct_44 : decode cX0_correct 44 = .ok (.getfield 34, 3) := by decide +kernel
theorem dX0_correct_47 : decode cX0_correct 47 = .ok (.lload 6, 2) := by decide +kernel
theorem dX0_correct_49 : decode cX0_correct 49 = .ok (.lload 8, 2) := by decide +kernel
theorem dX0_correct_51 : decode cX0_correct 51 = .ok (.invokevirtual 38, 3) := by decide +kernel
theorem dX0_correct_54 : decode cX0_correct 54 = .ok (.aload_n 0, 1) := by decide +kernel
theorem dX0_correct_55 : decode cX0_correct 55 = .ok (.getfield 10, 3) := by decide +kernel
theorem dX0_correct_58 : decode cX0_correct 58 = .ok (.invokevirtual 42, 3) := by decide +kernel
theorem dX0_correct_61 : decode cX0_correct 61 = .ok (.lstore 12, 2) := by decide +kernel
theorem dX0_correct_63 : decode cX0_correct 63 = .ok (.lload 12, 2) := by decide +kernel
theorem dX0_correct_65 : decode cX0_correct 65 = .ok (.lconst 0, 1) := by decide +kernel
theorem dX0_correct_66 : decode cX0_correct 66 = .ok (.lcmp, 1) := by decide +kernel
theorem dX0_correct_67 : decode cX0_correct 67 = .ok (.ifCond .ne 5, 3) := by decide +kernel
theorem dX0_correct_70 : decode cX0_correct 70 = .ok (.iconst 0, 1) := by decide +kernel
theorem dX0_correct_71 : decode cX0_correct 71 = .ok (.ireturn, 1) := by decide +kernel
theorem dX0_correct_72 : decode cX0_correct 72 = .ok (.aload_n 0, 1) := by decide +kernel
theorem dX0_correct_73 : decode cX0_correct 73 = .ok (.getfield 10, 3) := by decide +kernel
theorem dX0_correct_76 : decode cX0_correct 76 = .ok (.getfield 46, 3) := by decide +kernel
theorem dX0_correct_79 : decode cX0_correct 79 = .ok (.aload_n 0, 1) := by decide +kernel
theorem dX0_correct_80 : decode cX0_correct 80 = .ok (.getfield 10, 3) := by decide +kernel
theorem dX0_correct_83 : decode cX0_correct 83 = .ok (.getfield 50, 3) := by decide +kernel
theorem dX0_correct_86 : decode cX0_correct 86 = .ok (.lmul, 1) := by decide +kernel
theorem dX0_correct_87 : decode cX0_correct 87 = .ok (.lload 12, 2) := by decide +kernel
theorem dX0_correct_89 : decode cX0_correct 89 = .ok (.ldiv, 1) := by decide +kernel
theorem dX0_correct_90 : decode cX0_correct 90 = .ok (.lstore 14, 2) := by decide +kernel
theorem dX0_correct_92 : decode cX0_correct 92 = .ok (.aload_n 0, 1) := by decide +kernel
theorem dX0_correct_93 : decode cX0_correct 93 = .ok (.getfield 10, 3) := by decide +kernel
theorem dX0_correct_96 : decode cX0_correct 96 = .ok (.getfield 46, 3) := by decide +kernel
theorem dX0_correct_99 : decode cX0_correct 99 = .ok (.aload_n 0, 1) := by decide +kernel
theorem dX0_correct_100 : decode cX0_correct 100 = .ok (.getfield 10, 3) := by decide +kernel
theorem dX0_correct_103 : decode cX0_correct 103 = .ok (.getfield 53, 3) := by decide +kernel
theorem dX0_correct_106 : decode cX0_correct 106 = .ok (.lmul, 1) := by decide +kernel
theorem dX0_correct_107 : decode cX0_correct 107 = .ok (.lload 12, 2) := by decide +kernel
theorem dX0_correct_109 : decode cX0_correct 109 = .ok (.ldiv, 1) := by decide +kernel
theorem dX0_correct_110 : decode cX0_correct 110 = .ok (.lstore 16, 2) := by decide +kernel
theorem dX0_correct_112 : decode cX0_correct 112 = .ok (.lload 14, 2) := by decide +kernel
theorem dX0_correct_114 : decode cX0_correct 114 = .ok (.lconst 0, 1) := by decide +kernel
theorem dX0_correct_115 : decode cX0_correct 115 = .ok (.lcmp, 1) := by decide +kernel
theorem dX0_correct_116 : decode cX0_correct 116 = .ok (.ifCond .ne 32, 3) := by decide +kernel
theorem dX0_correct_119 : decode cX0_correct 119 = .ok (.lload 16, 2) := by decide +kernel
theorem dX0_correct_121 : decode cX0_correct 121 = .ok (.lconst 0, 1) := by decide +kernel
theorem dX0_correct_122 : decode cX0_correct 122 = .ok (.lcmp, 1) := by decide +kernel
theorem dX0_correct_123 : decode cX0_correct 123 = .ok (.ifCond .ne 25, 3) := by decide +kernel
theorem dX0_correct_126 : decode cX0_correct 126 = .ok (.aload_n 0, 1) := by decide +kernel
theorem dX0_correct_127 : decode cX0_correct 127 = .ok (.lload 6, 2) := by decide +kernel
theorem dX0_correct_129 : decode cX0_correct 129 = .ok (.l2i, 1) := by decide +kernel
theorem dX0_correct_130 : decode cX0_correct 130 = .ok (.putfield 56, 3) := by decide +kernel
theorem dX0_correct_133 : decode cX0_correct 133 = .ok (.aload_n 0, 1) := by decide +kernel
theorem dX0_correct_134 : decode cX0_correct 134 = .ok (.lload 8, 2) := by decide +kernel
theorem dX0_correct_136 : decode cX0_correct 136 = .ok (.l2i, 1) := by decide +kernel
theorem dX0_correct_137 : decode cX0_correct 137 = .ok (.putfield 60, 3) := by decide +kernel
theorem dX0_correct_140 : decode cX0_correct 140 = .ok (.aload_n 0, 1) := by decide +kernel
theorem dX0_correct_141 : decode cX0_correct 141 = .ok (.iload 11, 2) := by decide +kernel
theorem dX0_correct_143 : decode cX0_correct 143 = .ok (.putfield 63, 3) := by decide +kernel
theorem dX0_correct_146 : decode cX0_correct 146 = .ok (.iconst 1, 1) := by decide +kernel
theorem dX0_correct_147 : decode cX0_correct 147 = .ok (.ireturn, 1) := by decide +kernel
theorem dX0_correct_148 : decode cX0_correct 148 = .ok (.lload 6, 2) := by decide +kernel
theorem dX0_correct_150 : decode cX0_correct 150 = .ok (.lload 14, 2) := by decide +kernel
theorem dX0_correct_152 : decode cX0_correct 152 = .ok (.lsub, 1) := by decide +kernel
theorem dX0_correct_153 : decode cX0_correct 153 = .ok (.lstore 6, 2) := by decide +kernel
theorem dX0_correct_155 : decode cX0_correct 155 = .ok (.lload 8, 2) := by decide +kernel
theorem dX0_correct_157 : decode cX0_correct 157 = .ok (.lload 16, 2) := by decide +kernel
theorem dX0_correct_159 : decode cX0_correct 159 = .ok (.lsub, 1) := by decide +kernel
theorem dX0_correct_160 : decode cX0_correct 160 = .ok (.lstore 8, 2) := by decide +kernel
theorem dX0_correct_162 : decode cX0_correct 162 = .ok (.iinc 11 1, 3) := by decide +kernel
theorem dX0_correct_165 : decode cX0_correct 165 = .ok (.goto (-145), 3) := by decide +kernel
theorem dX0_correct_168 : decode cX0_correct 168 = .ok (.iconst 0, 1) := by decide +kernel
theorem dX0_correct_169 : decode cX0_correct 169 = .ok (.ireturn, 1) := by decide +kernel
theorem dX1_init_0 : decode cX1_init 0 = .ok (.aload_n 0, 1) := by decide +kernel
theorem dX1_init_1 : decode cX1_init 1 = .ok (.invokespecial 3, 3) := by decide +kernel
theorem dX1_init_4 : decode cX1_init 4 = .ok (.aload_n 0, 1) := by decide +kernel
theorem dX1_init_5 : decode cX1_init 5 = .ok (.iconst 4, 1) := by decide +kernel
theorem dX1_init_6 : decode cX1_init 6 = .ok (.anewarray 9, 3) := by decide +kernel
theorem dX1_init_9 : decode cX1_init 9 = .ok (.putfield 11, 3) := by decide +kernel
theorem dX1_init_12 : decode cX1_init 12 = .ok (.iconst 0, 1) := by decide +kernel
theorem dX1_init_13 : decode cX1_init 13 = .ok (.istore_n 1, 1) := by decide +kernel
theorem dX1_init_14 : decode cX1_init 14 = .ok (.iload_n 1, 1) := by decide +kernel
theorem dX1_init_15 : decode cX1_init 15 = .ok (.iconst 4, 1) := by decide +kernel
theorem dX1_init_16 : decode cX1_init 16 = .ok (.if_icmp .ge 22, 3) := by decide +kernel
theorem dX1_init_19 : decode cX1_init 19 = .ok (.aload_n 0, 1) := by decide +kernel
theorem dX1_init_20 : decode cX1_init 20 = .ok (.getfield 11, 3) := by decide +kernel
theorem dX1_init_23 : decode cX1_init 23 = .ok (.iload_n 1, 1) := by decide +kernel
theorem dX1_init_24 : decode cX1_init 24 = .ok (.new 9, 3) := by decide +kernel
theorem dX1_init_27 : decode cX1_init 27 = .ok (.dup, 1) := by decide +kernel
theorem dX1_init_28 : decode cX1_init 28 = .ok (.invokespecial 17, 3) := by decide +kernel
theorem dX1_init_31 : decode cX1_init 31 = .ok (.aastore, 1) := by decide +kernel
theorem dX1_init_32 : decode cX1_init 32 = .ok (.iinc 1 1, 3) := by decide +kernel
theorem dX1_init_35 : decode cX1_init 35 = .ok (.goto (-21), 3) := by decide +kernel
theorem dX1_init_38 : decode cX1_init 38 = .ok (.return_, 1) := by decide +kernel
theorem dX1_keep_0 : decode cX1_keep 0 = .ok (.aload_n 0, 1) := by decide +kernel
theorem dX1_keep_1 : decode cX1_keep 1 = .ok (.getfield 18, 3) := by decide +kernel
theorem dX1_keep_4 : decode cX1_keep 4 = .ok (.iconst 4, 1) := by decide +kernel
theorem dX1_keep_5 : decode cX1_keep 5 = .ok (.if_icmp .lt 25, 3) := by decide +kernel
theorem dX1_keep_8 : decode cX1_keep 8 = .ok (.aload_n 0, 1) := by decide +kernel
theorem dX1_keep_9 : decode cX1_keep 9 = .ok (.aload_n 0, 1) := by decide +kernel
theorem dX1_keep_10 : decode cX1_keep 10 = .ok (.getfield 22, 3) := by decide +kernel
theorem dX1_keep_13 : decode cX1_keep 13 = .ok (.iconst 1, 1) := by decide +kernel
theorem dX1_keep_14 : decode cX1_keep 14 = .ok (.iadd, 1) := by decide +kernel
theorem dX1_keep_15 : decode cX1_keep 15 = .ok (.iconst 4, 1) := by decide +kernel
theorem dX1_keep_16 : decode cX1_keep 16 = .ok (.irem, 1) := by decide +kernel
theorem dX1_keep_17 : decode cX1_keep 17 = .ok (.putfield 22, 3) := by decide +kernel
theorem dX1_keep_20 : decode cX1_keep 20 = .ok (.aload_n 0, 1) := by decide +kernel
theorem dX1_keep_21 : decode cX1_keep 21 = .ok (.dup, 1) := by decide +kernel
theorem dX1_keep_22 : decode cX1_keep 22 = .ok (.getfield 18, 3) := by decide +kernel
theorem dX1_keep_25 : decode cX1_keep 25 = .ok (.iconst 1, 1) := by decide +kernel
theorem dX1_keep_26 : decode cX1_keep 26 = .ok (.isub, 1) := by decide +kernel
theorem dX1_keep_27 : decode cX1_keep 27 = .ok (.putfield 18, 3) := by decide +kernel
theorem dX1_keep_30 : decode cX1_keep 30 = .ok (.aload_n 0, 1) := by decide +kernel
theorem dX1_keep_31 : decode cX1_keep 31 = .ok (.dup, 1) := by decide +kernel
theorem dX1_keep_32 : decode cX1_keep 32 = .ok (.getfield 18, 3) := by decide +kernel
theorem dX1_keep_35 : decode cX1_keep 35 = .ok (.iconst 1, 1) := by decide +kernel
theorem dX1_keep_36 : decode cX1_keep 36 = .ok (.iadd, 1) := by decide +kernel
theorem dX1_keep_37 : decode cX1_keep 37 = .ok (.putfield 18, 3) := by decide +kernel
theorem dX1_keep_40 : decode cX1_keep 40 = .ok (.aload_n 0, 1) := by decide +kernel
theorem dX1_keep_41 : decode cX1_keep 41 = .ok (.getfield 11, 3) := by decide +kernel
theorem dX1_keep_44 : decode cX1_keep 44 = .ok (.aload_n 0, 1) := by decide +kernel
theorem dX1_keep_45 : decode cX1_keep 45 = .ok (.invokevirtual 25, 3) := by decide +kernel
theorem dX1_keep_48 : decode cX1_keep 48 = .ok (.aaload, 1) := by decide +kernel
theorem dX1_keep_49 : decode cX1_keep 49 = .ok (.aload_n 1, 1) := by decide +kernel
theorem dX1_keep_50 : decode cX1_keep 50 = .ok (.invokevirtual 29, 3) := by decide +kernel
theorem dX1_keep_53 : decode cX1_keep 53 = .ok (.return_, 1) := by decide +kernel
theorem dX1_restore_0 : decode cX1_restore 0 = .ok (.aload_n 0, 1) := by decide +kernel
theorem dX1_restore_1 : decode cX1_restore 1 = .ok (.getfield 18, 3) := by decide +kernel
theorem dX1_restore_4 : decode cX1_restore 4 = .ok (.ifCond .gt 4, 3) := by decide +kernel
theorem dX1_restore_7 : decode cX1_restore 7 = .ok (.return_, 1) := by decide +kernel
theorem dX1_restore_8 : decode cX1_restore 8 = .ok (.aload_n 1, 1) := by decide +kernel
theorem dX1_restore_9 : decode cX1_restore 9 = .ok (.aload_n 0, 1) := by decide +kernel
theorem dX1_restore_10 : decode cX1_restore 10 = .ok (.getfield 11, 3) := by decide +kernel
theorem dX1_restore_13 : decode cX1_restore 13 = .ok (.aload_n 0, 1) := by decide +kernel
theorem dX1_restore_14 : decode cX1_restore 14 = .ok (.invokevirtual 25, 3) := by decide +kernel
theorem dX1_restore_17 : decode cX1_restore 17 = .ok (.aaload, 1) := by decide +kernel
theorem dX1_restore_18 : decode cX1_restore 18 = .ok (.invokevirtual 29, 3) := by decide +kernel
theorem dX1_restore_21 : decode cX1_restore 21 = .ok (.aload_n 0, 1) := by decide +kernel
theorem dX1_restore_22 : decode cX1_restore 22 = .ok (.dup, 1) := by decide +kernel
theorem dX1_restore_23 : decode cX1_restore 23 = .ok (.getfield 18, 3) := by decide +kernel
theorem dX1_restore_26 : decode cX1_restore 26 = .ok (.iconst 1, 1) := by decide +kernel
theorem dX1_restore_27 : decode cX1_restore 27 = .ok (.isub, 1) := by decide +kernel
theorem dX1_restore_28 : decode cX1_restore 28 = .ok (.putfield 18, 3) := by decide +kernel
theorem dX1_restore_31 : decode cX1_restore 31 = .ok (.return_, 1) := by decide +kernel
theorem dX1_latest_0 : decode cX1_latest 0 = .ok (.aload_n 0, 1) := by decide +kernel
theorem dX1_latest_1 : decode cX1_latest 1 = .ok (.getfield 18, 3) := by decide +kernel
theorem dX1_latest_4 : decode cX1_latest 4 = .ok (.ifCond .gt 10, 3) := by decide +kernel
theorem dX1_latest_7 : decode cX1_latest 7 = .ok (.aload_n 0, 1) := by decide +kernel
theorem dX1_latest_8 : decode cX1_latest 8 = .ok (.getfield 22, 3) := by decide +kernel
theorem dX1_latest_11 : decode cX1_latest 11 = .ok (.goto 16, 3) := by decide +kernel
theorem dX1_latest_14 : decode cX1_latest 14 = .ok (.aload_n 0, 1) := by decide +kernel
theorem dX1_latest_15 : decode cX1_latest 15 = .ok (.getfield 22, 3) := by decide +kernel
theorem dX1_latest_18 : decode cX1_latest 18 = .ok (.aload_n 0, 1) := by decide +kernel
theorem dX1_latest_19 : decode cX1_latest 19 = .ok (.getfield 18, 3) := by decide +kernel
theorem dX1_latest_22 : decode cX1_latest 22 = .ok (.iadd, 1) := by decide +kernel
theorem dX1_latest_23 : decode cX1_latest 23 = .ok (.iconst 1, 1) := by decide +kernel
theorem dX1_latest_24 : decode cX1_latest 24 = .ok (.isub, 1) := by decide +kernel
theorem dX1_latest_25 : decode cX1_latest 25 = .ok (.iconst 4, 1) := by decide +kernel
theorem dX1_latest_26 : decode cX1_latest 26 = .ok (.irem, 1) := by decide +kernel
theorem dX1_latest_27 : decode cX1_latest 27 = .ok (.ireturn, 1) := by decide +kernel
theorem dX2_init_0 : decode cX2_init 0 = .ok (.aload_n 0, 1) := by decide +kernel
theorem dX2_init_1 : decode cX2_init 1 = .ok (.invokespecial 3, 3) := by decide +kernel
theorem dX2_init_4 : decode cX2_init 4 = .ok (.aload_n 0, 1) := by decide +kernel
theorem dX2_init_5 : decode cX2_init 5 = .ok (.new 9, 3) := by decide +kernel
theorem dX2_init_8 : decode cX2_init 8 = .ok (.dup, 1) := by decide +kernel
theorem dX2_init_9 : decode cX2_init 9 = .ok (.invokespecial 11, 3) := by decide +kernel
theorem dX2_init_12 : decode cX2_init 12 = .ok (.putfield 12, 3) := by decide +kernel
theorem dX2_init_15 : decode cX2_init 15 = .ok (.aload_n 0, 1) := by decide +kernel
theorem dX2_init_16 : decode cX2_init 16 = .ok (.new 18, 3) := by decide +kernel
theorem dX2_init_19 : decode cX2_init 19 = .ok (.dup, 1) := by decide +kernel
theorem dX2_init_20 : decode cX2_init 20 = .ok (.invokespecial 20, 3) := by decide +kernel
theorem dX2_init_23 : decode cX2_init 23 = .ok (.putfield 21, 3) := by decide +kernel
theorem dX2_init_26 : decode cX2_init 26 = .ok (.return_, 1) := by decide +kernel
theorem dX2_advance_0 : decode cX2_advance 0 = .ok (.aload_n 0, 1) := by decide +kernel
theorem dX2_advance_1 : decode cX2_advance 1 = .ok (.getfield 21, 3) := by decide +kernel
theorem dX2_advance_4 : decode cX2_advance 4 = .ok (.aload_n 1, 1) := by decide +kernel
theorem dX2_advance_5 : decode cX2_advance 5 = .ok (.getfield 25, 3) := by decide +kernel
theorem dX2_advance_8 : decode cX2_advance 8 = .ok (.aload_n 2, 1) := by decide +kernel
theorem dX2_advance_9 : decode cX2_advance 9 = .ok (.invokevirtual 31, 3) := by decide +kernel
theorem dX2_advance_12 : decode cX2_advance 12 = .ok (.i2l, 1) := by decide +kernel
theorem dX2_advance_13 : decode cX2_advance 13 = .ok (.aload_n 2, 1) := by decide +kernel
theorem dX2_advance_14 : decode cX2_advance 14 = .ok (.invokevirtual 37, 3) := by decide +kernel
theorem dX2_advance_17 : decode cX2_advance 17 = .ok (.i2l, 1) := by decide +kernel
theorem dX2_advance_18 : decode cX2_advance 18 = .ok (.invokevirtual 40, 3) := by decide +kernel
theorem dX2_advance_21 : decode cX2_advance 21 = .ok (.aload_n 0, 1) := by decide +kernel
theorem dX2_advance_22 : decode cX2_advance 22 = .ok (.getfield 21, 3) := by decide +kernel
theorem dX2_advance_25 : decode cX2_advance 25 = .ok (.invokevirtual 44, 3) := by decide +kernel
theorem dX2_advance_28 : decode cX2_advance 28 = .ok (.invokestatic 48, 3) := by decide +kernel
theorem dX2_advance_31 : decode cX2_advance 31 = .ok (.lstore_n 3, 1) := by decide +kernel
theorem dX2_advance_32 : decode cX2_advance 32 = .ok (.aload_n 2, 1) := by decide +kernel
theorem dX2_advance_33 : decode cX2_advance 33 = .ok (.getfield 52, 3) := by decide +kernel
theorem dX2_advance_36 : decode cX2_advance 36 = .ok (.ifCond .le 47, 3) := by decide +kernel
theorem dX2_advance_39 : decode cX2_advance 39 = .ok (.lload_n 3, 1) := by decide +kernel
theorem dX2_advance_40 : decode cX2_advance 40 = .ok (.lconst 0, 1) := by decide +kernel
theorem dX2_advance_41 : decode cX2_advance 41 = .ok (.lcmp, 1) := by decide +kernel
theorem dX2_advance_42 : decode cX2_advance 42 = .ok (.ifCond .eq 28, 3) := by decide +kernel
theorem dX2_advance_45 : decode cX2_advance 45 = .ok (.aload_n 0, 1) := by decide +kernel
theorem dX2_advance_46 : decode cX2_advance 46 = .ok (.aload_n 1, 1) := by decide +kernel
theorem dX2_advance_47 : decode cX2_advance 47 = .ok (.aload_n 2, 1) := by decide +kernel
theorem dX2_advance_48 : decode cX2_advance 48 = .ok (.lload_n 3, 1) := by decide +kernel
theorem dX2_advance_49 : decode cX2_advance 49 = .ok (.invokevirtual 56, 3) := by decide +kernel
theorem dX2_advance_52 : decode cX2_advance 52 = .ok (.ifCond .eq 18, 3) := by decide +kernel
theorem dX2_advance_55 : decode cX2_advance 55 = .ok (.aload_n 0, 1) := by decide +kernel
theorem dX2_advance_56 : decode cX2_advance 56 = .ok (.aload_n 2, 1) := by decide +kernel
theorem dX2_advance_57 : decode cX2_advance 57 = .ok (.aload_n 1, 1) := by decide +kernel
theorem dX2_advance_58 : decode cX2_advance 58 = .ok (.getfield 60, 3) := by decide +kernel
theorem dX2_advance_61 : decode cX2_advance 61 = .ok (.iconst 1, 1) := by decide +kernel
theorem dX2_advance_62 : decode cX2_advance 62 = .ok (.invokevirtual 66, 3) := by decide +kernel
theorem dX2_advance_65 : decode cX2_advance 65 = .ok (.invokevirtual 70, 3) := by decide +kernel
theorem dX2_advance_68 : decode cX2_advance 68 = .ok (.iconst 1, 1) := by decide +kernel
theorem dX2_advance_69 : decode cX2_advance 69 = .ok (.ireturn, 1) := by decide +kernel
theorem dX2_advance_70 : decode cX2_advance 70 = .ok (.aload_n 2, 1) := by decide +kernel
theorem dX2_advance_71 : decode cX2_advance 71 = .ok (.dup, 1) := by decide +kernel
theorem dX2_advance_72 : decode cX2_advance 72 = .ok (.getfield 52, 3) := by decide +kernel
theorem dX2_advance_75 : decode cX2_advance 75 = .ok (.iconst 2, 1) := by decide +kernel
theorem dX2_advance_76 : decode cX2_advance 76 = .ok (.idiv, 1) := by decide +kernel
theorem dX2_advance_77 : decode cX2_advance 77 = .ok (.putfield 52, 3) := by decide +kernel
theorem dX2_advance_80 : decode cX2_advance 80 = .ok (.goto (-48), 3) := by decide +kernel
theorem dX2_advance_83 : decode cX2_advance 83 = .ok (.aload_n 2, 1) := by decide +kernel
theorem dX2_advance_84 : decode cX2_advance 84 = .ok (.iconst 1, 1) := by decide +kernel
theorem dX2_advance_85 : decode cX2_advance 85 = .ok (.putfield 74, 3) := by decide +kernel
theorem dX2_advance_88 : decode cX2_advance 88 = .ok (.iconst 0, 1) := by decide +kernel
theorem dX2_advance_89 : decode cX2_advance 89 = .ok (.ireturn, 1) := by decide +kernel
theorem dX2_arrives_0 : decode cX2_arrives 0 = .ok (.lload_n 3, 1) := by decide +kernel
theorem dX2_arrives_1 : decode cX2_arrives 1 = .ok (.lconst 0, 1) := by decide +kernel
theorem dX2_arrives_2 : decode cX2_arrives 2 = .ok (.lcmp, 1) := by decide +kernel
theorem dX2_arrives_3 : decode cX2_arrives 3 = .ok (.ifCond .ne 5, 3) := by decide +kernel
theorem dX2_arrives_6 : decode cX2_arrives 6 = .ok (.iconst 0, 1) := by decide +kernel
theorem dX2_arrives_7 : decode cX2_arrives 7 = .ok (.ireturn, 1) := by decide +kernel
theorem dX2_arrives_8 : decode cX2_arrives 8 = .ok (.aload_n 2, 1) := by decide +kernel
theorem dX2_arrives_9 : decode cX2_arrives 9 = .ok (.getfield 52, 3) := by decide +kernel
theorem dX2_arrives_12 : decode cX2_arrives 12 = .ok (.i2l, 1) := by decide +kernel
theorem dX2_arrives_13 : decode cX2_arrives 13 = .ok (.aload_n 2, 1) := by decide +kernel
theorem dX2_arrives_14 : decode cX2_arrives 14 = .ok (.getfield 78, 3) := by decide +kernel
theorem dX2_arrives_17 : decode cX2_arrives 17 = .ok (.i2l, 1) := by decide +kernel
theorem dX2_arrives_18 : decode cX2_arrives 18 = .ok (.lmul, 1) := by decide +kernel
theorem dX2_arrives_19 : decode cX2_arrives 19 = .ok (.lstore 5, 2) := by decide +kernel
theorem dX2_arrives_21 : decode cX2_arrives 21 = .ok (.aload_n 2, 1) := by decide +kernel
theorem dX2_arrives_22 : decode cX2_arrives 22 = .ok (.invokevirtual 31, 3) := by decide +kernel
theorem dX2_arrives_25 : decode cX2_arrives 25 = .ok (.i2l, 1) := by decide +kernel
theorem dX2_arrives_26 : decode cX2_arrives 26 = .ok (.lload 5, 2) := by decide +kernel
theorem dX2_arrives_28 : decode cX2_arrives 28 = .ok (.aload_n 0, 1) := by decide +kernel
theorem dX2_arrives_29 : decode cX2_arrives 29 = .ok (.getfield 21, 3) := by decide +kernel
theorem dX2_arrives_32 : decode cX2_arrives 32 = .ok (.getfield 81, 3) := by decide +kernel
theorem dX2_arrives_35 : decode cX2_arrives 35 = .ok (.lneg, 1) := by decide +kernel
theorem dX2_arrives_36 : decode cX2_arrives 36 = .ok (.lmul, 1) := by decide +kernel
theorem dX2_arrives_37 : decode cX2_arrives 37 = .ok (.lload_n 3, 1) := by decide +kernel
theorem dX2_arrives_38 : decode cX2_arrives 38 = .ok (.ldiv, 1) := by decide +kernel
theorem dX2_arrives_39 : decode cX2_arrives 39 = .ok (.ladd, 1) := by decide +kernel
theorem dX2_arrives_40 : decode cX2_arrives 40 = .ok (.lstore 7, 2) := by decide +kernel
theorem dX2_arrives_42 : decode cX2_arrives 42 = .ok (.aload_n 2, 1) := by decide +kernel
theorem dX2_arrives_43 : decode cX2_arrives 43 = .ok (.invokevirtual 37, 3) := by decide +kernel
theorem dX2_arrives_46 : decode cX2_arrives 46 = .ok (.i2l, 1) := by decide +kernel
theorem dX2_arrives_47 : decode cX2_arrives 47 = .ok (.lload 5, 2) := by decide +kernel
theorem dX2_arrives_49 : decode cX2_arrives 49 = .ok (.aload_n 0, 1) := by decide +kernel
theorem dX2_arrives_50 : decode cX2_arrives 50 = .ok (.getfield 21, 3) := by decide +kernel
theorem dX2_arrives_53 : decode cX2_arrives 53 = .ok (.getfield 85, 3) := by decide +kernel
theorem dX2_arrives_56 : decode cX2_arrives 56 = .ok (.lmul, 1) := by decide +kernel
theorem dX2_arrives_57 : decode cX2_arrives 57 = .ok (.lload_n 3, 1) := by decide +kernel
theorem dX2_arrives_58 : decode cX2_arrives 58 = .ok (.ldiv, 1) := by decide +kernel
theorem dX2_arrives_59 : decode cX2_arrives 59 = .ok (.ladd, 1) := by decide +kernel
theorem dX2_arrives_60 : decode cX2_arrives 60 = .ok (.lstore 9, 2) := by decide +kernel
theorem dX2_arrives_62 : decode cX2_arrives 62 = .ok (.aload_n 0, 1) := by decide +kernel
theorem dX2_arrives_63 : decode cX2_arrives 63 = .ok (.getfield 12, 3) := by decide +kernel
theorem dX2_arrives_66 : decode cX2_arrives 66 = .ok (.aload_n 1, 1) := by decide +kernel
theorem dX2_arrives_67 : decode cX2_arrives 67 = .ok (.lload 7, 2) := by decide +kernel
theorem dX2_arrives_69 : decode cX2_arrives 69 = .ok (.lload 9, 2) := by decide +kernel
theorem dX2_arrives_71 : decode cX2_arrives 71 = .ok (.invokevirtual 88, 3) := by decide +kernel
theorem dX2_arrives_74 : decode cX2_arrives 74 = .ok (.ifCond .eq 35, 3) := by decide +kernel
theorem dX2_arrives_77 : decode cX2_arrives 77 = .ok (.aload_n 0, 1) := by decide +kernel
theorem dX2_arrives_78 : decode cX2_arrives 78 = .ok (.getfield 12, 3) := by decide +kernel
theorem dX2_arrives_81 : decode cX2_arrives 81 = .ok (.getfield 92, 3) := by decide +kernel
theorem dX2_arrives_84 : decode cX2_arrives 84 = .ok (.aload_n 2, 1) := by decide +kernel
theorem dX2_arrives_85 : decode cX2_arrives 85 = .ok (.invokevirtual 31, 3) := by decide +kernel
theorem dX2_arrives_88 : decode cX2_arrives 88 = .ok (.if_icmp .ne 17, 3) := by decide +kernel
theorem dX2_arrives_91 : decode cX2_arrives 91 = .ok (.aload_n 0, 1) := by decide +kernel
theorem dX2_arrives_92 : decode cX2_arrives 92 = .ok (.getfield 12, 3) := by decide +kernel
theorem dX2_arrives_95 : decode cX2_arrives 95 = .ok (.getfield 95, 3) := by decide +kernel
theorem dX2_arrives_98 : decode cX2_arrives 98 = .ok (.aload_n 2, 1) := by decide +kernel
theorem dX2_arrives_99 : decode cX2_arrives 99 = .ok (.invokevirtual 37, 3) := by decide +kernel
theorem dX2_arrives_102 : decode cX2_arrives 102 = .ok (.if_icmp .eq 7, 3) := by decide +kernel
theorem dX2_arrives_105 : decode cX2_arrives 105 = .ok (.iconst 1, 1) := by decide +kernel
theorem dX2_arrives_106 : decode cX2_arrives 106 = .ok (.goto 4, 3) := by decide +kernel
theorem dX2_arrives_109 : decode cX2_arrives 109 = .ok (.iconst 0, 1) := by decide +kernel
theorem dX2_arrives_110 : decode cX2_arrives 110 = .ok (.ireturn, 1) := by decide +kernel
theorem dX2_land_0 : decode cX2_land 0 = .ok (.aload_n 0, 1) := by decide +kernel
theorem dX2_land_1 : decode cX2_land 1 = .ok (.getfield 12, 3) := by decide +kernel
theorem dX2_land_4 : decode cX2_land 4 = .ok (.getfield 98, 3) := by decide +kernel
theorem dX2_land_7 : decode cX2_land 7 = .ok (.astore_n 3, 1) := by decide +kernel
theorem dX2_land_8 : decode cX2_land 8 = .ok (.aload_n 0, 1) := by decide +kernel
theorem dX2_land_9 : decode cX2_land 9 = .ok (.getfield 12, 3) := by decide +kernel
theorem dX2_land_12 : decode cX2_land 12 = .ok (.getfield 92, 3) := by decide +kernel
theorem dX2_land_15 : decode cX2_land 15 = .ok (.aload_n 1, 1) := by decide +kernel
theorem dX2_land_16 : decode cX2_land 16 = .ok (.invokevirtual 31, 3) := by decide +kernel
theorem dX2_land_19 : decode cX2_land 19 = .ok (.isub, 1) := by decide +kernel
theorem dX2_land_20 : decode cX2_land 20 = .ok (.i2l, 1) := by decide +kernel
theorem dX2_land_21 : decode cX2_land 21 = .ok (.lstore 4, 2) := by decide +kernel
theorem dX2_land_23 : decode cX2_land 23 = .ok (.aload_n 0, 1) := by decide +kernel
theorem dX2_land_24 : decode cX2_land 24 = .ok (.getfield 12, 3) := by decide +kernel
theorem dX2_land_27 : decode cX2_land 27 = .ok (.getfield 95, 3) := by decide +kernel
theorem dX2_land_30 : decode cX2_land 30 = .ok (.aload_n 1, 1) := by decide +kernel
theorem dX2_land_31 : decode cX2_land 31 = .ok (.invokevirtual 37, 3) := by decide +kernel
theorem dX2_land_34 : decode cX2_land 34 = .ok (.isub, 1) := by decide +kernel
theorem dX2_land_35 : decode cX2_land 35 = .ok (.i2l, 1) := by decide +kernel
theorem dX2_land_36 : decode cX2_land 36 = .ok (.lstore 6, 2) := by decide +kernel
theorem dX2_land_38 : decode cX2_land 38 = .ok (.iconst 0, 1) := by decide +kernel
theorem dX2_land_39 : decode cX2_land 39 = .ok (.istore 8, 2) := by decide +kernel
theorem dX2_land_41 : decode cX2_land 41 = .ok (.aload_n 3, 1) := by decide +kernel
theorem dX2_land_42 : decode cX2_land 42 = .ok (.getfield 85, 3) := by decide +kernel
theorem dX2_land_45 : decode cX2_land 45 = .ok (.lload 6, 2) := by decide +kernel
theorem dX2_land_47 : decode cX2_land 47 = .ok (.lmul, 1) := by decide +kernel
theorem dX2_land_48 : decode cX2_land 48 = .ok (.aload_n 3, 1) := by decide +kernel
theorem dX2_land_49 : decode cX2_land 49 = .ok (.getfield 81, 3) := by decide +kernel
theorem dX2_land_52 : decode cX2_land 52 = .ok (.lload 4, 2) := by decide +kernel
theorem dX2_land_54 : decode cX2_land 54 = .ok (.lmul, 1) := by decide +kernel
theorem dX2_land_55 : decode cX2_land 55 = .ok (.lsub, 1) := by decide +kernel
theorem dX2_land_56 : decode cX2_land 56 = .ok (.aload_n 1, 1) := by decide +kernel
theorem dX2_land_57 : decode cX2_land 57 = .ok (.getfield 78, 3) := by decide +kernel
theorem dX2_land_60 : decode cX2_land 60 = .ok (.i2l, 1) := by decide +kernel
theorem dX2_land_61 : decode cX2_land 61 = .ok (.lmul, 1) := by decide +kernel
theorem dX2_land_62 : decode cX2_land 62 = .ok (.lconst 0, 1) := by decide +kernel
theorem dX2_land_63 : decode cX2_land 63 = .ok (.lcmp, 1) := by decide +kernel
theorem dX2_land_64 : decode cX2_land 64 = .ok (.ifCond .ge 18, 3) := by decide +kernel
theorem dX2_land_67 : decode cX2_land 67 = .ok (.aload_n 1, 1) := by decide +kernel
theorem dX2_land_68 : decode cX2_land 68 = .ok (.aload_n 1, 1) := by decide +kernel
theorem dX2_land_69 : decode cX2_land 69 = .ok (.getfield 78, 3) := by decide +kernel
theorem dX2_land_72 : decode cX2_land 72 = .ok (.ineg, 1) := by decide +kernel
theorem dX2_land_73 : decode cX2_land 73 = .ok (.putfield 78, 3) := by decide +kernel
theorem dX2_land_76 : decode cX2_land 76 = .ok (.iconst 2, 1) := by decide +kernel
theorem dX2_land_77 : decode cX2_land 77 = .ok (.istore 8, 2) := by decide +kernel
theorem dX2_land_79 : decode cX2_land 79 = .ok (.goto 23, 3) := by decide +kernel
theorem dX2_land_82 : decode cX2_land 82 = .ok (.aload_n 0, 1) := by decide +kernel
theorem dX2_land_83 : decode cX2_land 83 = .ok (.getfield 21, 3) := by decide +kernel
theorem dX2_land_86 : decode cX2_land 86 = .ok (.getfield 81, 3) := by decide +kernel
theorem dX2_land_89 : decode cX2_land 89 = .ok (.aload_n 3, 1) := by decide +kernel
theorem dX2_land_90 : decode cX2_land 90 = .ok (.getfield 81, 3) := by decide +kernel
theorem dX2_land_93 : decode cX2_land 93 = .ok (.lmul, 1) := by decide +kernel
theorem dX2_land_94 : decode cX2_land 94 = .ok (.lconst 0, 1) := by decide +kernel
theorem dX2_land_95 : decode cX2_land 95 = .ok (.lcmp, 1) := by decide +kernel
theorem dX2_land_96 : decode cX2_land 96 = .ok (.ifCond .ge 6, 3) := by decide +kernel
theorem dX2_land_99 : decode cX2_land 99 = .ok (.iconst 1, 1) := by decide +kernel
theorem dX2_land_100 : decode cX2_land 100 = .ok (.istore 8, 2) := by decide +kernel
theorem dX2_land_102 : decode cX2_land 102 = .ok (.aload_n 1, 1) := by decide +kernel
theorem dX2_land_103 : decode cX2_land 103 = .ok (.aload_n 0, 1) := by decide +kernel
theorem dX2_land_104 : decode cX2_land 104 = .ok (.getfield 12, 3) := by decide +kernel
theorem dX2_land_107 : decode cX2_land 107 = .ok (.iload 8, 2) := by decide +kernel
theorem dX2_land_109 : decode cX2_land 109 = .ok (.invokevirtual 101, 3) := by decide +kernel
theorem dX2_land_112 : decode cX2_land 112 = .ok (.aload_n 0, 1) := by decide +kernel
theorem dX2_land_113 : decode cX2_land 113 = .ok (.getfield 12, 3) := by decide +kernel
theorem dX2_land_116 : decode cX2_land 116 = .ok (.getfield 105, 3) := by decide +kernel
theorem dX2_land_119 : decode cX2_land 119 = .ok (.iconst 2, 1) := by decide +kernel
theorem dX2_land_120 : decode cX2_land 120 = .ok (.if_icmp .gt 20, 3) := by decide +kernel
theorem dX2_land_123 : decode cX2_land 123 = .ok (.aload_n 1, 1) := by decide +kernel
theorem dX2_land_124 : decode cX2_land 124 = .ok (.aload_n 1, 1) := by decide +kernel
theorem dX2_land_125 : decode cX2_land 125 = .ok (.getfield 52, 3) := by decide +kernel
theorem dX2_land_128 : decode cX2_land 128 = .ok (.iconst 2, 1) := by decide +kernel
theorem dX2_land_129 : decode cX2_land 129 = .ok (.imul, 1) := by decide +kernel
theorem dX2_land_130 : decode cX2_land 130 = .ok (.iload_n 2, 1) := by decide +kernel
theorem dX2_land_131 : decode cX2_land 131 = .ok (.invokestatic 108, 3) := by decide +kernel
theorem dX2_land_134 : decode cX2_land 134 = .ok (.putfield 52, 3) := by decide +kernel
theorem dX2_land_137 : decode cX2_land 137 = .ok (.goto 28, 3) := by decide +kernel
theorem dX2_land_140 : decode cX2_land 140 = .ok (.aload_n 0, 1) := by decide +kernel
theorem dX2_land_141 : decode cX2_land 141 = .ok (.getfield 12, 3) := by decide +kernel
theorem dX2_land_144 : decode cX2_land 144 = .ok (.getfield 105, 3) := by decide +kernel
theorem dX2_land_147 : decode cX2_land 147 = .ok (.iconst 5, 1) := by decide +kernel
theorem dX2_land_148 : decode cX2_land 148 = .ok (.if_icmp .lt 17, 3) := by decide +kernel
theorem dX2_land_151 : decode cX2_land 151 = .ok (.aload_n 1, 1) := by decide +kernel
theorem dX2_land_152 : decode cX2_land 152 = .ok (.aload_n 1, 1) := by decide +kernel
theorem dX2_land_153 : decode cX2_land 153 = .ok (.getfield 52, 3) := by decide +kernel
theorem dX2_land_156 : decode cX2_land 156 = .ok (.iconst 2, 1) := by decide +kernel
theorem dX2_land_157 : decode cX2_land 157 = .ok (.idiv, 1) := by decide +kernel
theorem dX2_land_158 : decode cX2_land 158 = .ok (.iconst 1, 1) := by decide +kernel
theorem dX2_land_159 : decode cX2_land 159 = .ok (.invokestatic 114, 3) := by decide +kernel
theorem dX2_land_162 : decode cX2_land 162 = .ok (.putfield 52, 3) := by decide +kernel
theorem dX2_land_165 : decode cX2_land 165 = .ok (.return_, 1) := by decide +kernel
theorem dX2_leavesCrossing_0 : decode cX2_leavesCrossing 0 = .ok (.aload_n 2, 1) := by decide +kernel
theorem dX2_leavesCrossing_1 : decode cX2_leavesCrossing 1 = .ok (.iload_n 3, 1) := by decide +kernel
theorem dX2_leavesCrossing_2 : decode cX2_leavesCrossing 2 = .ok (.invokevirtual 117, 3) := by decide +kernel
theorem dX2_leavesCrossing_5 : decode cX2_leavesCrossing 5 = .ok (.i2l, 1) := by decide +kernel
theorem dX2_leavesCrossing_6 : decode cX2_leavesCrossing 6 = .ok (.lstore 5, 2) := by decide +kernel
theorem dX2_leavesCrossing_8 : decode cX2_leavesCrossing 8 = .ok (.aload_n 2, 1) := by decide +kernel
theorem dX2_leavesCrossing_9 : decode cX2_leavesCrossing 9 = .ok (.iload_n 3, 1) := by decide +kernel
theorem dX2_leavesCrossing_10 : decode cX2_leavesCrossing 10 = .ok (.invokevirtual 120, 3) := by decide +kernel
theorem dX2_leavesCrossing_13 : decode cX2_leavesCrossing 13 = .ok (.i2l, 1) := by decide +kernel
theorem dX2_leavesCrossing_14 : decode cX2_leavesCrossing 14 = .ok (.lstore 7, 2) := by decide +kernel
theorem dX2_leavesCrossing_16 : decode cX2_leavesCrossing 16 = .ok (.lload 5, 2) := by decide +kernel
theorem dX2_leavesCrossing_18 : decode cX2_leavesCrossing 18 = .ok (.lload 5, 2) := by decide +kernel
theorem dX2_leavesCrossing_20 : decode cX2_leavesCrossing 20 = .ok (.lmul, 1) := by decide +kernel
theorem dX2_leavesCrossing_21 : decode cX2_leavesCrossing 21 = .ok (.lload 7, 2) := by decide +kernel
theorem dX2_leavesCrossing_23 : decode cX2_leavesCrossing 23 = .ok (.lload 7, 2) := by decide +kernel
theorem dX2_leavesCrossing_25 : decode cX2_leavesCrossing 25 = .ok (.lmul, 1) := by decide +kernel
theorem dX2_leavesCrossing_26 : decode cX2_leavesCrossing 26 = .ok (.ladd, 1) := by decide +kernel
theorem dX2_leavesCrossing_27 : decode cX2_leavesCrossing 27 = .ok (.invokestatic 48, 3) := by decide +kernel
theorem dX2_leavesCrossing_30 : decode cX2_leavesCrossing 30 = .ok (.lstore 9, 2) := by decide +kernel
theorem dX2_leavesCrossing_32 : decode cX2_leavesCrossing 32 = .ok (.lload 9, 2) := by decide +kernel
theorem dX2_leavesCrossing_34 : decode cX2_leavesCrossing 34 = .ok (.lconst 0, 1) := by decide +kernel
theorem dX2_leavesCrossing_35 : decode cX2_leavesCrossing 35 = .ok (.lcmp, 1) := by decide +kernel
theorem dX2_leavesCrossing_36 : decode cX2_leavesCrossing 36 = .ok (.ifCond .eq 11, 3) := by decide +kernel
theorem dX2_leavesCrossing_39 : decode cX2_leavesCrossing 39 = .ok (.aload_n 2, 1) := by decide +kernel
theorem dX2_leavesCrossing_40 : decode cX2_leavesCrossing 40 = .ok (.iload_n 3, 1) := by decide +kernel
theorem dX2_leavesCrossing_41 : decode cX2_leavesCrossing 41 = .ok (.invokevirtual 123, 3) := by decide +kernel
theorem dX2_leavesCrossing_44 : decode cX2_leavesCrossing 44 = .ok (.ifCond .ne 5, 3) := by decide +kernel
theorem dX2_leavesCrossing_47 : decode cX2_leavesCrossing 47 = .ok (.iconst 0, 1) := by decide +kernel
theorem dX2_leavesCrossing_48 : decode cX2_leavesCrossing 48 = .ok (.ireturn, 1) := by decide +kernel
theorem dX2_leavesCrossing_49 : decode cX2_leavesCrossing 49 = .ok (.aload_n 1, 1) := by decide +kernel
theorem dX2_leavesCrossing_50 : decode cX2_leavesCrossing 50 = .ok (.getfield 60, 3) := by decide +kernel
theorem dX2_leavesCrossing_53 : decode cX2_leavesCrossing 53 = .ok (.iconst 0, 1) := by decide +kernel
theorem dX2_leavesCrossing_54 : decode cX2_leavesCrossing 54 = .ok (.invokevirtual 66, 3) := by decide +kernel
theorem dX2_leavesCrossing_57 : decode cX2_leavesCrossing 57 = .ok (.i2l, 1) := by decide +kernel
theorem dX2_leavesCrossing_58 : decode cX2_leavesCrossing 58 = .ok (.iload 4, 2) := by decide +kernel
theorem dX2_leavesCrossing_60 : decode cX2_leavesCrossing 60 = .ok (.i2l, 1) := by decide +kernel
theorem dX2_leavesCrossing_61 : decode cX2_leavesCrossing 61 = .ok (.lmul, 1) := by decide +kernel
theorem dX2_leavesCrossing_62 : decode cX2_leavesCrossing 62 = .ok (.lstore 11, 2) := by decide +kernel
theorem dX2_leavesCrossing_64 : decode cX2_leavesCrossing 64 = .ok (.aload_n 2, 1) := by decide +kernel
theorem dX2_leavesCrossing_65 : decode cX2_leavesCrossing 65 = .ok (.getfield 127, 3) := by decide +kernel
theorem dX2_leavesCrossing_68 : decode cX2_leavesCrossing 68 = .ok (.iload_n 3, 1) := by decide +kernel
theorem dX2_leavesCrossing_69 : decode cX2_leavesCrossing 69 = .ok (.iaload, 1) := by decide +kernel
theorem dX2_leavesCrossing_70 : decode cX2_leavesCrossing 70 = .ok (.i2l, 1) := by decide +kernel
theorem dX2_leavesCrossing_71 : decode cX2_leavesCrossing 71 = .ok (.lload 11, 2) := by decide +kernel
theorem dX2_leavesCrossing_73 : decode cX2_leavesCrossing 73 = .ok (.lload 7, 2) := by decide +kernel
theorem dX2_leavesCrossing_75 : decode cX2_leavesCrossing 75 = .ok (.lneg, 1) := by decide +kernel
theorem dX2_leavesCrossing_76 : decode cX2_leavesCrossing 76 = .ok (.lmul, 1) := by decide +kernel
theorem dX2_leavesCrossing_77 : decode cX2_leavesCrossing 77 = .ok (.lload 9, 2) := by decide +kernel
theorem dX2_leavesCrossing_79 : decode cX2_leavesCrossing 79 = .ok (.ldiv, 1) := by decide +kernel
theorem dX2_leavesCrossing_80 : decode cX2_leavesCrossing 80 = .ok (.ladd, 1) := by decide +kernel
theorem dX2_leavesCrossing_81 : decode cX2_leavesCrossing 81 = .ok (.lstore 13, 2) := by decide +kernel
theorem dX2_leavesCrossing_83 : decode cX2_leavesCrossing 83 = .ok (.aload_n 2, 1) := by decide +kernel
theorem dX2_leavesCrossing_84 : decode cX2_leavesCrossing 84 = .ok (.getfield 131, 3) := by decide +kernel
theorem dX2_leavesCrossing_87 : decode cX2_leavesCrossing 87 = .ok (.iload_n 3, 1) := by decide +kernel
theorem dX2_leavesCrossing_88 : decode cX2_leavesCrossing 88 = .ok (.iaload, 1) := by decide +kernel
theorem dX2_leavesCrossing_89 : decode cX2_leavesCrossing 89 = .ok (.i2l, 1) := by decide +kernel
theorem dX2_leavesCrossing_90 : decode cX2_leavesCrossing 90 = .ok (.lload 11, 2) := by decide +kernel
theorem dX2_leavesCrossing_92 : decode cX2_leavesCrossing 92 = .ok (.lload 5, 2) := by decide +kernel
theorem dX2_leavesCrossing_94 : decode cX2_leavesCrossing 94 = .ok (.lmul, 1) := by decide +kernel
theorem dX2_leavesCrossing_95 : decode cX2_leavesCrossing 95 = .ok (.lload 9, 2) := by decide +kernel
theorem dX2_leavesCrossing_97 : decode cX2_leavesCrossing 97 = .ok (.ldiv, 1) := by decide +kernel
theorem dX2_leavesCrossing_98 : decode cX2_leavesCrossing 98 = .ok (.ladd, 1) := by decide +kernel
theorem dX2_leavesCrossing_99 : decode cX2_leavesCrossing 99 = .ok (.lstore 15, 2) := by decide +kernel
theorem dX2_leavesCrossing_101 : decode cX2_leavesCrossing 101 = .ok (.aload_n 0, 1) := by decide +kernel
theorem dX2_leavesCrossing_102 : decode cX2_leavesCrossing 102 = .ok (.getfield 12, 3) := by decide +kernel
theorem dX2_leavesCrossing_105 : decode cX2_leavesCrossing 105 = .ok (.aload_n 1, 1) := by decide +kernel
theorem dX2_leavesCrossing_106 : decode cX2_leavesCrossing 106 = .ok (.lload 13, 2) := by decide +kernel
theorem dX2_leavesCrossing_108 : decode cX2_leavesCrossing 108 = .ok (.lload 15, 2) := by decide +kernel
theorem dX2_leavesCrossing_110 : decode cX2_leavesCrossing 110 = .ok (.invokevirtual 88, 3) := by decide +kernel
theorem dX2_leavesCrossing_113 : decode cX2_leavesCrossing 113 = .ok (.ireturn, 1) := by decide +kernel
theorem dX2_signBeside_0 : decode cX2_signBeside 0 = .ok (.aload_n 1, 1) := by decide +kernel
theorem dX2_signBeside_1 : decode cX2_signBeside 1 = .ok (.iload_n 2, 1) := by decide +kernel
theorem dX2_signBeside_2 : decode cX2_signBeside 2 = .ok (.invokevirtual 117, 3) := by decide +kernel
theorem dX2_signBeside_5 : decode cX2_signBeside 5 = .ok (.i2l, 1) := by decide +kernel
theorem dX2_signBeside_6 : decode cX2_signBeside 6 = .ok (.lstore 4, 2) := by decide +kernel
theorem dX2_signBeside_8 : decode cX2_signBeside 8 = .ok (.aload_n 1, 1) := by decide +kernel
theorem dX2_signBeside_9 : decode cX2_signBeside 9 = .ok (.iload_n 2, 1) := by decide +kernel
theorem dX2_signBeside_10 : decode cX2_signBeside 10 = .ok (.invokevirtual 120, 3) := by decide +kernel
theorem dX2_signBeside_13 : decode cX2_signBeside 13 = .ok (.i2l, 1) := by decide +kernel
theorem dX2_signBeside_14 : decode cX2_signBeside 14 = .ok (.lstore 6, 2) := by decide +kernel
theorem dX2_signBeside_16 : decode cX2_signBeside 16 = .ok (.aload_n 0, 1) := by decide +kernel
theorem dX2_signBeside_17 : decode cX2_signBeside 17 = .ok (.getfield 12, 3) := by decide +kernel
theorem dX2_signBeside_20 : decode cX2_signBeside 20 = .ok (.getfield 98, 3) := by decide +kernel
theorem dX2_signBeside_23 : decode cX2_signBeside 23 = .ok (.getfield 85, 3) := by decide +kernel
theorem dX2_signBeside_26 : decode cX2_signBeside 26 = .ok (.lload 4, 2) := by decide +kernel
theorem dX2_signBeside_28 : decode cX2_signBeside 28 = .ok (.lmul, 1) := by decide +kernel
theorem dX2_signBeside_29 : decode cX2_signBeside 29 = .ok (.aload_n 0, 1) := by decide +kernel
theorem dX2_signBeside_30 : decode cX2_signBeside 30 = .ok (.getfield 12, 3) := by decide +kernel
theorem dX2_signBeside_33 : decode cX2_signBeside 33 = .ok (.getfield 98, 3) := by decide +kernel
theorem dX2_signBeside_36 : decode cX2_signBeside 36 = .ok (.getfield 81, 3) := by decide +kernel
theorem dX2_signBeside_39 : decode cX2_signBeside 39 = .ok (.lload 6, 2) := by decide +kernel
theorem dX2_signBeside_41 : decode cX2_signBeside 41 = .ok (.lmul, 1) := by decide +kernel
theorem dX2_signBeside_42 : decode cX2_signBeside 42 = .ok (.ladd, 1) := by decide +kernel
theorem dX2_signBeside_43 : decode cX2_signBeside 43 = .ok (.iload_n 3, 1) := by decide +kernel
theorem dX2_signBeside_44 : decode cX2_signBeside 44 = .ok (.i2l, 1) := by decide +kernel
theorem dX2_signBeside_45 : decode cX2_signBeside 45 = .ok (.lmul, 1) := by decide +kernel
theorem dX2_signBeside_46 : decode cX2_signBeside 46 = .ok (.lconst 0, 1) := by decide +kernel
theorem dX2_signBeside_47 : decode cX2_signBeside 47 = .ok (.lcmp, 1) := by decide +kernel
theorem dX2_signBeside_48 : decode cX2_signBeside 48 = .ok (.ifCond .lt 7, 3) := by decide +kernel
theorem dX2_signBeside_51 : decode cX2_signBeside 51 = .ok (.iconst 1, 1) := by decide +kernel
theorem dX2_signBeside_52 : decode cX2_signBeside 52 = .ok (.goto 4, 3) := by decide +kernel
theorem dX2_signBeside_55 : decode cX2_signBeside 55 = .ok (.iconst (-1), 1) := by decide +kernel
theorem dX2_signBeside_56 : decode cX2_signBeside 56 = .ok (.ireturn, 1) := by decide +kernel
theorem dX3_init_0 : decode cX3_init 0 = .ok (.aload_n 0, 1) := by decide +kernel
theorem dX3_init_1 : decode cX3_init 1 = .ok (.invokespecial 3, 3) := by decide +kernel
theorem dX3_init_4 : decode cX3_init 4 = .ok (.aload_n 0, 1) := by decide +kernel
theorem dX3_init_5 : decode cX3_init 5 = .ok (.new 9, 3) := by decide +kernel
theorem dX3_init_8 : decode cX3_init 8 = .ok (.dup, 1) := by decide +kernel
theorem dX3_init_9 : decode cX3_init 9 = .ok (.invokespecial 11, 3) := by decide +kernel
theorem dX3_init_12 : decode cX3_init 12 = .ok (.putfield 12, 3) := by decide +kernel
theorem dX3_init_15 : decode cX3_init 15 = .ok (.return_, 1) := by decide +kernel
theorem dX3_scan_0 : decode cX3_scan 0 = .ok (.aload_n 0, 1) := by decide +kernel
theorem dX3_scan_1 : decode cX3_scan 1 = .ok (.getfield 12, 3) := by decide +kernel
theorem dX3_scan_4 : decode cX3_scan 4 = .ok (.invokevirtual 18, 3) := by decide +kernel
theorem dX3_scan_7 : decode cX3_scan 7 = .ok (.aload_n 0, 1) := by decide +kernel
theorem dX3_scan_8 : decode cX3_scan 8 = .ok (.iconst 0, 1) := by decide +kernel
theorem dX3_scan_9 : decode cX3_scan 9 = .ok (.putfield 21, 3) := by decide +kernel
theorem dX3_scan_12 : decode cX3_scan 12 = .ok (.aload_n 0, 1) := by decide +kernel
theorem dX3_scan_13 : decode cX3_scan 13 = .ok (.iconst 0, 1) := by decide +kernel
theorem dX3_scan_14 : decode cX3_scan 14 = .ok (.putfield 25, 3) := by decide +kernel
theorem dX3_scan_17 : decode cX3_scan 17 = .ok (.aload_n 0, 1) := by decide +kernel
theorem dX3_scan_18 : decode cX3_scan 18 = .ok (.iconst 1, 1) := by decide +kernel
theorem dX3_scan_19 : decode cX3_scan 19 = .ok (.invokevirtual 28, 3) := by decide +kernel
theorem dX3_scan_22 : decode cX3_scan 22 = .ok (.iconst 0, 1) := by decide +kernel
theorem dX3_scan_23 : decode cX3_scan 23 = .ok (.istore_n 2, 1) := by decide +kernel
theorem dX3_scan_24 : decode cX3_scan 24 = .ok (.iload_n 2, 1) := by decide +kernel
theorem dX3_scan_25 : decode cX3_scan 25 = .ok (.aload_n 1, 1) := by decide +kernel
theorem dX3_scan_26 : decode cX3_scan 26 = .ok (.getfield 32, 3) := by decide +kernel
theorem dX3_scan_29 : decode cX3_scan 29 = .ok (.if_icmp .ge 36, 3) := by decide +kernel
theorem dX3_scan_32 : decode cX3_scan 32 = .ok (.aload_n 0, 1) := by decide +kernel
theorem dX3_scan_33 : decode cX3_scan 33 = .ok (.iload_n 2, 1) := by decide +kernel
theorem dX3_scan_34 : decode cX3_scan 34 = .ok (.putfield 37, 3) := by decide +kernel
theorem dX3_scan_37 : decode cX3_scan 37 = .ok (.aload_n 0, 1) := by decide +kernel
theorem dX3_scan_38 : decode cX3_scan 38 = .ok (.aload_n 0, 1) := by decide +kernel
theorem dX3_scan_39 : decode cX3_scan 39 = .ok (.aload_n 1, 1) := by decide +kernel
theorem dX3_scan_40 : decode cX3_scan 40 = .ok (.getfield 40, 3) := by decide +kernel
theorem dX3_scan_43 : decode cX3_scan 43 = .ok (.iload_n 2, 1) := by decide +kernel
theorem dX3_scan_44 : decode cX3_scan 44 = .ok (.iaload, 1) := by decide +kernel
theorem dX3_scan_45 : decode cX3_scan 45 = .ok (.invokevirtual 44, 3) := by decide +kernel
theorem dX3_scan_48 : decode cX3_scan 48 = .ok (.putfield 25, 3) := by decide +kernel
theorem dX3_scan_51 : decode cX3_scan 51 = .ok (.aload_n 0, 1) := by decide +kernel
theorem dX3_scan_52 : decode cX3_scan 52 = .ok (.getfield 25, 3) := by decide +kernel
theorem dX3_scan_55 : decode cX3_scan 55 = .ok (.ifCond .eq 4, 3) := by decide +kernel
theorem dX3_scan_58 : decode cX3_scan 58 = .ok (.return_, 1) := by decide +kernel
theorem dX3_scan_59 : decode cX3_scan 59 = .ok (.iinc 2 1, 3) := by decide +kernel
theorem dX3_scan_62 : decode cX3_scan 62 = .ok (.goto (-38), 3) := by decide +kernel
theorem dX3_scan_65 : decode cX3_scan 65 = .ok (.aload_n 0, 1) := by decide +kernel
theorem dX3_scan_66 : decode cX3_scan 66 = .ok (.getfield 21, 3) := by decide +kernel
theorem dX3_scan_69 : decode cX3_scan 69 = .ok (.iconst 2, 1) := by decide +kernel
theorem dX3_scan_70 : decode cX3_scan 70 = .ok (.if_icmp .ne 10, 3) := by decide +kernel
theorem dX3_scan_73 : decode cX3_scan 73 = .ok (.aload_n 0, 1) := by decide +kernel
theorem dX3_scan_74 : decode cX3_scan 74 = .ok (.invokevirtual 48, 3) := by decide +kernel
theorem dX3_scan_77 : decode cX3_scan 77 = .ok (.goto 16, 3) := by decide +kernel
theorem dX3_scan_80 : decode cX3_scan 80 = .ok (.aload_n 0, 1) := by decide +kernel
theorem dX3_scan_81 : decode cX3_scan 81 = .ok (.aload_n 1, 1) := by decide +kernel
theorem dX3_scan_82 : decode cX3_scan 82 = .ok (.getfield 32, 3) := by decide +kernel
theorem dX3_scan_85 : decode cX3_scan 85 = .ok (.putfield 37, 3) := by decide +kernel
theorem dX3_scan_88 : decode cX3_scan 88 = .ok (.aload_n 0, 1) := by decide +kernel
theorem dX3_scan_89 : decode cX3_scan 89 = .ok (.iconst 1, 1) := by decide +kernel
theorem dX3_scan_90 : decode cX3_scan 90 = .ok (.putfield 25, 3) := by decide +kernel
theorem dX3_scan_93 : decode cX3_scan 93 = .ok (.return_, 1) := by decide +kernel
theorem dX3_take_0 : decode cX3_take 0 = .ok (.iload_n 1, 1) := by decide +kernel
theorem dX3_take_1 : decode cX3_take 1 = .ok (.bipush 43, 2) := by decide +kernel
theorem dX3_take_3 : decode cX3_take 3 = .ok (.if_icmp .eq 9, 3) := by decide +kernel
theorem dX3_take_6 : decode cX3_take 6 = .ok (.iload_n 1, 1) := by decide +kernel
theorem dX3_take_7 : decode cX3_take 7 = .ok (.bipush 45, 2) := by decide +kernel
theorem dX3_take_9 : decode cX3_take 9 = .ok (.if_icmp .ne 19, 3) := by decide +kernel
theorem dX3_take_12 : decode cX3_take 12 = .ok (.aload_n 0, 1) := by decide +kernel
theorem dX3_take_13 : decode cX3_take 13 = .ok (.iload_n 1, 1) := by decide +kernel
theorem dX3_take_14 : decode cX3_take 14 = .ok (.bipush 45, 2) := by decide +kernel
theorem dX3_take_16 : decode cX3_take 16 = .ok (.if_icmp .ne 7, 3) := by decide +kernel
theorem dX3_take_19 : decode cX3_take 19 = .ok (.iconst (-1), 1) := by decide +kernel
theorem dX3_take_20 : decode cX3_take 20 = .ok (.goto 4, 3) := by decide +kernel
theorem dX3_take_23 : decode cX3_take 23 = .ok (.iconst 1, 1) := by decide +kernel
theorem dX3_take_24 : decode cX3_take 24 = .ok (.invokevirtual 51, 3) := by decide +kernel
theorem dX3_take_27 : decode cX3_take 27 = .ok (.ireturn, 1) := by decide +kernel
theorem dX3_take_28 : decode cX3_take 28 = .ok (.iload_n 1, 1) := by decide +kernel
theorem dX3_take_29 : decode cX3_take 29 = .ok (.bipush 49, 2) := by decide +kernel
theorem dX3_take_31 : decode cX3_take 31 = .ok (.if_icmp .lt 18, 3) := by decide +kernel
theorem dX3_take_34 : decode cX3_take 34 = .ok (.iload_n 1, 1) := by decide +kernel
theorem dX3_take_35 : decode cX3_take 35 = .ok (.bipush 53, 2) := by decide +kernel
theorem dX3_take_37 : decode cX3_take 37 = .ok (.if_icmp .gt 12, 3) := by decide +kernel
theorem dX3_take_40 : decode cX3_take 40 = .ok (.aload_n 0, 1) := by decide +kernel
theorem dX3_take_41 : decode cX3_take 41 = .ok (.iload_n 1, 1) := by decide +kernel
theorem dX3_take_42 : decode cX3_take 42 = .ok (.bipush 48, 2) := by decide +kernel
theorem dX3_take_44 : decode cX3_take 44 = .ok (.isub, 1) := by decide +kernel
theorem dX3_take_45 : decode cX3_take 45 = .ok (.invokevirtual 54, 3) := by decide +kernel
theorem dX3_take_48 : decode cX3_take 48 = .ok (.ireturn, 1) := by decide +kernel
theorem dX3_take_49 : decode cX3_take 49 = .ok (.iload_n 1, 1) := by decide +kernel
theorem dX3_take_50 : decode cX3_take 50 = .ok (.bipush 120, 2) := by decide +kernel
theorem dX3_take_52 : decode cX3_take 52 = .ok (.if_icmp .eq 9, 3) := by decide +kernel
theorem dX3_take_55 : decode cX3_take 55 = .ok (.iload_n 1, 1) := by decide +kernel
theorem dX3_take_56 : decode cX3_take 56 = .ok (.bipush 121, 2) := by decide +kernel
theorem dX3_take_58 : decode cX3_take 58 = .ok (.if_icmp .ne 19, 3) := by decide +kernel
theorem dX3_take_61 : decode cX3_take 61 = .ok (.aload_n 0, 1) := by decide +kernel
theorem dX3_take_62 : decode cX3_take 62 = .ok (.iload_n 1, 1) := by decide +kernel
theorem dX3_take_63 : decode cX3_take 63 = .ok (.bipush 120, 2) := by decide +kernel
theorem dX3_take_65 : decode cX3_take 65 = .ok (.if_icmp .ne 7, 3) := by decide +kernel
theorem dX3_take_68 : decode cX3_take 68 = .ok (.iconst 1, 1) := by decide +kernel
theorem dX3_take_69 : decode cX3_take 69 = .ok (.goto 4, 3) := by decide +kernel
theorem dX3_take_72 : decode cX3_take 72 = .ok (.iconst 0, 1) := by decide +kernel
theorem dX3_take_73 : decode cX3_take 73 = .ok (.invokevirtual 57, 3) := by decide +kernel
theorem dX3_take_76 : decode cX3_take 76 = .ok (.ireturn, 1) := by decide +kernel
theorem dX3_take_77 : decode cX3_take 77 = .ok (.iconst 1, 1) := by decide +kernel
theorem dX3_take_78 : decode cX3_take 78 = .ok (.ireturn, 1) := by decide +kernel
theorem dX3_takeSign_0 : decode cX3_takeSign 0 = .ok (.aload_n 0, 1) := by decide +kernel
theorem dX3_takeSign_1 : decode cX3_takeSign 1 = .ok (.getfield 21, 3) := by decide +kernel
theorem dX3_takeSign_4 : decode cX3_takeSign 4 = .ok (.iconst 1, 1) := by decide +kernel
theorem dX3_takeSign_5 : decode cX3_takeSign 5 = .ok (.if_icmp .eq 15, 3) := by decide +kernel
theorem dX3_takeSign_8 : decode cX3_takeSign 8 = .ok (.aload_n 0, 1) := by decide +kernel
theorem dX3_takeSign_9 : decode cX3_takeSign 9 = .ok (.getfield 21, 3) := by decide +kernel
theorem dX3_takeSign_12 : decode cX3_takeSign 12 = .ok (.ifCond .ne 10, 3) := by decide +kernel
theorem dX3_takeSign_15 : decode cX3_takeSign 15 = .ok (.iload_n 1, 1) := by decide +kernel
theorem dX3_takeSign_16 : decode cX3_takeSign 16 = .ok (.iconst 1, 1) := by decide +kernel
theorem dX3_takeSign_17 : decode cX3_takeSign 17 = .ok (.if_icmp .ne 5, 3) := by decide +kernel
theorem dX3_takeSign_20 : decode cX3_takeSign 20 = .ok (.iconst 1, 1) := by decide +kernel
theorem dX3_takeSign_21 : decode cX3_takeSign 21 = .ok (.ireturn, 1) := by decide +kernel
theorem dX3_takeSign_22 : decode cX3_takeSign 22 = .ok (.aload_n 0, 1) := by decide +kernel
theorem dX3_takeSign_23 : decode cX3_takeSign 23 = .ok (.getfield 21, 3) := by decide +kernel
theorem dX3_takeSign_26 : decode cX3_takeSign 26 = .ok (.iconst 2, 1) := by decide +kernel
theorem dX3_takeSign_27 : decode cX3_takeSign 27 = .ok (.if_icmp .ne 19, 3) := by decide +kernel
theorem dX3_takeSign_30 : decode cX3_takeSign 30 = .ok (.aload_n 0, 1) := by decide +kernel
theorem dX3_takeSign_31 : decode cX3_takeSign 31 = .ok (.invokevirtual 48, 3) := by decide +kernel
theorem dX3_takeSign_34 : decode cX3_takeSign 34 = .ok (.aload_n 0, 1) := by decide +kernel
theorem dX3_takeSign_35 : decode cX3_takeSign 35 = .ok (.getfield 12, 3) := by decide +kernel
theorem dX3_takeSign_38 : decode cX3_takeSign 38 = .ok (.invokevirtual 61, 3) := by decide +kernel
theorem dX3_takeSign_41 : decode cX3_takeSign 41 = .ok (.ifCond .eq 5, 3) := by decide +kernel
theorem dX3_takeSign_44 : decode cX3_takeSign 44 = .ok (.iconst 3, 1) := by decide +kernel
theorem dX3_takeSign_45 : decode cX3_takeSign 45 = .ok (.ireturn, 1) := by decide +kernel
theorem dX3_takeSign_46 : decode cX3_takeSign 46 = .ok (.aload_n 0, 1) := by decide +kernel
theorem dX3_takeSign_47 : decode cX3_takeSign 47 = .ok (.iload_n 1, 1) := by decide +kernel
theorem dX3_takeSign_48 : decode cX3_takeSign 48 = .ok (.invokevirtual 28, 3) := by decide +kernel
theorem dX3_takeSign_51 : decode cX3_takeSign 51 = .ok (.aload_n 0, 1) := by decide +kernel
theorem dX3_takeSign_52 : decode cX3_takeSign 52 = .ok (.iconst 1, 1) := by decide +kernel
theorem dX3_takeSign_53 : decode cX3_takeSign 53 = .ok (.putfield 21, 3) := by decide +kernel
theorem dX3_takeSign_56 : decode cX3_takeSign 56 = .ok (.iconst 0, 1) := by decide +kernel
theorem dX3_takeSign_57 : decode cX3_takeSign 57 = .ok (.ireturn, 1) := by decide +kernel
theorem dX3_takeDigit_0 : decode cX3_takeDigit 0 = .ok (.aload_n 0, 1) := by decide +kernel
theorem dX3_takeDigit_1 : decode cX3_takeDigit 1 = .ok (.getfield 21, 3) := by decide +kernel
theorem dX3_takeDigit_4 : decode cX3_takeDigit 4 = .ok (.iconst 2, 1) := by decide +kernel
theorem dX3_takeDigit_5 : decode cX3_takeDigit 5 = .ok (.if_icmp .ne 5, 3) := by decide +kernel
theorem dX3_takeDigit_8 : decode cX3_takeDigit 8 = .ok (.iconst 1, 1) := by decide +kernel
theorem dX3_takeDigit_9 : decode cX3_takeDigit 9 = .ok (.ireturn, 1) := by decide +kernel
theorem dX3_takeDigit_10 : decode cX3_takeDigit 10 = .ok (.aload_n 0, 1) := by decide +kernel
theorem dX3_takeDigit_11 : decode cX3_takeDigit 11 = .ok (.iload_n 1, 1) := by decide +kernel
theorem dX3_takeDigit_12 : decode cX3_takeDigit 12 = .ok (.putfield 65, 3) := by decide +kernel
theorem dX3_takeDigit_15 : decode cX3_takeDigit 15 = .ok (.aload_n 0, 1) := by decide +kernel
theorem dX3_takeDigit_16 : decode cX3_takeDigit 16 = .ok (.iconst 2, 1) := by decide +kernel
theorem dX3_takeDigit_17 : decode cX3_takeDigit 17 = .ok (.putfield 21, 3) := by decide +kernel
theorem dX3_takeDigit_20 : decode cX3_takeDigit 20 = .ok (.iconst 0, 1) := by decide +kernel
theorem dX3_takeDigit_21 : decode cX3_takeDigit 21 = .ok (.ireturn, 1) := by decide +kernel
theorem dX3_takeLetter_0 : decode cX3_takeLetter 0 = .ok (.aload_n 0, 1) := by decide +kernel
theorem dX3_takeLetter_1 : decode cX3_takeLetter 1 = .ok (.getfield 68, 3) := by decide +kernel
theorem dX3_takeLetter_4 : decode cX3_takeLetter 4 = .ok (.aload_n 0, 1) := by decide +kernel
theorem dX3_takeLetter_5 : decode cX3_takeLetter 5 = .ok (.getfield 71, 3) := by decide +kernel
theorem dX3_takeLetter_8 : decode cX3_takeLetter 8 = .ok (.iadd, 1) := by decide +kernel
theorem dX3_takeLetter_9 : decode cX3_takeLetter 9 = .ok (.iconst 3, 1) := by decide +kernel
theorem dX3_takeLetter_10 : decode cX3_takeLetter 10 = .ok (.if_icmp .lt 5, 3) := by decide +kernel
theorem dX3_takeLetter_13 : decode cX3_takeLetter 13 = .ok (.iconst 2, 1) := by decide +kernel
theorem dX3_takeLetter_14 : decode cX3_takeLetter 14 = .ok (.ireturn, 1) := by decide +kernel
theorem dX3_takeLetter_15 : decode cX3_takeLetter 15 = .ok (.iload_n 1, 1) := by decide +kernel
theorem dX3_takeLetter_16 : decode cX3_takeLetter 16 = .ok (.ifCond .eq 16, 3) := by decide +kernel
theorem dX3_takeLetter_19 : decode cX3_takeLetter 19 = .ok (.aload_n 0, 1) := by decide +kernel
theorem dX3_takeLetter_20 : decode cX3_takeLetter 20 = .ok (.dup, 1) := by decide +kernel
theorem dX3_takeLetter_21 : decode cX3_takeLetter 21 = .ok (.getfield 68, 3) := by decide +kernel
theorem dX3_takeLetter_24 : decode cX3_takeLetter 24 = .ok (.iconst 1, 1) := by decide +kernel
theorem dX3_takeLetter_25 : decode cX3_takeLetter 25 = .ok (.iadd, 1) := by decide +kernel
theorem dX3_takeLetter_26 : decode cX3_takeLetter 26 = .ok (.putfield 68, 3) := by decide +kernel
theorem dX3_takeLetter_29 : decode cX3_takeLetter 29 = .ok (.goto 13, 3) := by decide +kernel
theorem dX3_takeLetter_32 : decode cX3_takeLetter 32 = .ok (.aload_n 0, 1) := by decide +kernel
theorem dX3_takeLetter_33 : decode cX3_takeLetter 33 = .ok (.dup, 1) := by decide +kernel
theorem dX3_takeLetter_34 : decode cX3_takeLetter 34 = .ok (.getfield 71, 3) := by decide +kernel
theorem dX3_takeLetter_37 : decode cX3_takeLetter 37 = .ok (.iconst 1, 1) := by decide +kernel
theorem dX3_takeLetter_38 : decode cX3_takeLetter 38 = .ok (.iadd, 1) := by decide +kernel
theorem dX3_takeLetter_39 : decode cX3_takeLetter 39 = .ok (.putfield 71, 3) := by decide +kernel
theorem dX3_takeLetter_42 : decode cX3_takeLetter 42 = .ok (.aload_n 0, 1) := by decide +kernel
theorem dX3_takeLetter_43 : decode cX3_takeLetter 43 = .ok (.iconst 2, 1) := by decide +kernel
theorem dX3_takeLetter_44 : decode cX3_takeLetter 44 = .ok (.putfield 21, 3) := by decide +kernel
theorem dX3_takeLetter_47 : decode cX3_takeLetter 47 = .ok (.iconst 0, 1) := by decide +kernel
theorem dX3_takeLetter_48 : decode cX3_takeLetter 48 = .ok (.ireturn, 1) := by decide +kernel
theorem dX3_openTerm_0 : decode cX3_openTerm 0 = .ok (.aload_n 0, 1) := by decide +kernel
theorem dX3_openTerm_1 : decode cX3_openTerm 1 = .ok (.iload_n 1, 1) := by decide +kernel
theorem dX3_openTerm_2 : decode cX3_openTerm 2 = .ok (.putfield 74, 3) := by decide +kernel
theorem dX3_openTerm_5 : decode cX3_openTerm 5 = .ok (.aload_n 0, 1) := by decide +kernel
theorem dX3_openTerm_6 : decode cX3_openTerm 6 = .ok (.iconst 1, 1) := by decide +kernel
theorem dX3_openTerm_7 : decode cX3_openTerm 7 = .ok (.putfield 65, 3) := by decide +kernel
theorem dX3_openTerm_10 : decode cX3_openTerm 10 = .ok (.aload_n 0, 1) := by decide +kernel
theorem dX3_openTerm_11 : decode cX3_openTerm 11 = .ok (.iconst 0, 1) := by decide +kernel
theorem dX3_openTerm_12 : decode cX3_openTerm 12 = .ok (.putfield 68, 3) := by decide +kernel
theorem dX3_openTerm_15 : decode cX3_openTerm 15 = .ok (.aload_n 0, 1) := by decide +kernel
theorem dX3_openTerm_16 : decode cX3_openTerm 16 = .ok (.iconst 0, 1) := by decide +kernel
theorem dX3_openTerm_17 : decode cX3_openTerm 17 = .ok (.putfield 71, 3) := by decide +kernel
theorem dX3_openTerm_20 : decode cX3_openTerm 20 = .ok (.return_, 1) := by decide +kernel
theorem dX3_closeTerm_0 : decode cX3_closeTerm 0 = .ok (.aload_n 0, 1) := by decide +kernel
theorem dX3_closeTerm_1 : decode cX3_closeTerm 1 = .ok (.getfield 12, 3) := by decide +kernel
theorem dX3_closeTerm_4 : decode cX3_closeTerm 4 = .ok (.aload_n 0, 1) := by decide +kernel
theorem dX3_closeTerm_5 : decode cX3_closeTerm 5 = .ok (.getfield 74, 3) := by decide +kernel
theorem dX3_closeTerm_8 : decode cX3_closeTerm 8 = .ok (.aload_n 0, 1) := by decide +kernel
theorem dX3_closeTerm_9 : decode cX3_closeTerm 9 = .ok (.getfield 65, 3) := by decide +kernel
theorem dX3_closeTerm_12 : decode cX3_closeTerm 12 = .ok (.imul, 1) := by decide +kernel
theorem dX3_closeTerm_13 : decode cX3_closeTerm 13 = .ok (.aload_n 0, 1) := by decide +kernel
theorem dX3_closeTerm_14 : decode cX3_closeTerm 14 = .ok (.getfield 68, 3) := by decide +kernel
theorem dX3_closeTerm_17 : decode cX3_closeTerm 17 = .ok (.aload_n 0, 1) := by decide +kernel
theorem dX3_closeTerm_18 : decode cX3_closeTerm 18 = .ok (.getfield 71, 3) := by decide +kernel
theorem dX3_closeTerm_21 : decode cX3_closeTerm 21 = .ok (.invokevirtual 77, 3) := by decide +kernel
theorem dX3_closeTerm_24 : decode cX3_closeTerm 24 = .ok (.return_, 1) := by decide +kernel
theorem dX4_init_0 : decode cX4_init 0 = .ok (.aload_n 0, 1) := by decide +kernel
theorem dX4_init_1 : decode cX4_init 1 = .ok (.invokespecial 1, 3) := by decide +kernel
theorem dX4_init_4 : decode cX4_init 4 = .ok (.aload_n 0, 1) := by decide +kernel
theorem dX4_init_5 : decode cX4_init 5 = .ok (.iconst 3, 1) := by decide +kernel
theorem dX4_init_6 : decode cX4_init 6 = .ok (.newarray .int, 2) := by decide +kernel
theorem dX4_init_8 : decode cX4_init 8 = .ok (.dup, 1) := by decide +kernel
theorem dX4_init_9 : decode cX4_init 9 = .ok (.iconst 0, 1) := by decide +kernel
theorem dX4_init_10 : decode cX4_init 10 = .ok (.bipush 16, 2) := by decide +kernel
theorem dX4_init_12 : decode cX4_init 12 = .ok (.iastore, 1) := by decide +kernel
theorem dX4_init_13 : decode cX4_init 13 = .ok (.dup, 1) := by decide +kernel
theorem dX4_init_14 : decode cX4_init 14 = .ok (.iconst 1, 1) := by decide +kernel
theorem dX4_init_15 : decode cX4_init 15 = .ok (.bipush 64, 2) := by decide +kernel
theorem dX4_init_17 : decode cX4_init 17 = .ok (.iastore, 1) := by decide +kernel
theorem dX4_init_18 : decode cX4_init 18 = .ok (.dup, 1) := by decide +kernel
theorem dX4_init_19 : decode cX4_init 19 = .ok (.iconst 2, 1) := by decide +kernel
theorem dX4_init_20 : decode cX4_init 20 = .ok (.bipush 8, 2) := by decide +kernel
theorem dX4_init_22 : decode cX4_init 22 = .ok (.iastore, 1) := by decide +kernel
theorem dX4_init_23 : decode cX4_init 23 = .ok (.putfield 7, 3) := by decide +kernel
theorem dX4_init_26 : decode cX4_init 26 = .ok (.return_, 1) := by decide +kernel
theorem dX4_allows_0 : decode cX4_allows 0 = .ok (.iload_n 0, 1) := by decide +kernel
theorem dX4_allows_1 : decode cX4_allows 1 = .ok (.ifCond .lt 43, 3) := by decide +kernel
theorem dX4_allows_4 : decode cX4_allows 4 = .ok (.iload_n 0, 1) := by decide +kernel
theorem dX4_allows_5 : decode cX4_allows 5 = .ok (.getstatic 13, 3) := by decide +kernel
theorem dX4_allows_8 : decode cX4_allows 8 = .ok (.arraylength, 1) := by decide +kernel
theorem dX4_allows_9 : decode cX4_allows 9 = .ok (.if_icmp .ge 35, 3) := by decide +kernel
theorem dX4_allows_12 : decode cX4_allows 12 = .ok (.iload_n 0, 1) := by decide +kernel
theorem dX4_allows_13 : decode cX4_allows 13 = .ok (.getstatic 16, 3) := by decide +kernel
theorem dX4_allows_16 : decode cX4_allows 16 = .ok (.arraylength, 1) := by decide +kernel
theorem dX4_allows_17 : decode cX4_allows 17 = .ok (.if_icmp .ge 27, 3) := by decide +kernel
theorem dX4_allows_20 : decode cX4_allows 20 = .ok (.iload_n 1, 1) := by decide +kernel
theorem dX4_allows_21 : decode cX4_allows 21 = .ok (.i2l, 1) := by decide +kernel
theorem dX4_allows_22 : decode cX4_allows 22 = .ok (.getstatic 13, 3) := by decide +kernel
theorem dX4_allows_25 : decode cX4_allows 25 = .ok (.iload_n 0, 1) := by decide +kernel
theorem dX4_allows_26 : decode cX4_allows 26 = .ok (.iaload, 1) := by decide +kernel
theorem dX4_allows_27 : decode cX4_allows 27 = .ok (.i2l, 1) := by decide +kernel
theorem dX4_allows_28 : decode cX4_allows 28 = .ok (.getstatic 16, 3) := by decide +kernel
theorem dX4_allows_31 : decode cX4_allows 31 = .ok (.iload_n 0, 1) := by decide +kernel
theorem dX4_allows_32 : decode cX4_allows 32 = .ok (.iaload, 1) := by decide +kernel
theorem dX4_allows_33 : decode cX4_allows 33 = .ok (.i2l, 1) := by decide +kernel
theorem dX4_allows_34 : decode cX4_allows 34 = .ok (.invokestatic 19, 3) := by decide +kernel
theorem dX4_allows_37 : decode cX4_allows 37 = .ok (.ifCond .eq 7, 3) := by decide +kernel
theorem dX4_allows_40 : decode cX4_allows 40 = .ok (.iconst 1, 1) := by decide +kernel
theorem dX4_allows_41 : decode cX4_allows 41 = .ok (.goto 4, 3) := by decide +kernel
theorem dX4_allows_44 : decode cX4_allows 44 = .ok (.iconst 0, 1) := by decide +kernel
theorem dX4_allows_45 : decode cX4_allows 45 = .ok (.ireturn, 1) := by decide +kernel
theorem dX4_at_0 : decode cX4_at 0 = .ok (.iload_n 1, 1) := by decide +kernel
theorem dX4_at_1 : decode cX4_at 1 = .ok (.ifCond .lt 21, 3) := by decide +kernel
theorem dX4_at_4 : decode cX4_at 4 = .ok (.iload_n 1, 1) := by decide +kernel
theorem dX4_at_5 : decode cX4_at 5 = .ok (.aload_n 0, 1) := by decide +kernel
theorem dX4_at_6 : decode cX4_at 6 = .ok (.getfield 7, 3) := by decide +kernel
theorem dX4_at_9 : decode cX4_at 9 = .ok (.arraylength, 1) := by decide +kernel
theorem dX4_at_10 : decode cX4_at 10 = .ok (.if_icmp .ge 12, 3) := by decide +kernel
theorem dX4_at_13 : decode cX4_at 13 = .ok (.aload_n 0, 1) := by decide +kernel
theorem dX4_at_14 : decode cX4_at 14 = .ok (.getfield 7, 3) := by decide +kernel
theorem dX4_at_17 : decode cX4_at 17 = .ok (.iload_n 1, 1) := by decide +kernel
theorem dX4_at_18 : decode cX4_at 18 = .ok (.iaload, 1) := by decide +kernel
theorem dX4_at_19 : decode cX4_at 19 = .ok (.goto 4, 3) := by decide +kernel
theorem dX4_at_22 : decode cX4_at 22 = .ok (.iconst 0, 1) := by decide +kernel
theorem dX4_at_23 : decode cX4_at 23 = .ok (.ireturn, 1) := by decide +kernel
theorem dX4_replace_0 : decode cX4_replace 0 = .ok (.iload_n 1, 1) := by decide +kernel
theorem dX4_replace_1 : decode cX4_replace 1 = .ok (.iload_n 2, 1) := by decide +kernel
theorem dX4_replace_2 : decode cX4_replace 2 = .ok (.invokestatic 25, 3) := by decide +kernel
theorem dX4_replace_5 : decode cX4_replace 5 = .ok (.ifCond .eq 12, 3) := by decide +kernel
theorem dX4_replace_8 : decode cX4_replace 8 = .ok (.iload_n 1, 1) := by decide +kernel
theorem dX4_replace_9 : decode cX4_replace 9 = .ok (.aload_n 0, 1) := by decide +kernel
theorem dX4_replace_10 : decode cX4_replace 10 = .ok (.getfield 7, 3) := by decide +kernel
theorem dX4_replace_13 : decode cX4_replace 13 = .ok (.arraylength, 1) := by decide +kernel
theorem dX4_replace_14 : decode cX4_replace 14 = .ok (.if_icmp .lt 5, 3) := by decide +kernel
theorem dX4_replace_17 : decode cX4_replace 17 = .ok (.iconst 0, 1) := by decide +kernel
theorem dX4_replace_18 : decode cX4_replace 18 = .ok (.ireturn, 1) := by decide +kernel
theorem dX4_replace_19 : decode cX4_replace 19 = .ok (.aload_n 0, 1) := by decide +kernel
theorem dX4_replace_20 : decode cX4_replace 20 = .ok (.getfield 7, 3) := by decide +kernel
theorem dX4_replace_23 : decode cX4_replace 23 = .ok (.iload_n 1, 1) := by decide +kernel
theorem dX4_replace_24 : decode cX4_replace 24 = .ok (.iaload, 1) := by decide +kernel
theorem dX4_replace_25 : decode cX4_replace 25 = .ok (.istore_n 3, 1) := by decide +kernel
theorem dX4_replace_26 : decode cX4_replace 26 = .ok (.aload_n 0, 1) := by decide +kernel
theorem dX4_replace_27 : decode cX4_replace 27 = .ok (.getfield 7, 3) := by decide +kernel
theorem dX4_replace_30 : decode cX4_replace 30 = .ok (.iload_n 1, 1) := by decide +kernel
theorem dX4_replace_31 : decode cX4_replace 31 = .ok (.iload_n 2, 1) := by decide +kernel
theorem dX4_replace_32 : decode cX4_replace 32 = .ok (.iastore, 1) := by decide +kernel
theorem dX4_replace_33 : decode cX4_replace 33 = .ok (.iload_n 3, 1) := by decide +kernel
theorem dX4_replace_34 : decode cX4_replace 34 = .ok (.ireturn, 1) := by decide +kernel
theorem dX4_copyFrom_0 : decode cX4_copyFrom 0 = .ok (.iconst 0, 1) := by decide +kernel
theorem dX4_copyFrom_1 : decode cX4_copyFrom 1 = .ok (.istore_n 2, 1) := by decide +kernel
theorem dX4_copyFrom_2 : decode cX4_copyFrom 2 = .ok (.iload_n 2, 1) := by decide +kernel
theorem dX4_copyFrom_3 : decode cX4_copyFrom 3 = .ok (.aload_n 0, 1) := by decide +kernel
theorem dX4_copyFrom_4 : decode cX4_copyFrom 4 = .ok (.getfield 7, 3) := by decide +kernel
theorem dX4_copyFrom_7 : decode cX4_copyFrom 7 = .ok (.arraylength, 1) := by decide +kernel
theorem dX4_copyFrom_8 : decode cX4_copyFrom 8 = .ok (.if_icmp .ge 30, 3) := by decide +kernel
theorem dX4_copyFrom_11 : decode cX4_copyFrom 11 = .ok (.iload_n 2, 1) := by decide +kernel
theorem dX4_copyFrom_12 : decode cX4_copyFrom 12 = .ok (.aload_n 1, 1) := by decide +kernel
theorem dX4_copyFrom_13 : decode cX4_copyFrom 13 = .ok (.getfield 7, 3) := by decide +kernel
theorem dX4_copyFrom_16 : decode cX4_copyFrom 16 = .ok (.arraylength, 1) := by decide +kernel
theorem dX4_copyFrom_17 : decode cX4_copyFrom 17 = .ok (.if_icmp .ge 21, 3) := by decide +kernel
theorem dX4_copyFrom_20 : decode cX4_copyFrom 20 = .ok (.aload_n 0, 1) := by decide +kernel
theorem dX4_copyFrom_21 : decode cX4_copyFrom 21 = .ok (.getfield 7, 3) := by decide +kernel
theorem dX4_copyFrom_24 : decode cX4_copyFrom 24 = .ok (.iload_n 2, 1) := by decide +kernel
theorem dX4_copyFrom_25 : decode cX4_copyFrom 25 = .ok (.aload_n 1, 1) := by decide +kernel
theorem dX4_copyFrom_26 : decode cX4_copyFrom 26 = .ok (.getfield 7, 3) := by decide +kernel
theorem dX4_copyFrom_29 : decode cX4_copyFrom 29 = .ok (.iload_n 2, 1) := by decide +kernel
theorem dX4_copyFrom_30 : decode cX4_copyFrom 30 = .ok (.iaload, 1) := by decide +kernel
theorem dX4_copyFrom_31 : decode cX4_copyFrom 31 = .ok (.iastore, 1) := by decide +kernel
theorem dX4_copyFrom_32 : decode cX4_copyFrom 32 = .ok (.iinc 2 1, 3) := by decide +kernel
theorem dX4_copyFrom_35 : decode cX4_copyFrom 35 = .ok (.goto (-33), 3) := by decide +kernel
theorem dX4_copyFrom_38 : decode cX4_copyFrom 38 = .ok (.return_, 1) := by decide +kernel
theorem dX5_init_0 : decode cX5_init 0 = .ok (.aload_n 0, 1) := by decide +kernel
theorem dX5_init_1 : decode cX5_init 1 = .ok (.invokespecial 1, 3) := by decide +kernel
theorem dX5_init_4 : decode cX5_init 4 = .ok (.return_, 1) := by decide +kernel
theorem dX5_look_0 : decode cX5_look 0 = .ok (.aload_n 0, 1) := by decide +kernel
theorem dX5_look_1 : decode cX5_look 1 = .ok (.lconst 0, 1) := by decide +kernel
theorem dX5_look_2 : decode cX5_look 2 = .ok (.putfield 7, 3) := by decide +kernel
theorem dX5_look_5 : decode cX5_look 5 = .ok (.aload_n 0, 1) := by decide +kernel
theorem dX5_look_6 : decode cX5_look 6 = .ok (.lconst 0, 1) := by decide +kernel
theorem dX5_look_7 : decode cX5_look 7 = .ok (.putfield 13, 3) := by decide +kernel
theorem dX5_look_10 : decode cX5_look 10 = .ok (.aload_n 0, 1) := by decide +kernel
theorem dX5_look_11 : decode cX5_look 11 = .ok (.lconst 0, 1) := by decide +kernel
theorem dX5_look_12 : decode cX5_look 12 = .ok (.putfield 16, 3) := by decide +kernel
theorem dX5_look_15 : decode cX5_look 15 = .ok (.iconst 0, 1) := by decide +kernel
theorem dX5_look_16 : decode cX5_look 16 = .ok (.istore 6, 2) := by decide +kernel
theorem dX5_look_18 : decode cX5_look 18 = .ok (.iload 6, 2) := by decide +kernel
theorem dX5_look_20 : decode cX5_look 20 = .ok (.aload_n 1, 1) := by decide +kernel
theorem dX5_look_21 : decode cX5_look 21 = .ok (.getfield 19, 3) := by decide +kernel
theorem dX5_look_24 : decode cX5_look 24 = .ok (.if_icmp .ge 146, 3) := by decide +kernel
theorem dX5_look_27 : decode cX5_look 27 = .ok (.aload_n 1, 1) := by decide +kernel
theorem dX5_look_28 : decode cX5_look 28 = .ok (.getfield 25, 3) := by decide +kernel
theorem dX5_look_31 : decode cX5_look 31 = .ok (.iload 6, 2) := by decide +kernel
theorem dX5_look_33 : decode cX5_look 33 = .ok (.iaload, 1) := by decide +kernel
theorem dX5_look_34 : decode cX5_look 34 = .ok (.istore 7, 2) := by decide +kernel
theorem dX5_look_36 : decode cX5_look 36 = .ok (.aload_n 1, 1) := by decide +kernel
theorem dX5_look_37 : decode cX5_look 37 = .ok (.getfield 29, 3) := by decide +kernel
theorem dX5_look_40 : decode cX5_look 40 = .ok (.iload 6, 2) := by decide +kernel
theorem dX5_look_42 : decode cX5_look 42 = .ok (.iaload, 1) := by decide +kernel
theorem dX5_look_43 : decode cX5_look 43 = .ok (.istore 8, 2) := by decide +kernel
theorem dX5_look_45 : decode cX5_look 45 = .ok (.aload_n 1, 1) := by decide +kernel
theorem dX5_look_46 : decode cX5_look 46 = .ok (.getfield 32, 3) := by decide +kernel
theorem dX5_look_49 : decode cX5_look 49 = .ok (.iload 6, 2) := by decide +kernel
theorem dX5_look_51 : decode cX5_look 51 = .ok (.iaload, 1) := by decide +kernel
theorem dX5_look_52 : decode cX5_look 52 = .ok (.i2l, 1) := by decide +kernel
theorem dX5_look_53 : decode cX5_look 53 = .ok (.aload_n 1, 1) := by decide +kernel
theorem dX5_look_54 : decode cX5_look 54 = .ok (.iload 6, 2) := by decide +kernel
theorem dX5_look_56 : decode cX5_look 56 = .ok (.invokevirtual 35, 3) := by decide +kernel
theorem dX5_look_59 : decode cX5_look 59 = .ok (.lmul, 1) := by decide +kernel
theorem dX5_look_60 : decode cX5_look 60 = .ok (.lstore 9, 2) := by decide +kernel
theorem dX5_look_62 : decode cX5_look 62 = .ok (.aload_n 0, 1) := by decide +kernel
theorem dX5_look_63 : decode cX5_look 63 = .ok (.dup, 1) := by decide +kernel
theorem dX5_look_64 : decode cX5_look 64 = .ok (.getfield 7, 3) := by decide +kernel
theorem dX5_look_67 : decode cX5_look 67 = .ok (.lload 9, 2) := by decide +kernel
theorem dX5_look_69 : decode cX5_look 69 = .ok (.lload_n 2, 1) := by decide +kernel
theorem dX5_look_70 : decode cX5_look 70 = .ok (.iload 7, 2) := by decide +kernel
theorem dX5_look_72 : decode cX5_look 72 = .ok (.invokestatic 39, 3) := by decide +kernel
theorem dX5_look_75 : decode cX5_look 75 = .ok (.lmul, 1) := by decide +kernel
theorem dX5_look_76 : decode cX5_look 76 = .ok (.lload 4, 2) := by decide +kernel
theorem dX5_look_78 : decode cX5_look 78 = .ok (.iload 8, 2) := by decide +kernel
theorem dX5_look_80 : decode cX5_look 80 = .ok (.invokestatic 39, 3) := by decide +kernel
theorem dX5_look_83 : decode cX5_look 83 = .ok (.lmul, 1) := by decide +kernel
theorem dX5_look_84 : decode cX5_look 84 = .ok (.ladd, 1) := by decide +kernel
theorem dX5_look_85 : decode cX5_look 85 = .ok (.putfield 7, 3) := by decide +kernel
theorem dX5_look_88 : decode cX5_look 88 = .ok (.iload 7, 2) := by decide +kernel
theorem dX5_look_90 : decode cX5_look 90 = .ok (.iconst 1, 1) := by decide +kernel
theorem dX5_look_91 : decode cX5_look 91 = .ok (.if_icmp .lt 35, 3) := by decide +kernel
theorem dX5_look_94 : decode cX5_look 94 = .ok (.aload_n 0, 1) := by decide +kernel
theorem dX5_look_95 : decode cX5_look 95 = .ok (.dup, 1) := by decide +kernel
theorem dX5_look_96 : decode cX5_look 96 = .ok (.getfield 13, 3) := by decide +kernel
theorem dX5_look_99 : decode cX5_look 99 = .ok (.lload 9, 2) := by decide +kernel
theorem dX5_look_101 : decode cX5_look 101 = .ok (.iload 7, 2) := by decide +kernel
theorem dX5_look_103 : decode cX5_look 103 = .ok (.i2l, 1) := by decide +kernel
theorem dX5_look_104 : decode cX5_look 104 = .ok (.lmul, 1) := by decide +kernel
theorem dX5_look_105 : decode cX5_look 105 = .ok (.lload_n 2, 1) := by decide +kernel
theorem dX5_look_106 : decode cX5_look 106 = .ok (.iload 7, 2) := by decide +kernel
theorem dX5_look_108 : decode cX5_look 108 = .ok (.iconst 1, 1) := by decide +kernel
theorem dX5_look_109 : decode cX5_look 109 = .ok (.isub, 1) := by decide +kernel
theorem dX5_look_110 : decode cX5_look 110 = .ok (.invokestatic 39, 3) := by decide +kernel
theorem dX5_look_113 : decode cX5_look 113 = .ok (.lmul, 1) := by decide +kernel
theorem dX5_look_114 : decode cX5_look 114 = .ok (.lload 4, 2) := by decide +kernel
theorem dX5_look_116 : decode cX5_look 116 = .ok (.iload 8, 2) := by decide +kernel
theorem dX5_look_118 : decode cX5_look 118 = .ok (.invokestatic 39, 3) := by decide +kernel
theorem dX5_look_121 : decode cX5_look 121 = .ok (.lmul, 1) := by decide +kernel
theorem dX5_look_122 : decode cX5_look 122 = .ok (.ladd, 1) := by decide +kernel
theorem dX5_look_123 : decode cX5_look 123 = .ok (.putfield 13, 3) := by decide +kernel
theorem dX5_look_126 : decode cX5_look 126 = .ok (.iload 8, 2) := by decide +kernel
theorem dX5_look_128 : decode cX5_look 128 = .ok (.iconst 1, 1) := by decide +kernel
theorem dX5_look_129 : decode cX5_look 129 = .ok (.if_icmp .lt 35, 3) := by decide +kernel
theorem dX5_look_132 : decode cX5_look 132 = .ok (.aload_n 0, 1) := by decide +kernel
theorem dX5_look_133 : decode cX5_look 133 = .ok (.dup, 1) := by decide +kernel
theorem dX5_look_134 : decode cX5_look 134 = .ok (.getfield 16, 3) := by decide +kernel
theorem dX5_look_137 : decode cX5_look 137 = .ok (.lload 9, 2) := by decide +kernel
theorem dX5_look_139 : decode cX5_look 139 = .ok (.iload 8, 2) := by decide +kernel
theorem dX5_look_141 : decode cX5_look 141 = .ok (.i2l, 1) := by decide +kernel
theorem dX5_look_142 : decode cX5_look 142 = .ok (.lmul, 1) := by decide +kernel
theorem dX5_look_143 : decode cX5_look 143 = .ok (.lload_n 2, 1) := by decide +kernel
theorem dX5_look_144 : decode cX5_look 144 = .ok (.iload 7, 2) := by decide +kernel
theorem dX5_look_146 : decode cX5_look 146 = .ok (.invokestatic 39, 3) := by decide +kernel
theorem dX5_look_149 : decode cX5_look 149 = .ok (.lmul, 1) := by decide +kernel
theorem dX5_look_150 : decode cX5_look 150 = .ok (.lload 4, 2) := by decide +kernel
theorem dX5_look_152 : decode cX5_look 152 = .ok (.iload 8, 2) := by decide +kernel
theorem dX5_look_154 : decode cX5_look 154 = .ok (.iconst 1, 1) := by decide +kernel
theorem dX5_look_155 : decode cX5_look 155 = .ok (.isub, 1) := by decide +kernel
theorem dX5_look_156 : decode cX5_look 156 = .ok (.invokestatic 39, 3) := by decide +kernel
theorem dX5_look_159 : decode cX5_look 159 = .ok (.lmul, 1) := by decide +kernel
theorem dX5_look_160 : decode cX5_look 160 = .ok (.ladd, 1) := by decide +kernel
theorem dX5_look_161 : decode cX5_look 161 = .ok (.putfield 16, 3) := by decide +kernel
theorem dX5_look_164 : decode cX5_look 164 = .ok (.iinc 6 1, 3) := by decide +kernel
theorem dX5_look_167 : decode cX5_look 167 = .ok (.goto (-149), 3) := by decide +kernel
theorem dX5_look_170 : decode cX5_look 170 = .ok (.return_, 1) := by decide +kernel
theorem dX5_steepness_0 : decode cX5_steepness 0 = .ok (.aload_n 0, 1) := by decide +kernel
theorem dX5_steepness_1 : decode cX5_steepness 1 = .ok (.getfield 13, 3) := by decide +kernel
theorem dX5_steepness_4 : decode cX5_steepness 4 = .ok (.aload_n 0, 1) := by decide +kernel
theorem dX5_steepness_5 : decode cX5_steepness 5 = .ok (.getfield 13, 3) := by decide +kernel
theorem dX5_steepness_8 : decode cX5_steepness 8 = .ok (.lmul, 1) := by decide +kernel
theorem dX5_steepness_9 : decode cX5_steepness 9 = .ok (.aload_n 0, 1) := by decide +kernel
theorem dX5_steepness_10 : decode cX5_steepness 10 = .ok (.getfield 16, 3) := by decide +kernel
theorem dX5_steepness_13 : decode cX5_steepness 13 = .ok (.aload_n 0, 1) := by decide +kernel
theorem dX5_steepness_14 : decode cX5_steepness 14 = .ok (.getfield 16, 3) := by decide +kernel
theorem dX5_steepness_17 : decode cX5_steepness 17 = .ok (.lmul, 1) := by decide +kernel
theorem dX5_steepness_18 : decode cX5_steepness 18 = .ok (.ladd, 1) := by decide +kernel
theorem dX5_steepness_19 : decode cX5_steepness 19 = .ok (.lreturn, 1) := by decide +kernel
theorem dX6_init_0 : decode cX6_init 0 = .ok (.aload_n 0, 1) := by decide +kernel
theorem dX6_init_1 : decode cX6_init 1 = .ok (.invokespecial 1, 3) := by decide +kernel
theorem dX6_init_4 : decode cX6_init 4 = .ok (.aload_n 0, 1) := by decide +kernel
theorem dX6_init_5 : decode cX6_init 5 = .ok (.new 7, 3) := by decide +kernel
theorem dX6_init_8 : decode cX6_init 8 = .ok (.dup, 1) := by decide +kernel
theorem dX6_init_9 : decode cX6_init 9 = .ok (.invokespecial 9, 3) := by decide +kernel
theorem dX6_init_12 : decode cX6_init 12 = .ok (.putfield 10, 3) := by decide +kernel
theorem dX6_init_15 : decode cX6_init 15 = .ok (.aload_n 0, 1) := by decide +kernel
theorem dX6_init_16 : decode cX6_init 16 = .ok (.new 16, 3) := by decide +kernel
theorem dX6_init_19 : decode cX6_init 19 = .ok (.dup, 1) := by decide +kernel
theorem dX6_init_20 : decode cX6_init 20 = .ok (.invokespecial 18, 3) := by decide +kernel
theorem dX6_init_23 : decode cX6_init 23 = .ok (.putfield 19, 3) := by decide +kernel
theorem dX6_init_26 : decode cX6_init 26 = .ok (.aload_n 0, 1) := by decide +kernel
theorem dX6_init_27 : decode cX6_init 27 = .ok (.new 23, 3) := by decide +kernel
theorem dX6_init_30 : decode cX6_init 30 = .ok (.dup, 1) := by decide +kernel
theorem dX6_init_31 : decode cX6_init 31 = .ok (.invokespecial 25, 3) := by decide +kernel
theorem dX6_init_34 : decode cX6_init 34 = .ok (.putfield 26, 3) := by decide +kernel
theorem dX6_init_37 : decode cX6_init 37 = .ok (.return_, 1) := by decide +kernel
theorem dX6_copyFrom_0 : decode cX6_copyFrom 0 = .ok (.aload_n 0, 1) := by decide +kernel
theorem dX6_copyFrom_1 : decode cX6_copyFrom 1 = .ok (.getfield 10, 3) := by decide +kernel
theorem dX6_copyFrom_4 : decode cX6_copyFrom 4 = .ok (.aload_n 1, 1) := by decide +kernel
theorem dX6_copyFrom_5 : decode cX6_copyFrom 5 = .ok (.getfield 10, 3) := by decide +kernel
theorem dX6_copyFrom_8 : decode cX6_copyFrom 8 = .ok (.invokevirtual 30, 3) := by decide +kernel
theorem dX6_copyFrom_11 : decode cX6_copyFrom 11 = .ok (.aload_n 0, 1) := by decide +kernel
theorem dX6_copyFrom_12 : decode cX6_copyFrom 12 = .ok (.getfield 19, 3) := by decide +kernel
theorem dX6_copyFrom_15 : decode cX6_copyFrom 15 = .ok (.aload_n 1, 1) := by decide +kernel
theorem dX6_copyFrom_16 : decode cX6_copyFrom 16 = .ok (.getfield 19, 3) := by decide +kernel
theorem dX6_copyFrom_19 : decode cX6_copyFrom 19 = .ok (.invokevirtual 34, 3) := by decide +kernel
theorem dX6_copyFrom_22 : decode cX6_copyFrom 22 = .ok (.aload_n 0, 1) := by decide +kernel
theorem dX6_copyFrom_23 : decode cX6_copyFrom 23 = .ok (.getfield 26, 3) := by decide +kernel
theorem dX6_copyFrom_26 : decode cX6_copyFrom 26 = .ok (.aload_n 1, 1) := by decide +kernel
theorem dX6_copyFrom_27 : decode cX6_copyFrom 27 = .ok (.getfield 26, 3) := by decide +kernel
theorem dX6_copyFrom_30 : decode cX6_copyFrom 30 = .ok (.invokevirtual 37, 3) := by decide +kernel
theorem dX6_copyFrom_33 : decode cX6_copyFrom 33 = .ok (.return_, 1) := by decide +kernel
theorem dX7_init_0 : decode cX7_init 0 = .ok (.aload_n 0, 1) := by decide +kernel
theorem dX7_init_1 : decode cX7_init 1 = .ok (.invokespecial 3, 3) := by decide +kernel
theorem dX7_init_4 : decode cX7_init 4 = .ok (.aload_n 0, 1) := by decide +kernel
theorem dX7_init_5 : decode cX7_init 5 = .ok (.bipush 6, 2) := by decide +kernel
theorem dX7_init_7 : decode cX7_init 7 = .ok (.newarray .int, 2) := by decide +kernel
theorem dX7_init_9 : decode cX7_init 9 = .ok (.putfield 9, 3) := by decide +kernel
theorem dX7_init_12 : decode cX7_init 12 = .ok (.aload_n 0, 1) := by decide +kernel
theorem dX7_init_13 : decode cX7_init 13 = .ok (.bipush 6, 2) := by decide +kernel
theorem dX7_init_15 : decode cX7_init 15 = .ok (.newarray .int, 2) := by decide +kernel
theorem dX7_init_17 : decode cX7_init 17 = .ok (.putfield 15, 3) := by decide +kernel
theorem dX7_init_20 : decode cX7_init 20 = .ok (.aload_n 0, 1) := by decide +kernel
theorem dX7_init_21 : decode cX7_init 21 = .ok (.bipush 6, 2) := by decide +kernel
theorem dX7_init_23 : decode cX7_init 23 = .ok (.newarray .int, 2) := by decide +kernel
theorem dX7_init_25 : decode cX7_init 25 = .ok (.putfield 18, 3) := by decide +kernel
theorem dX7_init_28 : decode cX7_init 28 = .ok (.return_, 1) := by decide +kernel
theorem dX7_has_0 : decode cX7_has 0 = .ok (.iload_n 1, 1) := by decide +kernel
theorem dX7_has_1 : decode cX7_has 1 = .ok (.ifCond .lt 15, 3) := by decide +kernel
theorem dX7_has_4 : decode cX7_has 4 = .ok (.iload_n 1, 1) := by decide +kernel
theorem dX7_has_5 : decode cX7_has 5 = .ok (.aload_n 0, 1) := by decide +kernel
theorem dX7_has_6 : decode cX7_has 6 = .ok (.getfield 21, 3) := by decide +kernel
theorem dX7_has_9 : decode cX7_has 9 = .ok (.if_icmp .ge 7, 3) := by decide +kernel
theorem dX7_has_12 : decode cX7_has 12 = .ok (.iconst 1, 1) := by decide +kernel
theorem dX7_has_13 : decode cX7_has 13 = .ok (.goto 4, 3) := by decide +kernel
theorem dX7_has_16 : decode cX7_has 16 = .ok (.iconst 0, 1) := by decide +kernel
theorem dX7_has_17 : decode cX7_has 17 = .ok (.ireturn, 1) := by decide +kernel
theorem dX7_isFull_0 : decode cX7_isFull 0 = .ok (.aload_n 0, 1) := by decide +kernel
theorem dX7_isFull_1 : decode cX7_isFull 1 = .ok (.getfield 21, 3) := by decide +kernel
theorem dX7_isFull_4 : decode cX7_isFull 4 = .ok (.bipush 6, 2) := by decide +kernel
theorem dX7_isFull_6 : decode cX7_isFull 6 = .ok (.if_icmp .lt 7, 3) := by decide +kernel
theorem dX7_isFull_9 : decode cX7_isFull 9 = .ok (.iconst 1, 1) := by decide +kernel
theorem dX7_isFull_10 : decode cX7_isFull 10 = .ok (.goto 4, 3) := by decide +kernel
theorem dX7_isFull_13 : decode cX7_isFull 13 = .ok (.iconst 0, 1) := by decide +kernel
theorem dX7_isFull_14 : decode cX7_isFull 14 = .ok (.ireturn, 1) := by decide +kernel
theorem dX7_add_0 : decode cX7_add 0 = .ok (.aload_n 0, 1) := by decide +kernel
theorem dX7_add_1 : decode cX7_add 1 = .ok (.invokevirtual 25, 3) := by decide +kernel
theorem dX7_add_4 : decode cX7_add 4 = .ok (.ifCond .eq 4, 3) := by decide +kernel
theorem dX7_add_7 : decode cX7_add 7 = .ok (.return_, 1) := by decide +kernel
theorem dX7_add_8 : decode cX7_add 8 = .ok (.aload_n 0, 1) := by decide +kernel
theorem dX7_add_9 : decode cX7_add 9 = .ok (.getfield 9, 3) := by decide +kernel
theorem dX7_add_12 : decode cX7_add 12 = .ok (.aload_n 0, 1) := by decide +kernel
theorem dX7_add_13 : decode cX7_add 13 = .ok (.getfield 21, 3) := by decide +kernel
theorem dX7_add_16 : decode cX7_add 16 = .ok (.iload_n 1, 1) := by decide +kernel
theorem dX7_add_17 : decode cX7_add 17 = .ok (.iastore, 1) := by decide +kernel
theorem dX7_add_18 : decode cX7_add 18 = .ok (.aload_n 0, 1) := by decide +kernel
theorem dX7_add_19 : decode cX7_add 19 = .ok (.getfield 15, 3) := by decide +kernel
theorem dX7_add_22 : decode cX7_add 22 = .ok (.aload_n 0, 1) := by decide +kernel
theorem dX7_add_23 : decode cX7_add 23 = .ok (.getfield 21, 3) := by decide +kernel
theorem dX7_add_26 : decode cX7_add 26 = .ok (.iload_n 2, 1) := by decide +kernel
theorem dX7_add_27 : decode cX7_add 27 = .ok (.iastore, 1) := by decide +kernel
theorem dX7_add_28 : decode cX7_add 28 = .ok (.aload_n 0, 1) := by decide +kernel
theorem dX7_add_29 : decode cX7_add 29 = .ok (.getfield 18, 3) := by decide +kernel
theorem dX7_add_32 : decode cX7_add 32 = .ok (.aload_n 0, 1) := by decide +kernel
theorem dX7_add_33 : decode cX7_add 33 = .ok (.getfield 21, 3) := by decide +kernel
theorem dX7_add_36 : decode cX7_add 36 = .ok (.iload_n 3, 1) := by decide +kernel
theorem dX7_add_37 : decode cX7_add 37 = .ok (.iastore, 1) := by decide +kernel
theorem dX7_add_38 : decode cX7_add 38 = .ok (.aload_n 0, 1) := by decide +kernel
theorem dX7_add_39 : decode cX7_add 39 = .ok (.dup, 1) := by decide +kernel
theorem dX7_add_40 : decode cX7_add 40 = .ok (.getfield 21, 3) := by decide +kernel
theorem dX7_add_43 : decode cX7_add 43 = .ok (.iconst 1, 1) := by decide +kernel
theorem dX7_add_44 : decode cX7_add 44 = .ok (.iadd, 1) := by decide +kernel
theorem dX7_add_45 : decode cX7_add 45 = .ok (.putfield 21, 3) := by decide +kernel
theorem dX7_add_48 : decode cX7_add 48 = .ok (.return_, 1) := by decide +kernel
theorem dX7_remove_0 : decode cX7_remove 0 = .ok (.aload_n 0, 1) := by decide +kernel
theorem dX7_remove_1 : decode cX7_remove 1 = .ok (.iload_n 1, 1) := by decide +kernel
theorem dX7_remove_2 : decode cX7_remove 2 = .ok (.invokevirtual 29, 3) := by decide +kernel
theorem dX7_remove_5 : decode cX7_remove 5 = .ok (.ifCond .ne 5, 3) := by decide +kernel
theorem dX7_remove_8 : decode cX7_remove 8 = .ok (.iconst 0, 1) := by decide +kernel
theorem dX7_remove_9 : decode cX7_remove 9 = .ok (.ireturn, 1) := by decide +kernel
theorem dX7_remove_10 : decode cX7_remove 10 = .ok (.aload_n 0, 1) := by decide +kernel
theorem dX7_remove_11 : decode cX7_remove 11 = .ok (.getfield 9, 3) := by decide +kernel
theorem dX7_remove_14 : decode cX7_remove 14 = .ok (.iload_n 1, 1) := by decide +kernel
theorem dX7_remove_15 : decode cX7_remove 15 = .ok (.iaload, 1) := by decide +kernel
theorem dX7_remove_16 : decode cX7_remove 16 = .ok (.istore_n 2, 1) := by decide +kernel
theorem dX7_remove_17 : decode cX7_remove 17 = .ok (.aload_n 0, 1) := by decide +kernel
theorem dX7_remove_18 : decode cX7_remove 18 = .ok (.dup, 1) := by decide +kernel
theorem dX7_remove_19 : decode cX7_remove 19 = .ok (.getfield 21, 3) := by decide +kernel
theorem dX7_remove_22 : decode cX7_remove 22 = .ok (.iconst 1, 1) := by decide +kernel
theorem dX7_remove_23 : decode cX7_remove 23 = .ok (.isub, 1) := by decide +kernel
theorem dX7_remove_24 : decode cX7_remove 24 = .ok (.putfield 21, 3) := by decide +kernel
theorem dX7_remove_27 : decode cX7_remove 27 = .ok (.iload_n 1, 1) := by decide +kernel
theorem dX7_remove_28 : decode cX7_remove 28 = .ok (.istore_n 3, 1) := by decide +kernel
theorem dX7_remove_29 : decode cX7_remove 29 = .ok (.iload_n 3, 1) := by decide +kernel
theorem dX7_remove_30 : decode cX7_remove 30 = .ok (.aload_n 0, 1) := by decide +kernel
theorem dX7_remove_31 : decode cX7_remove 31 = .ok (.getfield 21, 3) := by decide +kernel
theorem dX7_remove_34 : decode cX7_remove 34 = .ok (.if_icmp .ge 51, 3) := by decide +kernel
theorem dX7_remove_37 : decode cX7_remove 37 = .ok (.aload_n 0, 1) := by decide +kernel
theorem dX7_remove_38 : decode cX7_remove 38 = .ok (.getfield 9, 3) := by decide +kernel
theorem dX7_remove_41 : decode cX7_remove 41 = .ok (.iload_n 3, 1) := by decide +kernel
theorem dX7_remove_42 : decode cX7_remove 42 = .ok (.aload_n 0, 1) := by decide +kernel
theorem dX7_remove_43 : decode cX7_remove 43 = .ok (.getfield 9, 3) := by decide +kernel
theorem dX7_remove_46 : decode cX7_remove 46 = .ok (.iload_n 3, 1) := by decide +kernel
theorem dX7_remove_47 : decode cX7_remove 47 = .ok (.iconst 1, 1) := by decide +kernel
theorem dX7_remove_48 : decode cX7_remove 48 = .ok (.iadd, 1) := by decide +kernel
theorem dX7_remove_49 : decode cX7_remove 49 = .ok (.iaload, 1) := by decide +kernel
theorem dX7_remove_50 : decode cX7_remove 50 = .ok (.iastore, 1) := by decide +kernel
theorem dX7_remove_51 : decode cX7_remove 51 = .ok (.aload_n 0, 1) := by decide +kernel
theorem dX7_remove_52 : decode cX7_remove 52 = .ok (.getfield 15, 3) := by decide +kernel
theorem dX7_remove_55 : decode cX7_remove 55 = .ok (.iload_n 3, 1) := by decide +kernel
theorem dX7_remove_56 : decode cX7_remove 56 = .ok (.aload_n 0, 1) := by decide +kernel
theorem dX7_remove_57 : decode cX7_remove 57 = .ok (.getfield 15, 3) := by decide +kernel
theorem dX7_remove_60 : decode cX7_remove 60 = .ok (.iload_n 3, 1) := by decide +kernel
theorem dX7_remove_61 : decode cX7_remove 61 = .ok (.iconst 1, 1) := by decide +kernel
theorem dX7_remove_62 : decode cX7_remove 62 = .ok (.iadd, 1) := by decide +kernel
theorem dX7_remove_63 : decode cX7_remove 63 = .ok (.iaload, 1) := by decide +kernel
theorem dX7_remove_64 : decode cX7_remove 64 = .ok (.iastore, 1) := by decide +kernel
theorem dX7_remove_65 : decode cX7_remove 65 = .ok (.aload_n 0, 1) := by decide +kernel
theorem dX7_remove_66 : decode cX7_remove 66 = .ok (.getfield 18, 3) := by decide +kernel
theorem dX7_remove_69 : decode cX7_remove 69 = .ok (.iload_n 3, 1) := by decide +kernel
theorem dX7_remove_70 : decode cX7_remove 70 = .ok (.aload_n 0, 1) := by decide +kernel
theorem dX7_remove_71 : decode cX7_remove 71 = .ok (.getfield 18, 3) := by decide +kernel
theorem dX7_remove_74 : decode cX7_remove 74 = .ok (.iload_n 3, 1) := by decide +kernel
theorem dX7_remove_75 : decode cX7_remove 75 = .ok (.iconst 1, 1) := by decide +kernel
theorem dX7_remove_76 : decode cX7_remove 76 = .ok (.iadd, 1) := by decide +kernel
theorem dX7_remove_77 : decode cX7_remove 77 = .ok (.iaload, 1) := by decide +kernel
theorem dX7_remove_78 : decode cX7_remove 78 = .ok (.iastore, 1) := by decide +kernel
theorem dX7_remove_79 : decode cX7_remove 79 = .ok (.iinc 3 1, 3) := by decide +kernel
theorem dX7_remove_82 : decode cX7_remove 82 = .ok (.goto (-53), 3) := by decide +kernel
theorem dX7_remove_85 : decode cX7_remove 85 = .ok (.iload_n 2, 1) := by decide +kernel
theorem dX7_remove_86 : decode cX7_remove 86 = .ok (.ireturn, 1) := by decide +kernel
theorem dX7_clear_0 : decode cX7_clear 0 = .ok (.aload_n 0, 1) := by decide +kernel
theorem dX7_clear_1 : decode cX7_clear 1 = .ok (.iconst 0, 1) := by decide +kernel
theorem dX7_clear_2 : decode cX7_clear 2 = .ok (.putfield 21, 3) := by decide +kernel
theorem dX7_clear_5 : decode cX7_clear 5 = .ok (.return_, 1) := by decide +kernel
theorem dX7_scale_0 : decode cX7_scale 0 = .ok (.aload_n 0, 1) := by decide +kernel
theorem dX7_scale_1 : decode cX7_scale 1 = .ok (.iload_n 1, 1) := by decide +kernel
theorem dX7_scale_2 : decode cX7_scale 2 = .ok (.invokevirtual 29, 3) := by decide +kernel
theorem dX7_scale_5 : decode cX7_scale 5 = .ok (.ifCond .eq 27, 3) := by decide +kernel
theorem dX7_scale_8 : decode cX7_scale 8 = .ok (.ldc2_w 41, 3) := by decide +kernel
theorem dX7_scale_11 : decode cX7_scale 11 = .ok (.iconst 3, 1) := by decide +kernel
theorem dX7_scale_12 : decode cX7_scale 12 = .ok (.aload_n 0, 1) := by decide +kernel
theorem dX7_scale_13 : decode cX7_scale 13 = .ok (.getfield 15, 3) := by decide +kernel
theorem dX7_scale_16 : decode cX7_scale 16 = .ok (.iload_n 1, 1) := by decide +kernel
theorem dX7_scale_17 : decode cX7_scale 17 = .ok (.iaload, 1) := by decide +kernel
theorem dX7_scale_18 : decode cX7_scale 18 = .ok (.isub, 1) := by decide +kernel
theorem dX7_scale_19 : decode cX7_scale 19 = .ok (.aload_n 0, 1) := by decide +kernel
theorem dX7_scale_20 : decode cX7_scale 20 = .ok (.getfield 18, 3) := by decide +kernel
theorem dX7_scale_23 : decode cX7_scale 23 = .ok (.iload_n 1, 1) := by decide +kernel
theorem dX7_scale_24 : decode cX7_scale 24 = .ok (.iaload, 1) := by decide +kernel
theorem dX7_scale_25 : decode cX7_scale 25 = .ok (.isub, 1) := by decide +kernel
theorem dX7_scale_26 : decode cX7_scale 26 = .ok (.invokestatic 33, 3) := by decide +kernel
theorem dX7_scale_29 : decode cX7_scale 29 = .ok (.goto 4, 3) := by decide +kernel
theorem dX7_scale_32 : decode cX7_scale 32 = .ok (.lconst 0, 1) := by decide +kernel
theorem dX7_scale_33 : decode cX7_scale 33 = .ok (.lreturn, 1) := by decide +kernel
theorem dX7_copyFrom_0 : decode cX7_copyFrom 0 = .ok (.aload_n 0, 1) := by decide +kernel
theorem dX7_copyFrom_1 : decode cX7_copyFrom 1 = .ok (.aload_n 1, 1) := by decide +kernel
theorem dX7_copyFrom_2 : decode cX7_copyFrom 2 = .ok (.getfield 21, 3) := by decide +kernel
theorem dX7_copyFrom_5 : decode cX7_copyFrom 5 = .ok (.putfield 21, 3) := by decide +kernel
theorem dX7_copyFrom_8 : decode cX7_copyFrom 8 = .ok (.iconst 0, 1) := by decide +kernel
theorem dX7_copyFrom_9 : decode cX7_copyFrom 9 = .ok (.istore_n 2, 1) := by decide +kernel
theorem dX7_copyFrom_10 : decode cX7_copyFrom 10 = .ok (.iload_n 2, 1) := by decide +kernel
theorem dX7_copyFrom_11 : decode cX7_copyFrom 11 = .ok (.aload_n 0, 1) := by decide +kernel
theorem dX7_copyFrom_12 : decode cX7_copyFrom 12 = .ok (.getfield 21, 3) := by decide +kernel
theorem dX7_copyFrom_15 : decode cX7_copyFrom 15 = .ok (.if_icmp .ge 45, 3) := by decide +kernel
theorem dX7_copyFrom_18 : decode cX7_copyFrom 18 = .ok (.aload_n 0, 1) := by decide +kernel
theorem dX7_copyFrom_19 : decode cX7_copyFrom 19 = .ok (.getfield 9, 3) := by decide +kernel
theorem dX7_copyFrom_22 : decode cX7_copyFrom 22 = .ok (.iload_n 2, 1) := by decide +kernel
theorem dX7_copyFrom_23 : decode cX7_copyFrom 23 = .ok (.aload_n 1, 1) := by decide +kernel
theorem dX7_copyFrom_24 : decode cX7_copyFrom 24 = .ok (.getfield 9, 3) := by decide +kernel
theorem dX7_copyFrom_27 : decode cX7_copyFrom 27 = .ok (.iload_n 2, 1) := by decide +kernel
theorem dX7_copyFrom_28 : decode cX7_copyFrom 28 = .ok (.iaload, 1) := by decide +kernel
theorem dX7_copyFrom_29 : decode cX7_copyFrom 29 = .ok (.iastore, 1) := by decide +kernel
theorem dX7_copyFrom_30 : decode cX7_copyFrom 30 = .ok (.aload_n 0, 1) := by decide +kernel
theorem dX7_copyFrom_31 : decode cX7_copyFrom 31 = .ok (.getfield 15, 3) := by decide +kernel
theorem dX7_copyFrom_34 : decode cX7_copyFrom 34 = .ok (.iload_n 2, 1) := by decide +kernel
theorem dX7_copyFrom_35 : decode cX7_copyFrom 35 = .ok (.aload_n 1, 1) := by decide +kernel
theorem dX7_copyFrom_36 : decode cX7_copyFrom 36 = .ok (.getfield 15, 3) := by decide +kernel
theorem dX7_copyFrom_39 : decode cX7_copyFrom 39 = .ok (.iload_n 2, 1) := by decide +kernel
theorem dX7_copyFrom_40 : decode cX7_copyFrom 40 = .ok (.iaload, 1) := by decide +kernel
theorem dX7_copyFrom_41 : decode cX7_copyFrom 41 = .ok (.iastore, 1) := by decide +kernel
theorem dX7_copyFrom_42 : decode cX7_copyFrom 42 = .ok (.aload_n 0, 1) := by decide +kernel
theorem dX7_copyFrom_43 : decode cX7_copyFrom 43 = .ok (.getfield 18, 3) := by decide +kernel
theorem dX7_copyFrom_46 : decode cX7_copyFrom 46 = .ok (.iload_n 2, 1) := by decide +kernel
theorem dX7_copyFrom_47 : decode cX7_copyFrom 47 = .ok (.aload_n 1, 1) := by decide +kernel
theorem dX7_copyFrom_48 : decode cX7_copyFrom 48 = .ok (.getfield 18, 3) := by decide +kernel
theorem dX7_copyFrom_51 : decode cX7_copyFrom 51 = .ok (.iload_n 2, 1) := by decide +kernel
theorem dX7_copyFrom_52 : decode cX7_copyFrom 52 = .ok (.iaload, 1) := by decide +kernel
theorem dX7_copyFrom_53 : decode cX7_copyFrom 53 = .ok (.iastore, 1) := by decide +kernel
theorem dX7_copyFrom_54 : decode cX7_copyFrom 54 = .ok (.iinc 2 1, 3) := by decide +kernel
theorem dX7_copyFrom_57 : decode cX7_copyFrom 57 = .ok (.goto (-47), 3) := by decide +kernel
theorem dX7_copyFrom_60 : decode cX7_copyFrom 60 = .ok (.return_, 1) := by decide +kernel
theorem dX8_init_0 : decode cX8_init 0 = .ok (.aload_n 0, 1) := by decide +kernel
theorem dX8_init_1 : decode cX8_init 1 = .ok (.invokespecial 3, 3) := by decide +kernel
theorem dX8_init_4 : decode cX8_init 4 = .ok (.aload_n 0, 1) := by decide +kernel
theorem dX8_init_5 : decode cX8_init 5 = .ok (.bipush 60, 2) := by decide +kernel
theorem dX8_init_7 : decode cX8_init 7 = .ok (.newarray .int, 2) := by decide +kernel
theorem dX8_init_9 : decode cX8_init 9 = .ok (.putfield 9, 3) := by decide +kernel
theorem dX8_init_12 : decode cX8_init 12 = .ok (.return_, 1) := by decide +kernel
theorem dX8_isFull_0 : decode cX8_isFull 0 = .ok (.aload_n 0, 1) := by decide +kernel
theorem dX8_isFull_1 : decode cX8_isFull 1 = .ok (.getfield 15, 3) := by decide +kernel
theorem dX8_isFull_4 : decode cX8_isFull 4 = .ok (.bipush 60, 2) := by decide +kernel
theorem dX8_isFull_6 : decode cX8_isFull 6 = .ok (.if_icmp .lt 7, 3) := by decide +kernel
theorem dX8_isFull_9 : decode cX8_isFull 9 = .ok (.iconst 1, 1) := by decide +kernel
theorem dX8_isFull_10 : decode cX8_isFull 10 = .ok (.goto 4, 3) := by decide +kernel
theorem dX8_isFull_13 : decode cX8_isFull 13 = .ok (.iconst 0, 1) := by decide +kernel
theorem dX8_isFull_14 : decode cX8_isFull 14 = .ok (.ireturn, 1) := by decide +kernel
theorem dX8_append_0 : decode cX8_append 0 = .ok (.aload_n 0, 1) := by decide +kernel
theorem dX8_append_1 : decode cX8_append 1 = .ok (.invokevirtual 19, 3) := by decide +kernel
theorem dX8_append_4 : decode cX8_append 4 = .ok (.ifCond .eq 4, 3) := by decide +kernel
theorem dX8_append_7 : decode cX8_append 7 = .ok (.return_, 1) := by decide +kernel
theorem dX8_append_8 : decode cX8_append 8 = .ok (.aload_n 0, 1) := by decide +kernel
theorem dX8_append_9 : decode cX8_append 9 = .ok (.getfield 9, 3) := by decide +kernel
theorem dX8_append_12 : decode cX8_append 12 = .ok (.aload_n 0, 1) := by decide +kernel
theorem dX8_append_13 : decode cX8_append 13 = .ok (.getfield 15, 3) := by decide +kernel
theorem dX8_append_16 : decode cX8_append 16 = .ok (.iload_n 1, 1) := by decide +kernel
theorem dX8_append_17 : decode cX8_append 17 = .ok (.iastore, 1) := by decide +kernel
theorem dX8_append_18 : decode cX8_append 18 = .ok (.aload_n 0, 1) := by decide +kernel
theorem dX8_append_19 : decode cX8_append 19 = .ok (.dup, 1) := by decide +kernel
theorem dX8_append_20 : decode cX8_append 20 = .ok (.getfield 15, 3) := by decide +kernel
theorem dX8_append_23 : decode cX8_append 23 = .ok (.iconst 1, 1) := by decide +kernel
theorem dX8_append_24 : decode cX8_append 24 = .ok (.iadd, 1) := by decide +kernel
theorem dX8_append_25 : decode cX8_append 25 = .ok (.putfield 15, 3) := by decide +kernel
theorem dX8_append_28 : decode cX8_append 28 = .ok (.return_, 1) := by decide +kernel
theorem dX9_init_0 : decode cX9_init 0 = .ok (.aload_n 0, 1) := by decide +kernel
theorem dX9_init_1 : decode cX9_init 1 = .ok (.invokespecial 3, 3) := by decide +kernel
theorem dX9_init_4 : decode cX9_init 4 = .ok (.aload_n 0, 1) := by decide +kernel
theorem dX9_init_5 : decode cX9_init 5 = .ok (.bipush 40, 2) := by decide +kernel
theorem dX9_init_7 : decode cX9_init 7 = .ok (.newarray .int, 2) := by decide +kernel
theorem dX9_init_9 : decode cX9_init 9 = .ok (.putfield 9, 3) := by decide +kernel
theorem dX9_init_12 : decode cX9_init 12 = .ok (.aload_n 0, 1) := by decide +kernel
theorem dX9_init_13 : decode cX9_init 13 = .ok (.bipush 40, 2) := by decide +kernel
theorem dX9_init_15 : decode cX9_init 15 = .ok (.newarray .int, 2) := by decide +kernel
theorem dX9_init_17 : decode cX9_init 17 = .ok (.putfield 15, 3) := by decide +kernel
theorem dX9_init_20 : decode cX9_init 20 = .ok (.aload_n 0, 1) := by decide +kernel
theorem dX9_init_21 : decode cX9_init 21 = .ok (.bipush 40, 2) := by decide +kernel
theorem dX9_init_23 : decode cX9_init 23 = .ok (.newarray .int, 2) := by decide +kernel
theorem dX9_init_25 : decode cX9_init 25 = .ok (.putfield 18, 3) := by decide +kernel
theorem dX9_init_28 : decode cX9_init 28 = .ok (.aload_n 0, 1) := by decide +kernel
theorem dX9_init_29 : decode cX9_init 29 = .ok (.bipush 40, 2) := by decide +kernel
theorem dX9_init_31 : decode cX9_init 31 = .ok (.newarray .int, 2) := by decide +kernel
theorem dX9_init_33 : decode cX9_init 33 = .ok (.putfield 21, 3) := by decide +kernel
theorem dX9_init_36 : decode cX9_init 36 = .ok (.return_, 1) := by decide +kernel
theorem dX9_start_0 : decode cX9_start 0 = .ok (.aload_n 0, 1) := by decide +kernel
theorem dX9_start_1 : decode cX9_start 1 = .ok (.iconst 0, 1) := by decide +kernel
theorem dX9_start_2 : decode cX9_start 2 = .ok (.putfield 24, 3) := by decide +kernel
theorem dX9_start_5 : decode cX9_start 5 = .ok (.aload_n 0, 1) := by decide +kernel
theorem dX9_start_6 : decode cX9_start 6 = .ok (.iload_n 1, 1) := by decide +kernel
theorem dX9_start_7 : decode cX9_start 7 = .ok (.putfield 28, 3) := by decide +kernel
theorem dX9_start_10 : decode cX9_start 10 = .ok (.aload_n 0, 1) := by decide +kernel
theorem dX9_start_11 : decode cX9_start 11 = .ok (.iload_n 2, 1) := by decide +kernel
theorem dX9_start_12 : decode cX9_start 12 = .ok (.putfield 31, 3) := by decide +kernel
theorem dX9_start_15 : decode cX9_start 15 = .ok (.aload_n 0, 1) := by decide +kernel
theorem dX9_start_16 : decode cX9_start 16 = .ok (.iconst 0, 1) := by decide +kernel
theorem dX9_start_17 : decode cX9_start 17 = .ok (.putfield 34, 3) := by decide +kernel
theorem dX9_start_20 : decode cX9_start 20 = .ok (.aload_n 0, 1) := by decide +kernel
